theorem dKN_begin_0 : decode cKN_begin 0 = .ok (.iconst 0, 1) := by decide +kernel
theorem dKN_begin_1 : decode cKN_begin 1 = .ok (.istore_n 1, 1) := by decide +kernel
theorem dKN_begin_2 : decode cKN_begin 2 = .ok (.iload_n 1, 1) := by decide +kernel
theorem dKN_begin_3 : decode cKN_begin 3 = .ok (.sipush 201, 3) := by decide +kernel
theorem dKN_begin_6 : decode cKN_begin 6 = .ok (.if_icmp .ge 23, 3) := by decide +kernel
theorem dKN_begin_9 : decode cKN_begin 9 = .ok (.aload_n 0, 1) := by decide +kernel
theorem dKN_begin_10 : decode cKN_begin 10 = .ok (.getfield 17, 3) := by decide +kernel
theorem dKN_begin_13 : decode cKN_begin 13 = .ok (.iload_n 1, 1) := by decide +kernel
theorem dKN_begin_14 : decode cKN_begin 14 = .ok (.iconst 0, 1) := by decide +kernel
theorem dKN_begin_15 : decode cKN_begin 15 = .ok (.bastore, 1) := by decide +kernel
theorem dKN_begin_16 : decode cKN_begin 16 = .ok (.aload_n 0, 1) := by decide +kernel
theorem dKN_begin_17 : decode cKN_begin 17 = .ok (.getfield 21, 3) := by decide +kernel
theorem dKN_begin_20 : decode cKN_begin 20 = .ok (.iload_n 1, 1) := by decide +kernel
theorem dKN_begin_21 : decode cKN_begin 21 = .ok (.iconst 0, 1) := by decide +kernel
theorem dKN_begin_22 : decode cKN_begin 22 = .ok (.bastore, 1) := by decide +kernel
theorem dKN_begin_23 : decode cKN_begin 23 = .ok (.iinc 1 1, 3) := by decide +kernel
theorem dKN_begin_26 : decode cKN_begin 26 = .ok (.goto (-24), 3) := by decide +kernel
theorem dKN_begin_29 : decode cKN_begin 29 = .ok (.aload_n 0, 1) := by decide +kernel
theorem dKN_begin_30 : decode cKN_begin 30 = .ok (.getfield 17, 3) := by decide +kernel
theorem dKN_begin_33 : decode cKN_begin 33 = .ok (.iconst 0, 1) := by decide +kernel
theorem dKN_begin_34 : decode cKN_begin 34 = .ok (.iconst 1, 1) := by decide +kernel
theorem dKN_begin_35 : decode cKN_begin 35 = .ok (.bastore, 1) := by decide +kernel
theorem dKN_begin_36 : decode cKN_begin 36 = .ok (.aload_n 0, 1) := by decide +kernel
theorem dKN_begin_37 : decode cKN_begin 37 = .ok (.getfield 21, 3) := by decide +kernel
theorem dKN_begin_40 : decode cKN_begin 40 = .ok (.iconst 0, 1) := by decide +kernel
theorem dKN_begin_41 : decode cKN_begin 41 = .ok (.iconst 1, 1) := by decide +kernel
theorem dKN_begin_42 : decode cKN_begin 42 = .ok (.bastore, 1) := by decide +kernel
theorem dKN_begin_43 : decode cKN_begin 43 = .ok (.aload_n 0, 1) := by decide +kernel
theorem dKN_begin_44 : decode cKN_begin 44 = .ok (.getfield 11, 3) := by decide +kernel
theorem dKN_begin_47 : decode cKN_begin 47 = .ok (.iconst 0, 1) := by decide +kernel
theorem dKN_begin_48 : decode cKN_begin 48 = .ok (.aaload, 1) := by decide +kernel
theorem dKN_begin_49 : decode cKN_begin 49 = .ok (.invokevirtual 64, 3) := by decide +kernel
theorem dKN_begin_52 : decode cKN_begin 52 = .ok (.return_, 1) := by decide +kernel
theorem dKN_flowTo_0 : decode cKN_flowTo 0 = .ok (.iload_n 1, 1) := by decide +kernel
theorem dKN_flowTo_1 : decode cKN_flowTo 1 = .ok (.iconst (-1), 1) := by decide +kernel
theorem dKN_flowTo_2 : decode cKN_flowTo 2 = .ok (.if_icmp .ne 4, 3) := by decide +kernel
theorem dKN_flowTo_5 : decode cKN_flowTo 5 = .ok (.return_, 1) := by decide +kernel
theorem dKN_flowTo_6 : decode cKN_flowTo 6 = .ok (.aload_n 0, 1) := by decide +kernel
theorem dKN_flowTo_7 : decode cKN_flowTo 7 = .ok (.getfield 17, 3) := by decide +kernel
theorem dKN_flowTo_10 : decode cKN_flowTo 10 = .ok (.iload_n 1, 1) := by decide +kernel
theorem dKN_flowTo_11 : decode cKN_flowTo 11 = .ok (.baload, 1) := by decide +kernel
theorem dKN_flowTo_12 : decode cKN_flowTo 12 = .ok (.ifCond .ne 33, 3) := by decide +kernel
theorem dKN_flowTo_15 : decode cKN_flowTo 15 = .ok (.aload_n 0, 1) := by decide +kernel
theorem dKN_flowTo_16 : decode cKN_flowTo 16 = .ok (.getfield 17, 3) := by decide +kernel
theorem dKN_flowTo_19 : decode cKN_flowTo 19 = .ok (.iload_n 1, 1) := by decide +kernel
theorem dKN_flowTo_20 : decode cKN_flowTo 20 = .ok (.iconst 1, 1) := by decide +kernel
theorem dKN_flowTo_21 : decode cKN_flowTo 21 = .ok (.bastore, 1) := by decide +kernel
theorem dKN_flowTo_22 : decode cKN_flowTo 22 = .ok (.aload_n 0, 1) := by decide +kernel
theorem dKN_flowTo_23 : decode cKN_flowTo 23 = .ok (.getfield 21, 3) := by decide +kernel
theorem dKN_flowTo_26 : decode cKN_flowTo 26 = .ok (.iload_n 1, 1) := by decide +kernel
theorem dKN_flowTo_27 : decode cKN_flowTo 27 = .ok (.iconst 1, 1) := by decide +kernel
theorem dKN_flowTo_28 : decode cKN_flowTo 28 = .ok (.bastore, 1) := by decide +kernel
theorem dKN_flowTo_29 : decode cKN_flowTo 29 = .ok (.aload_n 0, 1) := by decide +kernel
theorem dKN_flowTo_30 : decode cKN_flowTo 30 = .ok (.getfield 11, 3) := by decide +kernel
theorem dKN_flowTo_33 : decode cKN_flowTo 33 = .ok (.iload_n 1, 1) := by decide +kernel
theorem dKN_flowTo_34 : decode cKN_flowTo 34 = .ok (.aaload, 1) := by decide +kernel
theorem dKN_flowTo_35 : decode cKN_flowTo 35 = .ok (.aload_n 0, 1) := by decide +kernel
theorem dKN_flowTo_36 : decode cKN_flowTo 36 = .ok (.getfield 25, 3) := by decide +kernel
theorem dKN_flowTo_39 : decode cKN_flowTo 39 = .ok (.invokevirtual 39, 3) := by decide +kernel
theorem dKN_flowTo_42 : decode cKN_flowTo 42 = .ok (.goto 26, 3) := by decide +kernel
theorem dKN_flowTo_45 : decode cKN_flowTo 45 = .ok (.aload_n 0, 1) := by decide +kernel
theorem dKN_flowTo_46 : decode cKN_flowTo 46 = .ok (.getfield 11, 3) := by decide +kernel
theorem dKN_flowTo_49 : decode cKN_flowTo 49 = .ok (.iload_n 1, 1) := by decide +kernel
theorem dKN_flowTo_50 : decode cKN_flowTo 50 = .ok (.aaload, 1) := by decide +kernel
theorem dKN_flowTo_51 : decode cKN_flowTo 51 = .ok (.aload_n 0, 1) := by decide +kernel
theorem dKN_flowTo_52 : decode cKN_flowTo 52 = .ok (.getfield 25, 3) := by decide +kernel
theorem dKN_flowTo_55 : decode cKN_flowTo 55 = .ok (.invokevirtual 65, 3) := by decide +kernel
theorem dKN_flowTo_58 : decode cKN_flowTo 58 = .ok (.ifCond .eq 10, 3) := by decide +kernel
theorem dKN_flowTo_61 : decode cKN_flowTo 61 = .ok (.aload_n 0, 1) := by decide +kernel
theorem dKN_flowTo_62 : decode cKN_flowTo 62 = .ok (.getfield 21, 3) := by decide +kernel
theorem dKN_flowTo_65 : decode cKN_flowTo 65 = .ok (.iload_n 1, 1) := by decide +kernel
theorem dKN_flowTo_66 : decode cKN_flowTo 66 = .ok (.iconst 1, 1) := by decide +kernel
theorem dKN_flowTo_67 : decode cKN_flowTo 67 = .ok (.bastore, 1) := by decide +kernel
theorem dKN_flowTo_68 : decode cKN_flowTo 68 = .ok (.return_, 1) := by decide +kernel
theorem dKN_find_0 : decode cKN_find 0 = .ok (.aload_n 0, 1) := by decide +kernel
theorem dKN_find_1 : decode cKN_find 1 = .ok (.invokevirtual 29, 3) := by decide +kernel
theorem dKN_find_4 : decode cKN_find 4 = .ok (.iconst 1, 1) := by decide +kernel
theorem dKN_find_5 : decode cKN_find 5 = .ok (.istore_n 3, 1) := by decide +kernel
theorem dKN_find_6 : decode cKN_find 6 = .ok (.iconst 0, 1) := by decide +kernel
theorem dKN_find_7 : decode cKN_find 7 = .ok (.istore 4, 2) := by decide +kernel
theorem dKN_find_9 : decode cKN_find 9 = .ok (.iload_n 3, 1) := by decide +kernel
theorem dKN_find_10 : decode cKN_find 10 = .ok (.ifCond .eq 104, 3) := by decide +kernel
theorem dKN_find_13 : decode cKN_find 13 = .ok (.iload 4, 2) := by decide +kernel
theorem dKN_find_15 : decode cKN_find 15 = .ok (.ldc 32, 2) := by decide +kernel
theorem dKN_find_17 : decode cKN_find 17 = .ok (.if_icmp .ge 97, 3) := by decide +kernel
theorem dKN_find_20 : decode cKN_find 20 = .ok (.iconst 0, 1) := by decide +kernel
theorem dKN_find_21 : decode cKN_find 21 = .ok (.istore_n 3, 1) := by decide +kernel
theorem dKN_find_22 : decode cKN_find 22 = .ok (.iconst 0, 1) := by decide +kernel
theorem dKN_find_23 : decode cKN_find 23 = .ok (.istore 5, 2) := by decide +kernel
theorem dKN_find_25 : decode cKN_find 25 = .ok (.iload 5, 2) := by decide +kernel
theorem dKN_find_27 : decode cKN_find 27 = .ok (.aload_n 1, 1) := by decide +kernel
theorem dKN_find_28 : decode cKN_find 28 = .ok (.getfield 33, 3) := by decide +kernel
theorem dKN_find_31 : decode cKN_find 31 = .ok (.if_icmp .ge 77, 3) := by decide +kernel
theorem dKN_find_34 : decode cKN_find 34 = .ok (.aload_n 0, 1) := by decide +kernel
theorem dKN_find_35 : decode cKN_find 35 = .ok (.getfield 21, 3) := by decide +kernel
theorem dKN_find_38 : decode cKN_find 38 = .ok (.iload 5, 2) := by decide +kernel
theorem dKN_find_40 : decode cKN_find 40 = .ok (.baload, 1) := by decide +kernel
theorem dKN_find_41 : decode cKN_find 41 = .ok (.ifCond .eq 61, 3) := by decide +kernel
theorem dKN_find_44 : decode cKN_find 44 = .ok (.aload_n 0, 1) := by decide +kernel
theorem dKN_find_45 : decode cKN_find 45 = .ok (.getfield 21, 3) := by decide +kernel
theorem dKN_find_48 : decode cKN_find 48 = .ok (.iload 5, 2) := by decide +kernel
theorem dKN_find_50 : decode cKN_find 50 = .ok (.iconst 0, 1) := by decide +kernel
theorem dKN_find_51 : decode cKN_find 51 = .ok (.bastore, 1) := by decide +kernel
theorem dKN_find_52 : decode cKN_find 52 = .ok (.iconst 1, 1) := by decide +kernel
theorem dKN_find_53 : decode cKN_find 53 = .ok (.istore_n 3, 1) := by decide +kernel
theorem dKN_find_54 : decode cKN_find 54 = .ok (.aload_n 0, 1) := by decide +kernel
theorem dKN_find_55 : decode cKN_find 55 = .ok (.getfield 25, 3) := by decide +kernel
theorem dKN_find_58 : decode cKN_find 58 = .ok (.aload_n 0, 1) := by decide +kernel
theorem dKN_find_59 : decode cKN_find 59 = .ok (.getfield 11, 3) := by decide +kernel
theorem dKN_find_62 : decode cKN_find 62 = .ok (.iload 5, 2) := by decide +kernel
theorem dKN_find_64 : decode cKN_find 64 = .ok (.aaload, 1) := by decide +kernel
theorem dKN_find_65 : decode cKN_find 65 = .ok (.invokevirtual 39, 3) := by decide +kernel
theorem dKN_find_68 : decode cKN_find 68 = .ok (.aload_n 0, 1) := by decide +kernel
theorem dKN_find_69 : decode cKN_find 69 = .ok (.getfield 25, 3) := by decide +kernel
theorem dKN_find_72 : decode cKN_find 72 = .ok (.aload_n 1, 1) := by decide +kernel
theorem dKN_find_73 : decode cKN_find 73 = .ok (.iload 5, 2) := by decide +kernel
theorem dKN_find_75 : decode cKN_find 75 = .ok (.aload_n 2, 1) := by decide +kernel
theorem dKN_find_76 : decode cKN_find 76 = .ok (.getfield 43, 3) := by decide +kernel
theorem dKN_find_79 : decode cKN_find 79 = .ok (.invokevirtual 49, 3) := by decide +kernel
theorem dKN_find_82 : decode cKN_find 82 = .ok (.aload_n 0, 1) := by decide +kernel
theorem dKN_find_83 : decode cKN_find 83 = .ok (.aload_n 1, 1) := by decide +kernel
theorem dKN_find_84 : decode cKN_find 84 = .ok (.iload 5, 2) := by decide +kernel
theorem dKN_find_86 : decode cKN_find 86 = .ok (.invokevirtual 53, 3) := by decide +kernel
theorem dKN_find_89 : decode cKN_find 89 = .ok (.invokevirtual 57, 3) := by decide +kernel
theorem dKN_find_92 : decode cKN_find 92 = .ok (.aload_n 0, 1) := by decide +kernel
theorem dKN_find_93 : decode cKN_find 93 = .ok (.aload_n 1, 1) := by decide +kernel
theorem dKN_find_94 : decode cKN_find 94 = .ok (.iload 5, 2) := by decide +kernel
theorem dKN_find_96 : decode cKN_find 96 = .ok (.invokevirtual 61, 3) := by decide +kernel
theorem dKN_find_99 : decode cKN_find 99 = .ok (.invokevirtual 57, 3) := by decide +kernel
theorem dKN_find_102 : decode cKN_find 102 = .ok (.iinc 5 1, 3) := by decide +kernel
theorem dKN_find_105 : decode cKN_find 105 = .ok (.goto (-80), 3) := by decide +kernel
theorem dKN_find_108 : decode cKN_find 108 = .ok (.iinc 4 1, 3) := by decide +kernel
theorem dKN_find_111 : decode cKN_find 111 = .ok (.goto (-102), 3) := by decide +kernel
theorem dKN_find_114 : decode cKN_find 114 = .ok (.return_, 1) := by decide +kernel
theorem dKN_tells_0 : decode cKN_tells 0 = .ok (.aload_n 0, 1) := by decide +kernel
theorem dKN_tells_1 : decode cKN_tells 1 = .ok (.getfield 17, 3) := by decide +kernel
theorem dKN_tells_4 : decode cKN_tells 4 = .ok (.iload_n 1, 1) := by decide +kernel
theorem dKN_tells_5 : decode cKN_tells 5 = .ok (.baload, 1) := by decide +kernel
theorem dKN_tells_6 : decode cKN_tells 6 = .ok (.ifCond .ne 5, 3) := by decide +kernel
theorem dKN_tells_9 : decode cKN_tells 9 = .ok (.iconst 0, 1) := by decide +kernel
theorem dKN_tells_10 : decode cKN_tells 10 = .ok (.ireturn, 1) := by decide +kernel
theorem dKN_tells_11 : decode cKN_tells 11 = .ok (.iload_n 2, 1) := by decide +kernel
theorem dKN_tells_12 : decode cKN_tells 12 = .ok (.tableswitch 100 0 2 #[28, 53, 78], 28) := by decide +kernel
theorem dKN_tells_40 : decode cKN_tells 40 = .ok (.aload_n 0, 1) := by decide +kernel
theorem dKN_tells_41 : decode cKN_tells 41 = .ok (.getfield 11, 3) := by decide +kernel
theorem dKN_tells_44 : decode cKN_tells 44 = .ok (.iload_n 1, 1) := by decide +kernel
theorem dKN_tells_45 : decode cKN_tells 45 = .ok (.aaload, 1) := by decide +kernel
theorem dKN_tells_46 : decode cKN_tells 46 = .ok (.getfield 69, 3) := by decide +kernel
theorem dKN_tells_49 : decode cKN_tells 49 = .ok (.iload_n 3, 1) := by decide +kernel
theorem dKN_tells_50 : decode cKN_tells 50 = .ok (.iaload, 1) := by decide +kernel
theorem dKN_tells_51 : decode cKN_tells 51 = .ok (.iload 4, 2) := by decide +kernel
theorem dKN_tells_53 : decode cKN_tells 53 = .ok (.ishr, 1) := by decide +kernel
theorem dKN_tells_54 : decode cKN_tells 54 = .ok (.iconst 1, 1) := by decide +kernel
theorem dKN_tells_55 : decode cKN_tells 55 = .ok (.iand, 1) := by decide +kernel
theorem dKN_tells_56 : decode cKN_tells 56 = .ok (.ifCond .eq 7, 3) := by decide +kernel
theorem dKN_tells_59 : decode cKN_tells 59 = .ok (.iconst 1, 1) := by decide +kernel
theorem dKN_tells_60 : decode cKN_tells 60 = .ok (.goto 4, 3) := by decide +kernel
theorem dKN_tells_63 : decode cKN_tells 63 = .ok (.iconst 0, 1) := by decide +kernel
theorem dKN_tells_64 : decode cKN_tells 64 = .ok (.ireturn, 1) := by decide +kernel
theorem dKN_tells_65 : decode cKN_tells 65 = .ok (.aload_n 0, 1) := by decide +kernel
theorem dKN_tells_66 : decode cKN_tells 66 = .ok (.getfield 11, 3) := by decide +kernel
theorem dKN_tells_69 : decode cKN_tells 69 = .ok (.iload_n 1, 1) := by decide +kernel
theorem dKN_tells_70 : decode cKN_tells 70 = .ok (.aaload, 1) := by decide +kernel
theorem dKN_tells_71 : decode cKN_tells 71 = .ok (.getfield 72, 3) := by decide +kernel
theorem dKN_tells_74 : decode cKN_tells 74 = .ok (.iload_n 3, 1) := by decide +kernel
theorem dKN_tells_75 : decode cKN_tells 75 = .ok (.iaload, 1) := by decide +kernel
theorem dKN_tells_76 : decode cKN_tells 76 = .ok (.iload 4, 2) := by decide +kernel
theorem dKN_tells_78 : decode cKN_tells 78 = .ok (.ishr, 1) := by decide +kernel
theorem dKN_tells_79 : decode cKN_tells 79 = .ok (.iconst 1, 1) := by decide +kernel
theorem dKN_tells_80 : decode cKN_tells 80 = .ok (.iand, 1) := by decide +kernel
theorem dKN_tells_81 : decode cKN_tells 81 = .ok (.ifCond .eq 7, 3) := by decide +kernel
theorem dKN_tells_84 : decode cKN_tells 84 = .ok (.iconst 1, 1) := by decide +kernel
theorem dKN_tells_85 : decode cKN_tells 85 = .ok (.goto 4, 3) := by decide +kernel
theorem dKN_tells_88 : decode cKN_tells 88 = .ok (.iconst 0, 1) := by decide +kernel
theorem dKN_tells_89 : decode cKN_tells 89 = .ok (.ireturn, 1) := by decide +kernel
theorem dKN_tells_90 : decode cKN_tells 90 = .ok (.aload_n 0, 1) := by decide +kernel
theorem dKN_tells_91 : decode cKN_tells 91 = .ok (.getfield 11, 3) := by decide +kernel
theorem dKN_tells_94 : decode cKN_tells 94 = .ok (.iload_n 1, 1) := by decide +kernel
theorem dKN_tells_95 : decode cKN_tells 95 = .ok (.aaload, 1) := by decide +kernel
theorem dKN_tells_96 : decode cKN_tells 96 = .ok (.getfield 75, 3) := by decide +kernel
theorem dKN_tells_99 : decode cKN_tells 99 = .ok (.iload_n 3, 1) := by decide +kernel
theorem dKN_tells_100 : decode cKN_tells 100 = .ok (.ishr, 1) := by decide +kernel
theorem dKN_tells_101 : decode cKN_tells 101 = .ok (.iconst 1, 1) := by decide +kernel
theorem dKN_tells_102 : decode cKN_tells 102 = .ok (.iand, 1) := by decide +kernel
theorem dKN_tells_103 : decode cKN_tells 103 = .ok (.ifCond .eq 7, 3) := by decide +kernel
theorem dKN_tells_106 : decode cKN_tells 106 = .ok (.iconst 1, 1) := by decide +kernel
theorem dKN_tells_107 : decode cKN_tells 107 = .ok (.goto 4, 3) := by decide +kernel
theorem dKN_tells_110 : decode cKN_tells 110 = .ok (.iconst 0, 1) := by decide +kernel
theorem dKN_tells_111 : decode cKN_tells 111 = .ok (.ireturn, 1) := by decide +kernel
theorem dKN_tells_112 : decode cKN_tells 112 = .ok (.iconst 1, 1) := by decide +kernel
theorem dKN_tells_113 : decode cKN_tells 113 = .ok (.ireturn, 1) := by decide +kernel
