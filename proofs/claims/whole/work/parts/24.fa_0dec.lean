theorem dFA_begin_0 : decode cFA_begin 0 = .ok (.iconst 0, 1) := by decide +kernel
theorem dFA_begin_1 : decode cFA_begin 1 = .ok (.istore_n 1, 1) := by decide +kernel
theorem dFA_begin_2 : decode cFA_begin 2 = .ok (.iload_n 1, 1) := by decide +kernel
theorem dFA_begin_3 : decode cFA_begin 3 = .ok (.bipush 16, 2) := by decide +kernel
theorem dFA_begin_5 : decode cFA_begin 5 = .ok (.if_icmp .ge 30, 3) := by decide +kernel
theorem dFA_begin_8 : decode cFA_begin 8 = .ok (.aload_n 0, 1) := by decide +kernel
theorem dFA_begin_9 : decode cFA_begin 9 = .ok (.getfield 9, 3) := by decide +kernel
theorem dFA_begin_12 : decode cFA_begin 12 = .ok (.iload_n 1, 1) := by decide +kernel
theorem dFA_begin_13 : decode cFA_begin 13 = .ok (.ldc 22, 2) := by decide +kernel
theorem dFA_begin_15 : decode cFA_begin 15 = .ok (.iconst 1, 1) := by decide +kernel
theorem dFA_begin_16 : decode cFA_begin 16 = .ok (.iload_n 1, 1) := by decide +kernel
theorem dFA_begin_17 : decode cFA_begin 17 = .ok (.ishl, 1) := by decide +kernel
theorem dFA_begin_18 : decode cFA_begin 18 = .ok (.iconst (-1), 1) := by decide +kernel
theorem dFA_begin_19 : decode cFA_begin 19 = .ok (.ixor, 1) := by decide +kernel
theorem dFA_begin_20 : decode cFA_begin 20 = .ok (.iand, 1) := by decide +kernel
theorem dFA_begin_21 : decode cFA_begin 21 = .ok (.iastore, 1) := by decide +kernel
theorem dFA_begin_22 : decode cFA_begin 22 = .ok (.aload_n 0, 1) := by decide +kernel
theorem dFA_begin_23 : decode cFA_begin 23 = .ok (.getfield 15, 3) := by decide +kernel
theorem dFA_begin_26 : decode cFA_begin 26 = .ok (.iload_n 1, 1) := by decide +kernel
theorem dFA_begin_27 : decode cFA_begin 27 = .ok (.iconst 0, 1) := by decide +kernel
theorem dFA_begin_28 : decode cFA_begin 28 = .ok (.iastore, 1) := by decide +kernel
theorem dFA_begin_29 : decode cFA_begin 29 = .ok (.iinc 1 1, 3) := by decide +kernel
theorem dFA_begin_32 : decode cFA_begin 32 = .ok (.goto (-30), 3) := by decide +kernel
theorem dFA_begin_35 : decode cFA_begin 35 = .ok (.aload_n 0, 1) := by decide +kernel
theorem dFA_begin_36 : decode cFA_begin 36 = .ok (.iconst 0, 1) := by decide +kernel
theorem dFA_begin_37 : decode cFA_begin 37 = .ok (.putfield 18, 3) := by decide +kernel
theorem dFA_begin_40 : decode cFA_begin 40 = .ok (.return_, 1) := by decide +kernel
theorem dFA_copy_0 : decode cFA_copy 0 = .ok (.aload_n 1, 1) := by decide +kernel
theorem dFA_copy_1 : decode cFA_copy 1 = .ok (.getfield 9, 3) := by decide +kernel
theorem dFA_copy_4 : decode cFA_copy 4 = .ok (.iconst 0, 1) := by decide +kernel
theorem dFA_copy_5 : decode cFA_copy 5 = .ok (.aload_n 0, 1) := by decide +kernel
theorem dFA_copy_6 : decode cFA_copy 6 = .ok (.getfield 9, 3) := by decide +kernel
theorem dFA_copy_9 : decode cFA_copy 9 = .ok (.iconst 0, 1) := by decide +kernel
theorem dFA_copy_10 : decode cFA_copy 10 = .ok (.bipush 16, 2) := by decide +kernel
theorem dFA_copy_12 : decode cFA_copy 12 = .ok (.invokestatic 23, 3) := by decide +kernel
theorem dFA_copy_15 : decode cFA_copy 15 = .ok (.aload_n 1, 1) := by decide +kernel
theorem dFA_copy_16 : decode cFA_copy 16 = .ok (.getfield 15, 3) := by decide +kernel
theorem dFA_copy_19 : decode cFA_copy 19 = .ok (.iconst 0, 1) := by decide +kernel
theorem dFA_copy_20 : decode cFA_copy 20 = .ok (.aload_n 0, 1) := by decide +kernel
theorem dFA_copy_21 : decode cFA_copy 21 = .ok (.getfield 15, 3) := by decide +kernel
theorem dFA_copy_24 : decode cFA_copy 24 = .ok (.iconst 0, 1) := by decide +kernel
theorem dFA_copy_25 : decode cFA_copy 25 = .ok (.bipush 16, 2) := by decide +kernel
theorem dFA_copy_27 : decode cFA_copy 27 = .ok (.invokestatic 23, 3) := by decide +kernel
theorem dFA_copy_30 : decode cFA_copy 30 = .ok (.aload_n 0, 1) := by decide +kernel
theorem dFA_copy_31 : decode cFA_copy 31 = .ok (.aload_n 1, 1) := by decide +kernel
theorem dFA_copy_32 : decode cFA_copy 32 = .ok (.getfield 18, 3) := by decide +kernel
theorem dFA_copy_35 : decode cFA_copy 35 = .ok (.putfield 18, 3) := by decide +kernel
theorem dFA_copy_38 : decode cFA_copy 38 = .ok (.return_, 1) := by decide +kernel
theorem dFA_keepCommon_0 : decode cFA_keepCommon 0 = .ok (.aload_n 0, 1) := by decide +kernel
theorem dFA_keepCommon_1 : decode cFA_keepCommon 1 = .ok (.getfield 18, 3) := by decide +kernel
theorem dFA_keepCommon_4 : decode cFA_keepCommon 4 = .ok (.aload_n 1, 1) := by decide +kernel
theorem dFA_keepCommon_5 : decode cFA_keepCommon 5 = .ok (.getfield 18, 3) := by decide +kernel
theorem dFA_keepCommon_8 : decode cFA_keepCommon 8 = .ok (.iconst (-1), 1) := by decide +kernel
theorem dFA_keepCommon_9 : decode cFA_keepCommon 9 = .ok (.ixor, 1) := by decide +kernel
theorem dFA_keepCommon_10 : decode cFA_keepCommon 10 = .ok (.iand, 1) := by decide +kernel
theorem dFA_keepCommon_11 : decode cFA_keepCommon 11 = .ok (.istore_n 2, 1) := by decide +kernel
theorem dFA_keepCommon_12 : decode cFA_keepCommon 12 = .ok (.aload_n 0, 1) := by decide +kernel
theorem dFA_keepCommon_13 : decode cFA_keepCommon 13 = .ok (.dup, 1) := by decide +kernel
theorem dFA_keepCommon_14 : decode cFA_keepCommon 14 = .ok (.getfield 18, 3) := by decide +kernel
theorem dFA_keepCommon_17 : decode cFA_keepCommon 17 = .ok (.aload_n 1, 1) := by decide +kernel
theorem dFA_keepCommon_18 : decode cFA_keepCommon 18 = .ok (.getfield 18, 3) := by decide +kernel
theorem dFA_keepCommon_21 : decode cFA_keepCommon 21 = .ok (.iand, 1) := by decide +kernel
theorem dFA_keepCommon_22 : decode cFA_keepCommon 22 = .ok (.putfield 18, 3) := by decide +kernel
theorem dFA_keepCommon_25 : decode cFA_keepCommon 25 = .ok (.iconst 0, 1) := by decide +kernel
theorem dFA_keepCommon_26 : decode cFA_keepCommon 26 = .ok (.istore_n 3, 1) := by decide +kernel
theorem dFA_keepCommon_27 : decode cFA_keepCommon 27 = .ok (.iload_n 3, 1) := by decide +kernel
theorem dFA_keepCommon_28 : decode cFA_keepCommon 28 = .ok (.bipush 16, 2) := by decide +kernel
theorem dFA_keepCommon_30 : decode cFA_keepCommon 30 = .ok (.if_icmp .ge 73, 3) := by decide +kernel
theorem dFA_keepCommon_33 : decode cFA_keepCommon 33 = .ok (.iload_n 2, 1) := by decide +kernel
theorem dFA_keepCommon_34 : decode cFA_keepCommon 34 = .ok (.aload_n 0, 1) := by decide +kernel
theorem dFA_keepCommon_35 : decode cFA_keepCommon 35 = .ok (.getfield 9, 3) := by decide +kernel
theorem dFA_keepCommon_38 : decode cFA_keepCommon 38 = .ok (.iload_n 3, 1) := by decide +kernel
theorem dFA_keepCommon_39 : decode cFA_keepCommon 39 = .ok (.iaload, 1) := by decide +kernel
theorem dFA_keepCommon_40 : decode cFA_keepCommon 40 = .ok (.aload_n 1, 1) := by decide +kernel
theorem dFA_keepCommon_41 : decode cFA_keepCommon 41 = .ok (.getfield 9, 3) := by decide +kernel
theorem dFA_keepCommon_44 : decode cFA_keepCommon 44 = .ok (.iload_n 3, 1) := by decide +kernel
theorem dFA_keepCommon_45 : decode cFA_keepCommon 45 = .ok (.iaload, 1) := by decide +kernel
theorem dFA_keepCommon_46 : decode cFA_keepCommon 46 = .ok (.iconst (-1), 1) := by decide +kernel
theorem dFA_keepCommon_47 : decode cFA_keepCommon 47 = .ok (.ixor, 1) := by decide +kernel
theorem dFA_keepCommon_48 : decode cFA_keepCommon 48 = .ok (.iand, 1) := by decide +kernel
theorem dFA_keepCommon_49 : decode cFA_keepCommon 49 = .ok (.aload_n 0, 1) := by decide +kernel
theorem dFA_keepCommon_50 : decode cFA_keepCommon 50 = .ok (.getfield 15, 3) := by decide +kernel
theorem dFA_keepCommon_53 : decode cFA_keepCommon 53 = .ok (.iload_n 3, 1) := by decide +kernel
theorem dFA_keepCommon_54 : decode cFA_keepCommon 54 = .ok (.iaload, 1) := by decide +kernel
theorem dFA_keepCommon_55 : decode cFA_keepCommon 55 = .ok (.aload_n 1, 1) := by decide +kernel
theorem dFA_keepCommon_56 : decode cFA_keepCommon 56 = .ok (.getfield 15, 3) := by decide +kernel
theorem dFA_keepCommon_59 : decode cFA_keepCommon 59 = .ok (.iload_n 3, 1) := by decide +kernel
theorem dFA_keepCommon_60 : decode cFA_keepCommon 60 = .ok (.iaload, 1) := by decide +kernel
theorem dFA_keepCommon_61 : decode cFA_keepCommon 61 = .ok (.iconst (-1), 1) := by decide +kernel
theorem dFA_keepCommon_62 : decode cFA_keepCommon 62 = .ok (.ixor, 1) := by decide +kernel
theorem dFA_keepCommon_63 : decode cFA_keepCommon 63 = .ok (.iand, 1) := by decide +kernel
theorem dFA_keepCommon_64 : decode cFA_keepCommon 64 = .ok (.ior, 1) := by decide +kernel
theorem dFA_keepCommon_65 : decode cFA_keepCommon 65 = .ok (.ior, 1) := by decide +kernel
theorem dFA_keepCommon_66 : decode cFA_keepCommon 66 = .ok (.istore_n 2, 1) := by decide +kernel
theorem dFA_keepCommon_67 : decode cFA_keepCommon 67 = .ok (.aload_n 0, 1) := by decide +kernel
theorem dFA_keepCommon_68 : decode cFA_keepCommon 68 = .ok (.getfield 9, 3) := by decide +kernel
theorem dFA_keepCommon_71 : decode cFA_keepCommon 71 = .ok (.iload_n 3, 1) := by decide +kernel
theorem dFA_keepCommon_72 : decode cFA_keepCommon 72 = .ok (.dup2, 1) := by decide +kernel
theorem dFA_keepCommon_73 : decode cFA_keepCommon 73 = .ok (.iaload, 1) := by decide +kernel
theorem dFA_keepCommon_74 : decode cFA_keepCommon 74 = .ok (.aload_n 1, 1) := by decide +kernel
theorem dFA_keepCommon_75 : decode cFA_keepCommon 75 = .ok (.getfield 9, 3) := by decide +kernel
theorem dFA_keepCommon_78 : decode cFA_keepCommon 78 = .ok (.iload_n 3, 1) := by decide +kernel
theorem dFA_keepCommon_79 : decode cFA_keepCommon 79 = .ok (.iaload, 1) := by decide +kernel
theorem dFA_keepCommon_80 : decode cFA_keepCommon 80 = .ok (.iand, 1) := by decide +kernel
theorem dFA_keepCommon_81 : decode cFA_keepCommon 81 = .ok (.iastore, 1) := by decide +kernel
theorem dFA_keepCommon_82 : decode cFA_keepCommon 82 = .ok (.aload_n 0, 1) := by decide +kernel
theorem dFA_keepCommon_83 : decode cFA_keepCommon 83 = .ok (.getfield 15, 3) := by decide +kernel
theorem dFA_keepCommon_86 : decode cFA_keepCommon 86 = .ok (.iload_n 3, 1) := by decide +kernel
theorem dFA_keepCommon_87 : decode cFA_keepCommon 87 = .ok (.dup2, 1) := by decide +kernel
theorem dFA_keepCommon_88 : decode cFA_keepCommon 88 = .ok (.iaload, 1) := by decide +kernel
theorem dFA_keepCommon_89 : decode cFA_keepCommon 89 = .ok (.aload_n 1, 1) := by decide +kernel
theorem dFA_keepCommon_90 : decode cFA_keepCommon 90 = .ok (.getfield 15, 3) := by decide +kernel
theorem dFA_keepCommon_93 : decode cFA_keepCommon 93 = .ok (.iload_n 3, 1) := by decide +kernel
theorem dFA_keepCommon_94 : decode cFA_keepCommon 94 = .ok (.iaload, 1) := by decide +kernel
theorem dFA_keepCommon_95 : decode cFA_keepCommon 95 = .ok (.iand, 1) := by decide +kernel
theorem dFA_keepCommon_96 : decode cFA_keepCommon 96 = .ok (.iastore, 1) := by decide +kernel
theorem dFA_keepCommon_97 : decode cFA_keepCommon 97 = .ok (.iinc 3 1, 3) := by decide +kernel
theorem dFA_keepCommon_100 : decode cFA_keepCommon 100 = .ok (.goto (-73), 3) := by decide +kernel
theorem dFA_keepCommon_103 : decode cFA_keepCommon 103 = .ok (.iload_n 2, 1) := by decide +kernel
theorem dFA_keepCommon_104 : decode cFA_keepCommon 104 = .ok (.ifCond .eq 7, 3) := by decide +kernel
theorem dFA_keepCommon_107 : decode cFA_keepCommon 107 = .ok (.iconst 1, 1) := by decide +kernel
theorem dFA_keepCommon_108 : decode cFA_keepCommon 108 = .ok (.goto 4, 3) := by decide +kernel
theorem dFA_keepCommon_111 : decode cFA_keepCommon 111 = .ok (.iconst 0, 1) := by decide +kernel
theorem dFA_keepCommon_112 : decode cFA_keepCommon 112 = .ok (.ireturn, 1) := by decide +kernel
theorem dFA_forget_0 : decode cFA_forget 0 = .ok (.iconst 1, 1) := by decide +kernel
theorem dFA_forget_1 : decode cFA_forget 1 = .ok (.iload_n 1, 1) := by decide +kernel
theorem dFA_forget_2 : decode cFA_forget 2 = .ok (.ishl, 1) := by decide +kernel
theorem dFA_forget_3 : decode cFA_forget 3 = .ok (.iconst (-1), 1) := by decide +kernel
theorem dFA_forget_4 : decode cFA_forget 4 = .ok (.ixor, 1) := by decide +kernel
theorem dFA_forget_5 : decode cFA_forget 5 = .ok (.istore_n 2, 1) := by decide +kernel
theorem dFA_forget_6 : decode cFA_forget 6 = .ok (.iconst 0, 1) := by decide +kernel
theorem dFA_forget_7 : decode cFA_forget 7 = .ok (.istore_n 3, 1) := by decide +kernel
theorem dFA_forget_8 : decode cFA_forget 8 = .ok (.iload_n 3, 1) := by decide +kernel
theorem dFA_forget_9 : decode cFA_forget 9 = .ok (.bipush 16, 2) := by decide +kernel
theorem dFA_forget_11 : decode cFA_forget 11 = .ok (.if_icmp .ge 29, 3) := by decide +kernel
theorem dFA_forget_14 : decode cFA_forget 14 = .ok (.aload_n 0, 1) := by decide +kernel
theorem dFA_forget_15 : decode cFA_forget 15 = .ok (.getfield 9, 3) := by decide +kernel
theorem dFA_forget_18 : decode cFA_forget 18 = .ok (.iload_n 3, 1) := by decide +kernel
theorem dFA_forget_19 : decode cFA_forget 19 = .ok (.dup2, 1) := by decide +kernel
theorem dFA_forget_20 : decode cFA_forget 20 = .ok (.iaload, 1) := by decide +kernel
theorem dFA_forget_21 : decode cFA_forget 21 = .ok (.iload_n 2, 1) := by decide +kernel
theorem dFA_forget_22 : decode cFA_forget 22 = .ok (.iand, 1) := by decide +kernel
theorem dFA_forget_23 : decode cFA_forget 23 = .ok (.iastore, 1) := by decide +kernel
theorem dFA_forget_24 : decode cFA_forget 24 = .ok (.aload_n 0, 1) := by decide +kernel
theorem dFA_forget_25 : decode cFA_forget 25 = .ok (.getfield 15, 3) := by decide +kernel
theorem dFA_forget_28 : decode cFA_forget 28 = .ok (.iload_n 3, 1) := by decide +kernel
theorem dFA_forget_29 : decode cFA_forget 29 = .ok (.dup2, 1) := by decide +kernel
theorem dFA_forget_30 : decode cFA_forget 30 = .ok (.iaload, 1) := by decide +kernel
theorem dFA_forget_31 : decode cFA_forget 31 = .ok (.iload_n 2, 1) := by decide +kernel
theorem dFA_forget_32 : decode cFA_forget 32 = .ok (.iand, 1) := by decide +kernel
theorem dFA_forget_33 : decode cFA_forget 33 = .ok (.iastore, 1) := by decide +kernel
theorem dFA_forget_34 : decode cFA_forget 34 = .ok (.iinc 3 1, 3) := by decide +kernel
theorem dFA_forget_37 : decode cFA_forget 37 = .ok (.goto (-29), 3) := by decide +kernel
theorem dFA_forget_40 : decode cFA_forget 40 = .ok (.aload_n 0, 1) := by decide +kernel
theorem dFA_forget_41 : decode cFA_forget 41 = .ok (.getfield 9, 3) := by decide +kernel
theorem dFA_forget_44 : decode cFA_forget 44 = .ok (.iload_n 1, 1) := by decide +kernel
theorem dFA_forget_45 : decode cFA_forget 45 = .ok (.iconst 0, 1) := by decide +kernel
theorem dFA_forget_46 : decode cFA_forget 46 = .ok (.iastore, 1) := by decide +kernel
theorem dFA_forget_47 : decode cFA_forget 47 = .ok (.aload_n 0, 1) := by decide +kernel
theorem dFA_forget_48 : decode cFA_forget 48 = .ok (.getfield 15, 3) := by decide +kernel
theorem dFA_forget_51 : decode cFA_forget 51 = .ok (.iload_n 1, 1) := by decide +kernel
theorem dFA_forget_52 : decode cFA_forget 52 = .ok (.iconst 0, 1) := by decide +kernel
theorem dFA_forget_53 : decode cFA_forget 53 = .ok (.iastore, 1) := by decide +kernel
theorem dFA_forget_54 : decode cFA_forget 54 = .ok (.aload_n 0, 1) := by decide +kernel
theorem dFA_forget_55 : decode cFA_forget 55 = .ok (.dup, 1) := by decide +kernel
theorem dFA_forget_56 : decode cFA_forget 56 = .ok (.getfield 18, 3) := by decide +kernel
theorem dFA_forget_59 : decode cFA_forget 59 = .ok (.iload_n 2, 1) := by decide +kernel
theorem dFA_forget_60 : decode cFA_forget 60 = .ok (.iand, 1) := by decide +kernel
theorem dFA_forget_61 : decode cFA_forget 61 = .ok (.putfield 18, 3) := by decide +kernel
theorem dFA_forget_64 : decode cFA_forget 64 = .ok (.return_, 1) := by decide +kernel
theorem dFA_passMove_0 : decode cFA_passMove 0 = .ok (.iload_n 1, 1) := by decide +kernel
theorem dFA_passMove_1 : decode cFA_passMove 1 = .ok (.iload_n 2, 1) := by decide +kernel
theorem dFA_passMove_2 : decode cFA_passMove 2 = .ok (.if_icmp .ne 4, 3) := by decide +kernel
theorem dFA_passMove_5 : decode cFA_passMove 5 = .ok (.return_, 1) := by decide +kernel
theorem dFA_passMove_6 : decode cFA_passMove 6 = .ok (.aload_n 0, 1) := by decide +kernel
theorem dFA_passMove_7 : decode cFA_passMove 7 = .ok (.iload_n 1, 1) := by decide +kernel
theorem dFA_passMove_8 : decode cFA_passMove 8 = .ok (.invokevirtual 44, 3) := by decide +kernel
theorem dFA_passMove_11 : decode cFA_passMove 11 = .ok (.iconst 0, 1) := by decide +kernel
theorem dFA_passMove_12 : decode cFA_passMove 12 = .ok (.istore_n 3, 1) := by decide +kernel
theorem dFA_passMove_13 : decode cFA_passMove 13 = .ok (.iload_n 3, 1) := by decide +kernel
theorem dFA_passMove_14 : decode cFA_passMove 14 = .ok (.bipush 16, 2) := by decide +kernel
theorem dFA_passMove_16 : decode cFA_passMove 16 = .ok (.if_icmp .ge 51, 3) := by decide +kernel
theorem dFA_passMove_19 : decode cFA_passMove 19 = .ok (.aload_n 0, 1) := by decide +kernel
theorem dFA_passMove_20 : decode cFA_passMove 20 = .ok (.getfield 9, 3) := by decide +kernel
theorem dFA_passMove_23 : decode cFA_passMove 23 = .ok (.iload_n 3, 1) := by decide +kernel
theorem dFA_passMove_24 : decode cFA_passMove 24 = .ok (.dup2, 1) := by decide +kernel
theorem dFA_passMove_25 : decode cFA_passMove 25 = .ok (.iaload, 1) := by decide +kernel
theorem dFA_passMove_26 : decode cFA_passMove 26 = .ok (.aload_n 0, 1) := by decide +kernel
theorem dFA_passMove_27 : decode cFA_passMove 27 = .ok (.getfield 9, 3) := by decide +kernel
theorem dFA_passMove_30 : decode cFA_passMove 30 = .ok (.iload_n 3, 1) := by decide +kernel
theorem dFA_passMove_31 : decode cFA_passMove 31 = .ok (.iaload, 1) := by decide +kernel
theorem dFA_passMove_32 : decode cFA_passMove 32 = .ok (.iload_n 2, 1) := by decide +kernel
theorem dFA_passMove_33 : decode cFA_passMove 33 = .ok (.ishr, 1) := by decide +kernel
theorem dFA_passMove_34 : decode cFA_passMove 34 = .ok (.iconst 1, 1) := by decide +kernel
theorem dFA_passMove_35 : decode cFA_passMove 35 = .ok (.iand, 1) := by decide +kernel
theorem dFA_passMove_36 : decode cFA_passMove 36 = .ok (.iload_n 1, 1) := by decide +kernel
theorem dFA_passMove_37 : decode cFA_passMove 37 = .ok (.ishl, 1) := by decide +kernel
theorem dFA_passMove_38 : decode cFA_passMove 38 = .ok (.ior, 1) := by decide +kernel
theorem dFA_passMove_39 : decode cFA_passMove 39 = .ok (.iastore, 1) := by decide +kernel
theorem dFA_passMove_40 : decode cFA_passMove 40 = .ok (.aload_n 0, 1) := by decide +kernel
theorem dFA_passMove_41 : decode cFA_passMove 41 = .ok (.getfield 15, 3) := by decide +kernel
theorem dFA_passMove_44 : decode cFA_passMove 44 = .ok (.iload_n 3, 1) := by decide +kernel
theorem dFA_passMove_45 : decode cFA_passMove 45 = .ok (.dup2, 1) := by decide +kernel
theorem dFA_passMove_46 : decode cFA_passMove 46 = .ok (.iaload, 1) := by decide +kernel
theorem dFA_passMove_47 : decode cFA_passMove 47 = .ok (.aload_n 0, 1) := by decide +kernel
theorem dFA_passMove_48 : decode cFA_passMove 48 = .ok (.getfield 15, 3) := by decide +kernel
theorem dFA_passMove_51 : decode cFA_passMove 51 = .ok (.iload_n 3, 1) := by decide +kernel
theorem dFA_passMove_52 : decode cFA_passMove 52 = .ok (.iaload, 1) := by decide +kernel
theorem dFA_passMove_53 : decode cFA_passMove 53 = .ok (.iload_n 2, 1) := by decide +kernel
theorem dFA_passMove_54 : decode cFA_passMove 54 = .ok (.ishr, 1) := by decide +kernel
theorem dFA_passMove_55 : decode cFA_passMove 55 = .ok (.iconst 1, 1) := by decide +kernel
theorem dFA_passMove_56 : decode cFA_passMove 56 = .ok (.iand, 1) := by decide +kernel
theorem dFA_passMove_57 : decode cFA_passMove 57 = .ok (.iload_n 1, 1) := by decide +kernel
theorem dFA_passMove_58 : decode cFA_passMove 58 = .ok (.ishl, 1) := by decide +kernel
theorem dFA_passMove_59 : decode cFA_passMove 59 = .ok (.ior, 1) := by decide +kernel
theorem dFA_passMove_60 : decode cFA_passMove 60 = .ok (.iastore, 1) := by decide +kernel
theorem dFA_passMove_61 : decode cFA_passMove 61 = .ok (.iinc 3 1, 3) := by decide +kernel
theorem dFA_passMove_64 : decode cFA_passMove 64 = .ok (.goto (-51), 3) := by decide +kernel
theorem dFA_passMove_67 : decode cFA_passMove 67 = .ok (.aload_n 0, 1) := by decide +kernel
theorem dFA_passMove_68 : decode cFA_passMove 68 = .ok (.getfield 9, 3) := by decide +kernel
theorem dFA_passMove_71 : decode cFA_passMove 71 = .ok (.iload_n 1, 1) := by decide +kernel
theorem dFA_passMove_72 : decode cFA_passMove 72 = .ok (.aload_n 0, 1) := by decide +kernel
theorem dFA_passMove_73 : decode cFA_passMove 73 = .ok (.getfield 9, 3) := by decide +kernel
theorem dFA_passMove_76 : decode cFA_passMove 76 = .ok (.iload_n 2, 1) := by decide +kernel
theorem dFA_passMove_77 : decode cFA_passMove 77 = .ok (.iaload, 1) := by decide +kernel
theorem dFA_passMove_78 : decode cFA_passMove 78 = .ok (.iconst 1, 1) := by decide +kernel
theorem dFA_passMove_79 : decode cFA_passMove 79 = .ok (.iload_n 2, 1) := by decide +kernel
theorem dFA_passMove_80 : decode cFA_passMove 80 = .ok (.ishl, 1) := by decide +kernel
theorem dFA_passMove_81 : decode cFA_passMove 81 = .ok (.ior, 1) := by decide +kernel
theorem dFA_passMove_82 : decode cFA_passMove 82 = .ok (.iastore, 1) := by decide +kernel
theorem dFA_passMove_83 : decode cFA_passMove 83 = .ok (.aload_n 0, 1) := by decide +kernel
theorem dFA_passMove_84 : decode cFA_passMove 84 = .ok (.getfield 15, 3) := by decide +kernel
theorem dFA_passMove_87 : decode cFA_passMove 87 = .ok (.iload_n 1, 1) := by decide +kernel
theorem dFA_passMove_88 : decode cFA_passMove 88 = .ok (.aload_n 0, 1) := by decide +kernel
theorem dFA_passMove_89 : decode cFA_passMove 89 = .ok (.getfield 15, 3) := by decide +kernel
theorem dFA_passMove_92 : decode cFA_passMove 92 = .ok (.iload_n 2, 1) := by decide +kernel
theorem dFA_passMove_93 : decode cFA_passMove 93 = .ok (.iaload, 1) := by decide +kernel
theorem dFA_passMove_94 : decode cFA_passMove 94 = .ok (.iastore, 1) := by decide +kernel
theorem dFA_passMove_95 : decode cFA_passMove 95 = .ok (.aload_n 0, 1) := by decide +kernel
theorem dFA_passMove_96 : decode cFA_passMove 96 = .ok (.getfield 9, 3) := by decide +kernel
theorem dFA_passMove_99 : decode cFA_passMove 99 = .ok (.iload_n 2, 1) := by decide +kernel
theorem dFA_passMove_100 : decode cFA_passMove 100 = .ok (.dup2, 1) := by decide +kernel
theorem dFA_passMove_101 : decode cFA_passMove 101 = .ok (.iaload, 1) := by decide +kernel
theorem dFA_passMove_102 : decode cFA_passMove 102 = .ok (.iconst 1, 1) := by decide +kernel
theorem dFA_passMove_103 : decode cFA_passMove 103 = .ok (.iload_n 1, 1) := by decide +kernel
theorem dFA_passMove_104 : decode cFA_passMove 104 = .ok (.ishl, 1) := by decide +kernel
theorem dFA_passMove_105 : decode cFA_passMove 105 = .ok (.ior, 1) := by decide +kernel
theorem dFA_passMove_106 : decode cFA_passMove 106 = .ok (.iastore, 1) := by decide +kernel
theorem dFA_passMove_107 : decode cFA_passMove 107 = .ok (.aload_n 0, 1) := by decide +kernel
theorem dFA_passMove_108 : decode cFA_passMove 108 = .ok (.dup, 1) := by decide +kernel
theorem dFA_passMove_109 : decode cFA_passMove 109 = .ok (.getfield 18, 3) := by decide +kernel
theorem dFA_passMove_112 : decode cFA_passMove 112 = .ok (.aload_n 0, 1) := by decide +kernel
theorem dFA_passMove_113 : decode cFA_passMove 113 = .ok (.getfield 18, 3) := by decide +kernel
theorem dFA_passMove_116 : decode cFA_passMove 116 = .ok (.iload_n 2, 1) := by decide +kernel
theorem dFA_passMove_117 : decode cFA_passMove 117 = .ok (.ishr, 1) := by decide +kernel
theorem dFA_passMove_118 : decode cFA_passMove 118 = .ok (.iconst 1, 1) := by decide +kernel
theorem dFA_passMove_119 : decode cFA_passMove 119 = .ok (.iand, 1) := by decide +kernel
theorem dFA_passMove_120 : decode cFA_passMove 120 = .ok (.iload_n 1, 1) := by decide +kernel
theorem dFA_passMove_121 : decode cFA_passMove 121 = .ok (.ishl, 1) := by decide +kernel
theorem dFA_passMove_122 : decode cFA_passMove 122 = .ok (.ior, 1) := by decide +kernel
theorem dFA_passMove_123 : decode cFA_passMove 123 = .ok (.putfield 18, 3) := by decide +kernel
theorem dFA_passMove_126 : decode cFA_passMove 126 = .ok (.return_, 1) := by decide +kernel
theorem dFA_passLoad_0 : decode cFA_passLoad 0 = .ok (.aload_n 0, 1) := by decide +kernel
theorem dFA_passLoad_1 : decode cFA_passLoad 1 = .ok (.getfield 9, 3) := by decide +kernel
theorem dFA_passLoad_4 : decode cFA_passLoad 4 = .ok (.iload_n 2, 1) := by decide +kernel
theorem dFA_passLoad_5 : decode cFA_passLoad 5 = .ok (.iaload, 1) := by decide +kernel
theorem dFA_passLoad_6 : decode cFA_passLoad 6 = .ok (.iconst 1, 1) := by decide +kernel
theorem dFA_passLoad_7 : decode cFA_passLoad 7 = .ok (.iload_n 2, 1) := by decide +kernel
theorem dFA_passLoad_8 : decode cFA_passLoad 8 = .ok (.ishl, 1) := by decide +kernel
theorem dFA_passLoad_9 : decode cFA_passLoad 9 = .ok (.ior, 1) := by decide +kernel
theorem dFA_passLoad_10 : decode cFA_passLoad 10 = .ok (.iconst 1, 1) := by decide +kernel
theorem dFA_passLoad_11 : decode cFA_passLoad 11 = .ok (.iload_n 1, 1) := by decide +kernel
theorem dFA_passLoad_12 : decode cFA_passLoad 12 = .ok (.ishl, 1) := by decide +kernel
theorem dFA_passLoad_13 : decode cFA_passLoad 13 = .ok (.iconst (-1), 1) := by decide +kernel
theorem dFA_passLoad_14 : decode cFA_passLoad 14 = .ok (.ixor, 1) := by decide +kernel
theorem dFA_passLoad_15 : decode cFA_passLoad 15 = .ok (.iand, 1) := by decide +kernel
theorem dFA_passLoad_16 : decode cFA_passLoad 16 = .ok (.istore_n 3, 1) := by decide +kernel
theorem dFA_passLoad_17 : decode cFA_passLoad 17 = .ok (.aload_n 0, 1) := by decide +kernel
theorem dFA_passLoad_18 : decode cFA_passLoad 18 = .ok (.getfield 15, 3) := by decide +kernel
theorem dFA_passLoad_21 : decode cFA_passLoad 21 = .ok (.iload_n 2, 1) := by decide +kernel
theorem dFA_passLoad_22 : decode cFA_passLoad 22 = .ok (.iaload, 1) := by decide +kernel
theorem dFA_passLoad_23 : decode cFA_passLoad 23 = .ok (.iconst 1, 1) := by decide +kernel
theorem dFA_passLoad_24 : decode cFA_passLoad 24 = .ok (.iload_n 1, 1) := by decide +kernel
theorem dFA_passLoad_25 : decode cFA_passLoad 25 = .ok (.ishl, 1) := by decide +kernel
theorem dFA_passLoad_26 : decode cFA_passLoad 26 = .ok (.iconst (-1), 1) := by decide +kernel
theorem dFA_passLoad_27 : decode cFA_passLoad 27 = .ok (.ixor, 1) := by decide +kernel
theorem dFA_passLoad_28 : decode cFA_passLoad 28 = .ok (.iand, 1) := by decide +kernel
theorem dFA_passLoad_29 : decode cFA_passLoad 29 = .ok (.istore 4, 2) := by decide +kernel
theorem dFA_passLoad_31 : decode cFA_passLoad 31 = .ok (.aload_n 0, 1) := by decide +kernel
theorem dFA_passLoad_32 : decode cFA_passLoad 32 = .ok (.iload_n 1, 1) := by decide +kernel
theorem dFA_passLoad_33 : decode cFA_passLoad 33 = .ok (.invokevirtual 44, 3) := by decide +kernel
theorem dFA_passLoad_36 : decode cFA_passLoad 36 = .ok (.aload_n 0, 1) := by decide +kernel
theorem dFA_passLoad_37 : decode cFA_passLoad 37 = .ok (.dup, 1) := by decide +kernel
theorem dFA_passLoad_38 : decode cFA_passLoad 38 = .ok (.getfield 18, 3) := by decide +kernel
theorem dFA_passLoad_41 : decode cFA_passLoad 41 = .ok (.iload_n 3, 1) := by decide +kernel
theorem dFA_passLoad_42 : decode cFA_passLoad 42 = .ok (.ior, 1) := by decide +kernel
theorem dFA_passLoad_43 : decode cFA_passLoad 43 = .ok (.putfield 18, 3) := by decide +kernel
theorem dFA_passLoad_46 : decode cFA_passLoad 46 = .ok (.aload_n 0, 1) := by decide +kernel
theorem dFA_passLoad_47 : decode cFA_passLoad 47 = .ok (.getfield 9, 3) := by decide +kernel
theorem dFA_passLoad_50 : decode cFA_passLoad 50 = .ok (.iload_n 1, 1) := by decide +kernel
theorem dFA_passLoad_51 : decode cFA_passLoad 51 = .ok (.iload 4, 2) := by decide +kernel
theorem dFA_passLoad_53 : decode cFA_passLoad 53 = .ok (.iastore, 1) := by decide +kernel
theorem dFA_passLoad_54 : decode cFA_passLoad 54 = .ok (.iconst 0, 1) := by decide +kernel
theorem dFA_passLoad_55 : decode cFA_passLoad 55 = .ok (.istore 5, 2) := by decide +kernel
theorem dFA_passLoad_57 : decode cFA_passLoad 57 = .ok (.iload 5, 2) := by decide +kernel
theorem dFA_passLoad_59 : decode cFA_passLoad 59 = .ok (.bipush 16, 2) := by decide +kernel
theorem dFA_passLoad_61 : decode cFA_passLoad 61 = .ok (.if_icmp .ge 46, 3) := by decide +kernel
theorem dFA_passLoad_64 : decode cFA_passLoad 64 = .ok (.aload_n 0, 1) := by decide +kernel
theorem dFA_passLoad_65 : decode cFA_passLoad 65 = .ok (.getfield 15, 3) := by decide +kernel
theorem dFA_passLoad_68 : decode cFA_passLoad 68 = .ok (.iload 5, 2) := by decide +kernel
theorem dFA_passLoad_70 : decode cFA_passLoad 70 = .ok (.dup2, 1) := by decide +kernel
theorem dFA_passLoad_71 : decode cFA_passLoad 71 = .ok (.iaload, 1) := by decide +kernel
theorem dFA_passLoad_72 : decode cFA_passLoad 72 = .ok (.iload_n 3, 1) := by decide +kernel
theorem dFA_passLoad_73 : decode cFA_passLoad 73 = .ok (.iload 5, 2) := by decide +kernel
theorem dFA_passLoad_75 : decode cFA_passLoad 75 = .ok (.ishr, 1) := by decide +kernel
theorem dFA_passLoad_76 : decode cFA_passLoad 76 = .ok (.iconst 1, 1) := by decide +kernel
theorem dFA_passLoad_77 : decode cFA_passLoad 77 = .ok (.iand, 1) := by decide +kernel
theorem dFA_passLoad_78 : decode cFA_passLoad 78 = .ok (.iload_n 1, 1) := by decide +kernel
theorem dFA_passLoad_79 : decode cFA_passLoad 79 = .ok (.ishl, 1) := by decide +kernel
theorem dFA_passLoad_80 : decode cFA_passLoad 80 = .ok (.ior, 1) := by decide +kernel
theorem dFA_passLoad_81 : decode cFA_passLoad 81 = .ok (.iastore, 1) := by decide +kernel
theorem dFA_passLoad_82 : decode cFA_passLoad 82 = .ok (.aload_n 0, 1) := by decide +kernel
theorem dFA_passLoad_83 : decode cFA_passLoad 83 = .ok (.getfield 9, 3) := by decide +kernel
theorem dFA_passLoad_86 : decode cFA_passLoad 86 = .ok (.iload 5, 2) := by decide +kernel
theorem dFA_passLoad_88 : decode cFA_passLoad 88 = .ok (.dup2, 1) := by decide +kernel
theorem dFA_passLoad_89 : decode cFA_passLoad 89 = .ok (.iaload, 1) := by decide +kernel
theorem dFA_passLoad_90 : decode cFA_passLoad 90 = .ok (.iload 4, 2) := by decide +kernel
theorem dFA_passLoad_92 : decode cFA_passLoad 92 = .ok (.iload 5, 2) := by decide +kernel
theorem dFA_passLoad_94 : decode cFA_passLoad 94 = .ok (.ishr, 1) := by decide +kernel
theorem dFA_passLoad_95 : decode cFA_passLoad 95 = .ok (.iconst 1, 1) := by decide +kernel
theorem dFA_passLoad_96 : decode cFA_passLoad 96 = .ok (.iand, 1) := by decide +kernel
theorem dFA_passLoad_97 : decode cFA_passLoad 97 = .ok (.iload_n 1, 1) := by decide +kernel
theorem dFA_passLoad_98 : decode cFA_passLoad 98 = .ok (.ishl, 1) := by decide +kernel
theorem dFA_passLoad_99 : decode cFA_passLoad 99 = .ok (.ior, 1) := by decide +kernel
theorem dFA_passLoad_100 : decode cFA_passLoad 100 = .ok (.iastore, 1) := by decide +kernel
theorem dFA_passLoad_101 : decode cFA_passLoad 101 = .ok (.iinc 5 1, 3) := by decide +kernel
theorem dFA_passLoad_104 : decode cFA_passLoad 104 = .ok (.goto (-47), 3) := by decide +kernel
theorem dFA_passLoad_107 : decode cFA_passLoad 107 = .ok (.return_, 1) := by decide +kernel
theorem dFA_passStore_0 : decode cFA_passStore 0 = .ok (.aload_n 0, 1) := by decide +kernel
theorem dFA_passStore_1 : decode cFA_passStore 1 = .ok (.getfield 9, 3) := by decide +kernel
theorem dFA_passStore_4 : decode cFA_passStore 4 = .ok (.iload_n 1, 1) := by decide +kernel
theorem dFA_passStore_5 : decode cFA_passStore 5 = .ok (.iaload, 1) := by decide +kernel
theorem dFA_passStore_6 : decode cFA_passStore 6 = .ok (.iconst 1, 1) := by decide +kernel
theorem dFA_passStore_7 : decode cFA_passStore 7 = .ok (.iload_n 1, 1) := by decide +kernel
theorem dFA_passStore_8 : decode cFA_passStore 8 = .ok (.ishl, 1) := by decide +kernel
theorem dFA_passStore_9 : decode cFA_passStore 9 = .ok (.ior, 1) := by decide +kernel
theorem dFA_passStore_10 : decode cFA_passStore 10 = .ok (.istore 4, 2) := by decide +kernel
theorem dFA_passStore_12 : decode cFA_passStore 12 = .ok (.aload_n 0, 1) := by decide +kernel
theorem dFA_passStore_13 : decode cFA_passStore 13 = .ok (.getfield 9, 3) := by decide +kernel
theorem dFA_passStore_16 : decode cFA_passStore 16 = .ok (.iload_n 2, 1) := by decide +kernel
theorem dFA_passStore_17 : decode cFA_passStore 17 = .ok (.iaload, 1) := by decide +kernel
theorem dFA_passStore_18 : decode cFA_passStore 18 = .ok (.iconst 1, 1) := by decide +kernel
theorem dFA_passStore_19 : decode cFA_passStore 19 = .ok (.iload_n 2, 1) := by decide +kernel
theorem dFA_passStore_20 : decode cFA_passStore 20 = .ok (.ishl, 1) := by decide +kernel
theorem dFA_passStore_21 : decode cFA_passStore 21 = .ok (.ior, 1) := by decide +kernel
theorem dFA_passStore_22 : decode cFA_passStore 22 = .ok (.istore 5, 2) := by decide +kernel
theorem dFA_passStore_24 : decode cFA_passStore 24 = .ok (.iconst 0, 1) := by decide +kernel
theorem dFA_passStore_25 : decode cFA_passStore 25 = .ok (.istore 6, 2) := by decide +kernel
theorem dFA_passStore_27 : decode cFA_passStore 27 = .ok (.iload 6, 2) := by decide +kernel
theorem dFA_passStore_29 : decode cFA_passStore 29 = .ok (.bipush 16, 2) := by decide +kernel
theorem dFA_passStore_31 : decode cFA_passStore 31 = .ok (.if_icmp .ge 52, 3) := by decide +kernel
theorem dFA_passStore_34 : decode cFA_passStore 34 = .ok (.iload_n 3, 1) := by decide +kernel
theorem dFA_passStore_35 : decode cFA_passStore 35 = .ok (.iload 6, 2) := by decide +kernel
theorem dFA_passStore_37 : decode cFA_passStore 37 = .ok (.ishr, 1) := by decide +kernel
theorem dFA_passStore_38 : decode cFA_passStore 38 = .ok (.iconst 1, 1) := by decide +kernel
theorem dFA_passStore_39 : decode cFA_passStore 39 = .ok (.iand, 1) := by decide +kernel
theorem dFA_passStore_40 : decode cFA_passStore 40 = .ok (.ifCond .eq 15, 3) := by decide +kernel
theorem dFA_passStore_43 : decode cFA_passStore 43 = .ok (.aload_n 0, 1) := by decide +kernel
theorem dFA_passStore_44 : decode cFA_passStore 44 = .ok (.getfield 15, 3) := by decide +kernel
theorem dFA_passStore_47 : decode cFA_passStore 47 = .ok (.iload 6, 2) := by decide +kernel
theorem dFA_passStore_49 : decode cFA_passStore 49 = .ok (.dup2, 1) := by decide +kernel
theorem dFA_passStore_50 : decode cFA_passStore 50 = .ok (.iaload, 1) := by decide +kernel
theorem dFA_passStore_51 : decode cFA_passStore 51 = .ok (.iload 5, 2) := by decide +kernel
theorem dFA_passStore_53 : decode cFA_passStore 53 = .ok (.iand, 1) := by decide +kernel
theorem dFA_passStore_54 : decode cFA_passStore 54 = .ok (.iastore, 1) := by decide +kernel
theorem dFA_passStore_55 : decode cFA_passStore 55 = .ok (.iload 4, 2) := by decide +kernel
theorem dFA_passStore_57 : decode cFA_passStore 57 = .ok (.iload 6, 2) := by decide +kernel
theorem dFA_passStore_59 : decode cFA_passStore 59 = .ok (.ishr, 1) := by decide +kernel
theorem dFA_passStore_60 : decode cFA_passStore 60 = .ok (.iconst 1, 1) := by decide +kernel
theorem dFA_passStore_61 : decode cFA_passStore 61 = .ok (.iand, 1) := by decide +kernel
theorem dFA_passStore_62 : decode cFA_passStore 62 = .ok (.ifCond .eq 15, 3) := by decide +kernel
theorem dFA_passStore_65 : decode cFA_passStore 65 = .ok (.aload_n 0, 1) := by decide +kernel
theorem dFA_passStore_66 : decode cFA_passStore 66 = .ok (.getfield 15, 3) := by decide +kernel
theorem dFA_passStore_69 : decode cFA_passStore 69 = .ok (.iload 6, 2) := by decide +kernel
theorem dFA_passStore_71 : decode cFA_passStore 71 = .ok (.dup2, 1) := by decide +kernel
theorem dFA_passStore_72 : decode cFA_passStore 72 = .ok (.iaload, 1) := by decide +kernel
theorem dFA_passStore_73 : decode cFA_passStore 73 = .ok (.iload 5, 2) := by decide +kernel
theorem dFA_passStore_75 : decode cFA_passStore 75 = .ok (.ior, 1) := by decide +kernel
theorem dFA_passStore_76 : decode cFA_passStore 76 = .ok (.iastore, 1) := by decide +kernel
theorem dFA_passStore_77 : decode cFA_passStore 77 = .ok (.iinc 6 1, 3) := by decide +kernel
theorem dFA_passStore_80 : decode cFA_passStore 80 = .ok (.goto (-53), 3) := by decide +kernel
theorem dFA_passStore_83 : decode cFA_passStore 83 = .ok (.aload_n 0, 1) := by decide +kernel
theorem dFA_passStore_84 : decode cFA_passStore 84 = .ok (.dup, 1) := by decide +kernel
theorem dFA_passStore_85 : decode cFA_passStore 85 = .ok (.getfield 18, 3) := by decide +kernel
theorem dFA_passStore_88 : decode cFA_passStore 88 = .ok (.iload 4, 2) := by decide +kernel
theorem dFA_passStore_90 : decode cFA_passStore 90 = .ok (.ior, 1) := by decide +kernel
theorem dFA_passStore_91 : decode cFA_passStore 91 = .ok (.putfield 18, 3) := by decide +kernel
theorem dFA_passStore_94 : decode cFA_passStore 94 = .ok (.return_, 1) := by decide +kernel
theorem dFA_pass_0 : decode cFA_pass 0 = .ok (.aload_n 1, 1) := by decide +kernel
theorem dFA_pass_1 : decode cFA_pass 1 = .ok (.getfield 29, 3) := by decide +kernel
theorem dFA_pass_4 : decode cFA_pass 4 = .ok (.iload_n 2, 1) := by decide +kernel
theorem dFA_pass_5 : decode cFA_pass 5 = .ok (.iaload, 1) := by decide +kernel
theorem dFA_pass_6 : decode cFA_pass 6 = .ok (.istore 4, 2) := by decide +kernel
theorem dFA_pass_8 : decode cFA_pass 8 = .ok (.aload_n 1, 1) := by decide +kernel
theorem dFA_pass_9 : decode cFA_pass 9 = .ok (.getfield 34, 3) := by decide +kernel
theorem dFA_pass_12 : decode cFA_pass 12 = .ok (.iload_n 2, 1) := by decide +kernel
theorem dFA_pass_13 : decode cFA_pass 13 = .ok (.iaload, 1) := by decide +kernel
theorem dFA_pass_14 : decode cFA_pass 14 = .ok (.istore 5, 2) := by decide +kernel
theorem dFA_pass_16 : decode cFA_pass 16 = .ok (.aload_n 1, 1) := by decide +kernel
theorem dFA_pass_17 : decode cFA_pass 17 = .ok (.getfield 37, 3) := by decide +kernel
theorem dFA_pass_20 : decode cFA_pass 20 = .ok (.iload_n 2, 1) := by decide +kernel
theorem dFA_pass_21 : decode cFA_pass 21 = .ok (.iaload, 1) := by decide +kernel
theorem dFA_pass_22 : decode cFA_pass 22 = .ok (.tableswitch 140 1 10 #[54, 140, 140, 140, 140, 140, 65, 92, 114, 125], 54) := by decide +kernel
theorem dFA_pass_76 : decode cFA_pass 76 = .ok (.aload_n 0, 1) := by decide +kernel
theorem dFA_pass_77 : decode cFA_pass 77 = .ok (.iload 4, 2) := by decide +kernel
theorem dFA_pass_79 : decode cFA_pass 79 = .ok (.iload 5, 2) := by decide +kernel
theorem dFA_pass_81 : decode cFA_pass 81 = .ok (.invokevirtual 40, 3) := by decide +kernel
theorem dFA_pass_84 : decode cFA_pass 84 = .ok (.goto 92, 3) := by decide +kernel
theorem dFA_pass_87 : decode cFA_pass 87 = .ok (.aload_n 0, 1) := by decide +kernel
theorem dFA_pass_88 : decode cFA_pass 88 = .ok (.iload 4, 2) := by decide +kernel
theorem dFA_pass_90 : decode cFA_pass 90 = .ok (.invokevirtual 44, 3) := by decide +kernel
theorem dFA_pass_93 : decode cFA_pass 93 = .ok (.aload_n 0, 1) := by decide +kernel
theorem dFA_pass_94 : decode cFA_pass 94 = .ok (.dup, 1) := by decide +kernel
theorem dFA_pass_95 : decode cFA_pass 95 = .ok (.getfield 18, 3) := by decide +kernel
theorem dFA_pass_98 : decode cFA_pass 98 = .ok (.iconst 1, 1) := by decide +kernel
theorem dFA_pass_99 : decode cFA_pass 99 = .ok (.iload 4, 2) := by decide +kernel
theorem dFA_pass_101 : decode cFA_pass 101 = .ok (.ishl, 1) := by decide +kernel
theorem dFA_pass_102 : decode cFA_pass 102 = .ok (.iconst 1, 1) := by decide +kernel
theorem dFA_pass_103 : decode cFA_pass 103 = .ok (.iload 5, 2) := by decide +kernel
theorem dFA_pass_105 : decode cFA_pass 105 = .ok (.ishl, 1) := by decide +kernel
theorem dFA_pass_106 : decode cFA_pass 106 = .ok (.ior, 1) := by decide +kernel
theorem dFA_pass_107 : decode cFA_pass 107 = .ok (.ior, 1) := by decide +kernel
theorem dFA_pass_108 : decode cFA_pass 108 = .ok (.putfield 18, 3) := by decide +kernel
theorem dFA_pass_111 : decode cFA_pass 111 = .ok (.goto 65, 3) := by decide +kernel
theorem dFA_pass_114 : decode cFA_pass 114 = .ok (.aload_n 0, 1) := by decide +kernel
theorem dFA_pass_115 : decode cFA_pass 115 = .ok (.iload 4, 2) := by decide +kernel
theorem dFA_pass_117 : decode cFA_pass 117 = .ok (.invokevirtual 44, 3) := by decide +kernel
theorem dFA_pass_120 : decode cFA_pass 120 = .ok (.aload_n 0, 1) := by decide +kernel
theorem dFA_pass_121 : decode cFA_pass 121 = .ok (.dup, 1) := by decide +kernel
theorem dFA_pass_122 : decode cFA_pass 122 = .ok (.getfield 18, 3) := by decide +kernel
theorem dFA_pass_125 : decode cFA_pass 125 = .ok (.iconst 1, 1) := by decide +kernel
theorem dFA_pass_126 : decode cFA_pass 126 = .ok (.iload 4, 2) := by decide +kernel
theorem dFA_pass_128 : decode cFA_pass 128 = .ok (.ishl, 1) := by decide +kernel
theorem dFA_pass_129 : decode cFA_pass 129 = .ok (.ior, 1) := by decide +kernel
theorem dFA_pass_130 : decode cFA_pass 130 = .ok (.putfield 18, 3) := by decide +kernel
theorem dFA_pass_133 : decode cFA_pass 133 = .ok (.goto 43, 3) := by decide +kernel
theorem dFA_pass_136 : decode cFA_pass 136 = .ok (.aload_n 0, 1) := by decide +kernel
theorem dFA_pass_137 : decode cFA_pass 137 = .ok (.iload 4, 2) := by decide +kernel
theorem dFA_pass_139 : decode cFA_pass 139 = .ok (.iload 5, 2) := by decide +kernel
theorem dFA_pass_141 : decode cFA_pass 141 = .ok (.invokevirtual 48, 3) := by decide +kernel
theorem dFA_pass_144 : decode cFA_pass 144 = .ok (.goto 32, 3) := by decide +kernel
theorem dFA_pass_147 : decode cFA_pass 147 = .ok (.aload_n 0, 1) := by decide +kernel
theorem dFA_pass_148 : decode cFA_pass 148 = .ok (.iload 4, 2) := by decide +kernel
theorem dFA_pass_150 : decode cFA_pass 150 = .ok (.iload 5, 2) := by decide +kernel
theorem dFA_pass_152 : decode cFA_pass 152 = .ok (.aload_n 3, 1) := by decide +kernel
theorem dFA_pass_153 : decode cFA_pass 153 = .ok (.iload 4, 2) := by decide +kernel
theorem dFA_pass_155 : decode cFA_pass 155 = .ok (.iaload, 1) := by decide +kernel
theorem dFA_pass_156 : decode cFA_pass 156 = .ok (.invokevirtual 51, 3) := by decide +kernel
theorem dFA_pass_159 : decode cFA_pass 159 = .ok (.goto 17, 3) := by decide +kernel
theorem dFA_pass_162 : decode cFA_pass 162 = .ok (.aload_n 1, 1) := by decide +kernel
theorem dFA_pass_163 : decode cFA_pass 163 = .ok (.iload_n 2, 1) := by decide +kernel
theorem dFA_pass_164 : decode cFA_pass 164 = .ok (.invokevirtual 55, 3) := by decide +kernel
theorem dFA_pass_167 : decode cFA_pass 167 = .ok (.ifCond .eq 9, 3) := by decide +kernel
theorem dFA_pass_170 : decode cFA_pass 170 = .ok (.aload_n 0, 1) := by decide +kernel
theorem dFA_pass_171 : decode cFA_pass 171 = .ok (.iload 4, 2) := by decide +kernel
theorem dFA_pass_173 : decode cFA_pass 173 = .ok (.invokevirtual 44, 3) := by decide +kernel
theorem dFA_pass_176 : decode cFA_pass 176 = .ok (.return_, 1) := by decide +kernel
