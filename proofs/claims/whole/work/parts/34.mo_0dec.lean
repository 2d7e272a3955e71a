theorem dMO_tie_0 : decode cMO_tie 0 = .ok (.aload_n 0, 1) := by decide +kernel
theorem dMO_tie_1 : decode cMO_tie 1 = .ok (.getfield 49, 3) := by decide +kernel
theorem dMO_tie_4 : decode cMO_tie 4 = .ok (.bipush 16, 2) := by decide +kernel
theorem dMO_tie_6 : decode cMO_tie 6 = .ok (.iload_n 1, 1) := by decide +kernel
theorem dMO_tie_7 : decode cMO_tie 7 = .ok (.imul, 1) := by decide +kernel
theorem dMO_tie_8 : decode cMO_tie 8 = .ok (.iload_n 2, 1) := by decide +kernel
theorem dMO_tie_9 : decode cMO_tie 9 = .ok (.iadd, 1) := by decide +kernel
theorem dMO_tie_10 : decode cMO_tie 10 = .ok (.iconst 1, 1) := by decide +kernel
theorem dMO_tie_11 : decode cMO_tie 11 = .ok (.bastore, 1) := by decide +kernel
theorem dMO_tie_12 : decode cMO_tie 12 = .ok (.aload_n 0, 1) := by decide +kernel
theorem dMO_tie_13 : decode cMO_tie 13 = .ok (.getfield 49, 3) := by decide +kernel
theorem dMO_tie_16 : decode cMO_tie 16 = .ok (.bipush 16, 2) := by decide +kernel
theorem dMO_tie_18 : decode cMO_tie 18 = .ok (.iload_n 2, 1) := by decide +kernel
theorem dMO_tie_19 : decode cMO_tie 19 = .ok (.imul, 1) := by decide +kernel
theorem dMO_tie_20 : decode cMO_tie 20 = .ok (.iload_n 1, 1) := by decide +kernel
theorem dMO_tie_21 : decode cMO_tie 21 = .ok (.iadd, 1) := by decide +kernel
theorem dMO_tie_22 : decode cMO_tie 22 = .ok (.iconst 1, 1) := by decide +kernel
theorem dMO_tie_23 : decode cMO_tie 23 = .ok (.bastore, 1) := by decide +kernel
theorem dMO_tie_24 : decode cMO_tie 24 = .ok (.return_, 1) := by decide +kernel
theorem dMO_passMove_0 : decode cMO_passMove 0 = .ok (.aload_n 0, 1) := by decide +kernel
theorem dMO_passMove_1 : decode cMO_passMove 1 = .ok (.iload_n 2, 1) := by decide +kernel
theorem dMO_passMove_2 : decode cMO_passMove 2 = .ok (.iload_n 3, 1) := by decide +kernel
theorem dMO_passMove_3 : decode cMO_passMove 3 = .ok (.invokevirtual 141, 3) := by decide +kernel
theorem dMO_passMove_6 : decode cMO_passMove 6 = .ok (.iconst 0, 1) := by decide +kernel
theorem dMO_passMove_7 : decode cMO_passMove 7 = .ok (.istore 4, 2) := by decide +kernel
theorem dMO_passMove_9 : decode cMO_passMove 9 = .ok (.iload 4, 2) := by decide +kernel
theorem dMO_passMove_11 : decode cMO_passMove 11 = .ok (.bipush 16, 2) := by decide +kernel
theorem dMO_passMove_13 : decode cMO_passMove 13 = .ok (.if_icmp .ge 86, 3) := by decide +kernel
theorem dMO_passMove_16 : decode cMO_passMove 16 = .ok (.iload 4, 2) := by decide +kernel
theorem dMO_passMove_18 : decode cMO_passMove 18 = .ok (.iload_n 2, 1) := by decide +kernel
theorem dMO_passMove_19 : decode cMO_passMove 19 = .ok (.if_icmp .ne 6, 3) := by decide +kernel
theorem dMO_passMove_22 : decode cMO_passMove 22 = .ok (.goto 71, 3) := by decide +kernel
theorem dMO_passMove_25 : decode cMO_passMove 25 = .ok (.aload_n 0, 1) := by decide +kernel
theorem dMO_passMove_26 : decode cMO_passMove 26 = .ok (.getfield 37, 3) := by decide +kernel
theorem dMO_passMove_29 : decode cMO_passMove 29 = .ok (.sipush 256, 3) := by decide +kernel
theorem dMO_passMove_32 : decode cMO_passMove 32 = .ok (.iload_n 1, 1) := by decide +kernel
theorem dMO_passMove_33 : decode cMO_passMove 33 = .ok (.imul, 1) := by decide +kernel
theorem dMO_passMove_34 : decode cMO_passMove 34 = .ok (.bipush 16, 2) := by decide +kernel
theorem dMO_passMove_36 : decode cMO_passMove 36 = .ok (.iload_n 3, 1) := by decide +kernel
theorem dMO_passMove_37 : decode cMO_passMove 37 = .ok (.imul, 1) := by decide +kernel
theorem dMO_passMove_38 : decode cMO_passMove 38 = .ok (.iadd, 1) := by decide +kernel
theorem dMO_passMove_39 : decode cMO_passMove 39 = .ok (.iload 4, 2) := by decide +kernel
theorem dMO_passMove_41 : decode cMO_passMove 41 = .ok (.iadd, 1) := by decide +kernel
theorem dMO_passMove_42 : decode cMO_passMove 42 = .ok (.baload, 1) := by decide +kernel
theorem dMO_passMove_43 : decode cMO_passMove 43 = .ok (.ifCond .eq 10, 3) := by decide +kernel
theorem dMO_passMove_46 : decode cMO_passMove 46 = .ok (.aload_n 0, 1) := by decide +kernel
theorem dMO_passMove_47 : decode cMO_passMove 47 = .ok (.iload_n 2, 1) := by decide +kernel
theorem dMO_passMove_48 : decode cMO_passMove 48 = .ok (.iload 4, 2) := by decide +kernel
theorem dMO_passMove_50 : decode cMO_passMove 50 = .ok (.invokevirtual 141, 3) := by decide +kernel
theorem dMO_passMove_53 : decode cMO_passMove 53 = .ok (.aload_n 0, 1) := by decide +kernel
theorem dMO_passMove_54 : decode cMO_passMove 54 = .ok (.getfield 52, 3) := by decide +kernel
theorem dMO_passMove_57 : decode cMO_passMove 57 = .ok (.bipush 16, 2) := by decide +kernel
theorem dMO_passMove_59 : decode cMO_passMove 59 = .ok (.iload_n 2, 1) := by decide +kernel
theorem dMO_passMove_60 : decode cMO_passMove 60 = .ok (.imul, 1) := by decide +kernel
theorem dMO_passMove_61 : decode cMO_passMove 61 = .ok (.iload 4, 2) := by decide +kernel
theorem dMO_passMove_63 : decode cMO_passMove 63 = .ok (.iadd, 1) := by decide +kernel
theorem dMO_passMove_64 : decode cMO_passMove 64 = .ok (.aload_n 0, 1) := by decide +kernel
theorem dMO_passMove_65 : decode cMO_passMove 65 = .ok (.iload_n 1, 1) := by decide +kernel
theorem dMO_passMove_66 : decode cMO_passMove 66 = .ok (.iload_n 3, 1) := by decide +kernel
theorem dMO_passMove_67 : decode cMO_passMove 67 = .ok (.iload 4, 2) := by decide +kernel
theorem dMO_passMove_69 : decode cMO_passMove 69 = .ok (.invokevirtual 121, 3) := by decide +kernel
theorem dMO_passMove_72 : decode cMO_passMove 72 = .ok (.bastore, 1) := by decide +kernel
theorem dMO_passMove_73 : decode cMO_passMove 73 = .ok (.aload_n 0, 1) := by decide +kernel
theorem dMO_passMove_74 : decode cMO_passMove 74 = .ok (.getfield 52, 3) := by decide +kernel
theorem dMO_passMove_77 : decode cMO_passMove 77 = .ok (.bipush 16, 2) := by decide +kernel
theorem dMO_passMove_79 : decode cMO_passMove 79 = .ok (.iload 4, 2) := by decide +kernel
theorem dMO_passMove_81 : decode cMO_passMove 81 = .ok (.imul, 1) := by decide +kernel
theorem dMO_passMove_82 : decode cMO_passMove 82 = .ok (.iload_n 2, 1) := by decide +kernel
theorem dMO_passMove_83 : decode cMO_passMove 83 = .ok (.iadd, 1) := by decide +kernel
theorem dMO_passMove_84 : decode cMO_passMove 84 = .ok (.aload_n 0, 1) := by decide +kernel
theorem dMO_passMove_85 : decode cMO_passMove 85 = .ok (.iload_n 1, 1) := by decide +kernel
theorem dMO_passMove_86 : decode cMO_passMove 86 = .ok (.iload 4, 2) := by decide +kernel
theorem dMO_passMove_88 : decode cMO_passMove 88 = .ok (.iload_n 3, 1) := by decide +kernel
theorem dMO_passMove_89 : decode cMO_passMove 89 = .ok (.invokevirtual 121, 3) := by decide +kernel
theorem dMO_passMove_92 : decode cMO_passMove 92 = .ok (.bastore, 1) := by decide +kernel
theorem dMO_passMove_93 : decode cMO_passMove 93 = .ok (.iinc 4 1, 3) := by decide +kernel
theorem dMO_passMove_96 : decode cMO_passMove 96 = .ok (.goto (-87), 3) := by decide +kernel
theorem dMO_passMove_99 : decode cMO_passMove 99 = .ok (.aload_n 0, 1) := by decide +kernel
theorem dMO_passMove_100 : decode cMO_passMove 100 = .ok (.getfield 52, 3) := by decide +kernel
theorem dMO_passMove_103 : decode cMO_passMove 103 = .ok (.bipush 16, 2) := by decide +kernel
theorem dMO_passMove_105 : decode cMO_passMove 105 = .ok (.iload_n 2, 1) := by decide +kernel
theorem dMO_passMove_106 : decode cMO_passMove 106 = .ok (.imul, 1) := by decide +kernel
theorem dMO_passMove_107 : decode cMO_passMove 107 = .ok (.iload_n 2, 1) := by decide +kernel
theorem dMO_passMove_108 : decode cMO_passMove 108 = .ok (.iadd, 1) := by decide +kernel
theorem dMO_passMove_109 : decode cMO_passMove 109 = .ok (.aload_n 0, 1) := by decide +kernel
theorem dMO_passMove_110 : decode cMO_passMove 110 = .ok (.iload_n 1, 1) := by decide +kernel
theorem dMO_passMove_111 : decode cMO_passMove 111 = .ok (.iload_n 3, 1) := by decide +kernel
theorem dMO_passMove_112 : decode cMO_passMove 112 = .ok (.iload_n 3, 1) := by decide +kernel
theorem dMO_passMove_113 : decode cMO_passMove 113 = .ok (.invokevirtual 121, 3) := by decide +kernel
theorem dMO_passMove_116 : decode cMO_passMove 116 = .ok (.bastore, 1) := by decide +kernel
theorem dMO_passMove_117 : decode cMO_passMove 117 = .ok (.aload_n 0, 1) := by decide +kernel
theorem dMO_passMove_118 : decode cMO_passMove 118 = .ok (.getfield 55, 3) := by decide +kernel
theorem dMO_passMove_121 : decode cMO_passMove 121 = .ok (.iload_n 2, 1) := by decide +kernel
theorem dMO_passMove_122 : decode cMO_passMove 122 = .ok (.aload_n 0, 1) := by decide +kernel
theorem dMO_passMove_123 : decode cMO_passMove 123 = .ok (.getfield 43, 3) := by decide +kernel
theorem dMO_passMove_126 : decode cMO_passMove 126 = .ok (.bipush 16, 2) := by decide +kernel
theorem dMO_passMove_128 : decode cMO_passMove 128 = .ok (.iload_n 1, 1) := by decide +kernel
theorem dMO_passMove_129 : decode cMO_passMove 129 = .ok (.imul, 1) := by decide +kernel
theorem dMO_passMove_130 : decode cMO_passMove 130 = .ok (.iload_n 3, 1) := by decide +kernel
theorem dMO_passMove_131 : decode cMO_passMove 131 = .ok (.iadd, 1) := by decide +kernel
theorem dMO_passMove_132 : decode cMO_passMove 132 = .ok (.baload, 1) := by decide +kernel
theorem dMO_passMove_133 : decode cMO_passMove 133 = .ok (.bastore, 1) := by decide +kernel
theorem dMO_passMove_134 : decode cMO_passMove 134 = .ok (.return_, 1) := by decide +kernel
theorem dMO_passLoad_0 : decode cMO_passLoad 0 = .ok (.iconst 0, 1) := by decide +kernel
theorem dMO_passLoad_1 : decode cMO_passLoad 1 = .ok (.istore 4, 2) := by decide +kernel
theorem dMO_passLoad_3 : decode cMO_passLoad 3 = .ok (.iload 4, 2) := by decide +kernel
theorem dMO_passLoad_5 : decode cMO_passLoad 5 = .ok (.bipush 16, 2) := by decide +kernel
theorem dMO_passLoad_7 : decode cMO_passLoad 7 = .ok (.if_icmp .ge 68, 3) := by decide +kernel
theorem dMO_passLoad_10 : decode cMO_passLoad 10 = .ok (.iload 4, 2) := by decide +kernel
theorem dMO_passLoad_12 : decode cMO_passLoad 12 = .ok (.iload_n 2, 1) := by decide +kernel
theorem dMO_passLoad_13 : decode cMO_passLoad 13 = .ok (.if_icmp .ne 6, 3) := by decide +kernel
theorem dMO_passLoad_16 : decode cMO_passLoad 16 = .ok (.goto 53, 3) := by decide +kernel
theorem dMO_passLoad_19 : decode cMO_passLoad 19 = .ok (.aload_n 0, 1) := by decide +kernel
theorem dMO_passLoad_20 : decode cMO_passLoad 20 = .ok (.iload_n 1, 1) := by decide +kernel
theorem dMO_passLoad_21 : decode cMO_passLoad 21 = .ok (.iload_n 3, 1) := by decide +kernel
theorem dMO_passLoad_22 : decode cMO_passLoad 22 = .ok (.iload 4, 2) := by decide +kernel
theorem dMO_passLoad_24 : decode cMO_passLoad 24 = .ok (.invokevirtual 128, 3) := by decide +kernel
theorem dMO_passLoad_27 : decode cMO_passLoad 27 = .ok (.ifCond .eq 24, 3) := by decide +kernel
theorem dMO_passLoad_30 : decode cMO_passLoad 30 = .ok (.aload_n 0, 1) := by decide +kernel
theorem dMO_passLoad_31 : decode cMO_passLoad 31 = .ok (.getfield 55, 3) := by decide +kernel
theorem dMO_passLoad_34 : decode cMO_passLoad 34 = .ok (.iload 4, 2) := by decide +kernel
theorem dMO_passLoad_36 : decode cMO_passLoad 36 = .ok (.iconst 1, 1) := by decide +kernel
theorem dMO_passLoad_37 : decode cMO_passLoad 37 = .ok (.bastore, 1) := by decide +kernel
theorem dMO_passLoad_38 : decode cMO_passLoad 38 = .ok (.aload_n 0, 1) := by decide +kernel
theorem dMO_passLoad_39 : decode cMO_passLoad 39 = .ok (.getfield 52, 3) := by decide +kernel
theorem dMO_passLoad_42 : decode cMO_passLoad 42 = .ok (.bipush 16, 2) := by decide +kernel
theorem dMO_passLoad_44 : decode cMO_passLoad 44 = .ok (.iload 4, 2) := by decide +kernel
theorem dMO_passLoad_46 : decode cMO_passLoad 46 = .ok (.imul, 1) := by decide +kernel
theorem dMO_passLoad_47 : decode cMO_passLoad 47 = .ok (.iload_n 2, 1) := by decide +kernel
theorem dMO_passLoad_48 : decode cMO_passLoad 48 = .ok (.iadd, 1) := by decide +kernel
theorem dMO_passLoad_49 : decode cMO_passLoad 49 = .ok (.iconst 1, 1) := by decide +kernel
theorem dMO_passLoad_50 : decode cMO_passLoad 50 = .ok (.bastore, 1) := by decide +kernel
theorem dMO_passLoad_51 : decode cMO_passLoad 51 = .ok (.aload_n 0, 1) := by decide +kernel
theorem dMO_passLoad_52 : decode cMO_passLoad 52 = .ok (.iload_n 1, 1) := by decide +kernel
theorem dMO_passLoad_53 : decode cMO_passLoad 53 = .ok (.iload_n 3, 1) := by decide +kernel
theorem dMO_passLoad_54 : decode cMO_passLoad 54 = .ok (.iload 4, 2) := by decide +kernel
theorem dMO_passLoad_56 : decode cMO_passLoad 56 = .ok (.invokevirtual 121, 3) := by decide +kernel
theorem dMO_passLoad_59 : decode cMO_passLoad 59 = .ok (.ifCond .eq 10, 3) := by decide +kernel
theorem dMO_passLoad_62 : decode cMO_passLoad 62 = .ok (.aload_n 0, 1) := by decide +kernel
theorem dMO_passLoad_63 : decode cMO_passLoad 63 = .ok (.iload_n 2, 1) := by decide +kernel
theorem dMO_passLoad_64 : decode cMO_passLoad 64 = .ok (.iload 4, 2) := by decide +kernel
theorem dMO_passLoad_66 : decode cMO_passLoad 66 = .ok (.invokevirtual 141, 3) := by decide +kernel
theorem dMO_passLoad_69 : decode cMO_passLoad 69 = .ok (.iinc 4 1, 3) := by decide +kernel
theorem dMO_passLoad_72 : decode cMO_passLoad 72 = .ok (.goto (-69), 3) := by decide +kernel
theorem dMO_passLoad_75 : decode cMO_passLoad 75 = .ok (.return_, 1) := by decide +kernel
theorem dMO_passStore_0 : decode cMO_passStore 0 = .ok (.iconst 0, 1) := by decide +kernel
theorem dMO_passStore_1 : decode cMO_passStore 1 = .ok (.istore 4, 2) := by decide +kernel
theorem dMO_passStore_3 : decode cMO_passStore 3 = .ok (.iload 4, 2) := by decide +kernel
theorem dMO_passStore_5 : decode cMO_passStore 5 = .ok (.bipush 16, 2) := by decide +kernel
theorem dMO_passStore_7 : decode cMO_passStore 7 = .ok (.if_icmp .ge 92, 3) := by decide +kernel
theorem dMO_passStore_10 : decode cMO_passStore 10 = .ok (.aload_n 0, 1) := by decide +kernel
theorem dMO_passStore_11 : decode cMO_passStore 11 = .ok (.iload_n 1, 1) := by decide +kernel
theorem dMO_passStore_12 : decode cMO_passStore 12 = .ok (.iload_n 2, 1) := by decide +kernel
theorem dMO_passStore_13 : decode cMO_passStore 13 = .ok (.iload 4, 2) := by decide +kernel
theorem dMO_passStore_15 : decode cMO_passStore 15 = .ok (.invokevirtual 128, 3) := by decide +kernel
theorem dMO_passStore_18 : decode cMO_passStore 18 = .ok (.ifCond .ne 6, 3) := by decide +kernel
theorem dMO_passStore_21 : decode cMO_passStore 21 = .ok (.goto 72, 3) := by decide +kernel
theorem dMO_passStore_24 : decode cMO_passStore 24 = .ok (.aload_n 0, 1) := by decide +kernel
theorem dMO_passStore_25 : decode cMO_passStore 25 = .ok (.getfield 55, 3) := by decide +kernel
theorem dMO_passStore_28 : decode cMO_passStore 28 = .ok (.iload 4, 2) := by decide +kernel
theorem dMO_passStore_30 : decode cMO_passStore 30 = .ok (.iconst 1, 1) := by decide +kernel
theorem dMO_passStore_31 : decode cMO_passStore 31 = .ok (.bastore, 1) := by decide +kernel
theorem dMO_passStore_32 : decode cMO_passStore 32 = .ok (.iconst 0, 1) := by decide +kernel
theorem dMO_passStore_33 : decode cMO_passStore 33 = .ok (.istore 5, 2) := by decide +kernel
theorem dMO_passStore_35 : decode cMO_passStore 35 = .ok (.iload 5, 2) := by decide +kernel
theorem dMO_passStore_37 : decode cMO_passStore 37 = .ok (.bipush 16, 2) := by decide +kernel
theorem dMO_passStore_39 : decode cMO_passStore 39 = .ok (.if_icmp .ge 54, 3) := by decide +kernel
theorem dMO_passStore_42 : decode cMO_passStore 42 = .ok (.aload_n 0, 1) := by decide +kernel
theorem dMO_passStore_43 : decode cMO_passStore 43 = .ok (.getfield 52, 3) := by decide +kernel
theorem dMO_passStore_46 : decode cMO_passStore 46 = .ok (.bipush 16, 2) := by decide +kernel
theorem dMO_passStore_48 : decode cMO_passStore 48 = .ok (.iload 4, 2) := by decide +kernel
theorem dMO_passStore_50 : decode cMO_passStore 50 = .ok (.imul, 1) := by decide +kernel
theorem dMO_passStore_51 : decode cMO_passStore 51 = .ok (.iload 5, 2) := by decide +kernel
theorem dMO_passStore_53 : decode cMO_passStore 53 = .ok (.iadd, 1) := by decide +kernel
theorem dMO_passStore_54 : decode cMO_passStore 54 = .ok (.aload_n 0, 1) := by decide +kernel
theorem dMO_passStore_55 : decode cMO_passStore 55 = .ok (.getfield 52, 3) := by decide +kernel
theorem dMO_passStore_58 : decode cMO_passStore 58 = .ok (.bipush 16, 2) := by decide +kernel
theorem dMO_passStore_60 : decode cMO_passStore 60 = .ok (.iload 4, 2) := by decide +kernel
theorem dMO_passStore_62 : decode cMO_passStore 62 = .ok (.imul, 1) := by decide +kernel
theorem dMO_passStore_63 : decode cMO_passStore 63 = .ok (.iload 5, 2) := by decide +kernel
theorem dMO_passStore_65 : decode cMO_passStore 65 = .ok (.iadd, 1) := by decide +kernel
theorem dMO_passStore_66 : decode cMO_passStore 66 = .ok (.baload, 1) := by decide +kernel
theorem dMO_passStore_67 : decode cMO_passStore 67 = .ok (.ifCond .ne 14, 3) := by decide +kernel
theorem dMO_passStore_70 : decode cMO_passStore 70 = .ok (.aload_n 0, 1) := by decide +kernel
theorem dMO_passStore_71 : decode cMO_passStore 71 = .ok (.iload_n 1, 1) := by decide +kernel
theorem dMO_passStore_72 : decode cMO_passStore 72 = .ok (.iload_n 3, 1) := by decide +kernel
theorem dMO_passStore_73 : decode cMO_passStore 73 = .ok (.iload 5, 2) := by decide +kernel
theorem dMO_passStore_75 : decode cMO_passStore 75 = .ok (.invokevirtual 128, 3) := by decide +kernel
theorem dMO_passStore_78 : decode cMO_passStore 78 = .ok (.ifCond .eq 7, 3) := by decide +kernel
theorem dMO_passStore_81 : decode cMO_passStore 81 = .ok (.iconst 1, 1) := by decide +kernel
theorem dMO_passStore_82 : decode cMO_passStore 82 = .ok (.goto 4, 3) := by decide +kernel
theorem dMO_passStore_85 : decode cMO_passStore 85 = .ok (.iconst 0, 1) := by decide +kernel
theorem dMO_passStore_86 : decode cMO_passStore 86 = .ok (.bastore, 1) := by decide +kernel
theorem dMO_passStore_87 : decode cMO_passStore 87 = .ok (.iinc 5 1, 3) := by decide +kernel
theorem dMO_passStore_90 : decode cMO_passStore 90 = .ok (.goto (-55), 3) := by decide +kernel
theorem dMO_passStore_93 : decode cMO_passStore 93 = .ok (.iinc 4 1, 3) := by decide +kernel
theorem dMO_passStore_96 : decode cMO_passStore 96 = .ok (.goto (-93), 3) := by decide +kernel
theorem dMO_passStore_99 : decode cMO_passStore 99 = .ok (.return_, 1) := by decide +kernel
theorem dMO_pass_0 : decode cMO_pass 0 = .ok (.aload_n 0, 1) := by decide +kernel
theorem dMO_pass_1 : decode cMO_pass 1 = .ok (.getfield 7, 3) := by decide +kernel
theorem dMO_pass_4 : decode cMO_pass 4 = .ok (.aload_n 0, 1) := by decide +kernel
theorem dMO_pass_5 : decode cMO_pass 5 = .ok (.getfield 101, 3) := by decide +kernel
theorem dMO_pass_8 : decode cMO_pass 8 = .ok (.iload_n 1, 1) := by decide +kernel
theorem dMO_pass_9 : decode cMO_pass 9 = .ok (.iadd, 1) := by decide +kernel
theorem dMO_pass_10 : decode cMO_pass 10 = .ok (.iaload, 1) := by decide +kernel
theorem dMO_pass_11 : decode cMO_pass 11 = .ok (.istore_n 2, 1) := by decide +kernel
theorem dMO_pass_12 : decode cMO_pass 12 = .ok (.aload_n 0, 1) := by decide +kernel
theorem dMO_pass_13 : decode cMO_pass 13 = .ok (.getfield 13, 3) := by decide +kernel
theorem dMO_pass_16 : decode cMO_pass 16 = .ok (.aload_n 0, 1) := by decide +kernel
theorem dMO_pass_17 : decode cMO_pass 17 = .ok (.getfield 101, 3) := by decide +kernel
theorem dMO_pass_20 : decode cMO_pass 20 = .ok (.iload_n 1, 1) := by decide +kernel
theorem dMO_pass_21 : decode cMO_pass 21 = .ok (.iadd, 1) := by decide +kernel
theorem dMO_pass_22 : decode cMO_pass 22 = .ok (.iaload, 1) := by decide +kernel
theorem dMO_pass_23 : decode cMO_pass 23 = .ok (.istore_n 3, 1) := by decide +kernel
theorem dMO_pass_24 : decode cMO_pass 24 = .ok (.aload_n 0, 1) := by decide +kernel
theorem dMO_pass_25 : decode cMO_pass 25 = .ok (.getfield 16, 3) := by decide +kernel
theorem dMO_pass_28 : decode cMO_pass 28 = .ok (.aload_n 0, 1) := by decide +kernel
theorem dMO_pass_29 : decode cMO_pass 29 = .ok (.getfield 101, 3) := by decide +kernel
theorem dMO_pass_32 : decode cMO_pass 32 = .ok (.iload_n 1, 1) := by decide +kernel
theorem dMO_pass_33 : decode cMO_pass 33 = .ok (.iadd, 1) := by decide +kernel
theorem dMO_pass_34 : decode cMO_pass 34 = .ok (.iaload, 1) := by decide +kernel
theorem dMO_pass_35 : decode cMO_pass 35 = .ok (.istore 4, 2) := by decide +kernel
theorem dMO_pass_37 : decode cMO_pass 37 = .ok (.iload_n 2, 1) := by decide +kernel
theorem dMO_pass_38 : decode cMO_pass 38 = .ok (.iconst 1, 1) := by decide +kernel
theorem dMO_pass_39 : decode cMO_pass 39 = .ok (.if_icmp .ne 13, 3) := by decide +kernel
theorem dMO_pass_42 : decode cMO_pass 42 = .ok (.iload_n 3, 1) := by decide +kernel
theorem dMO_pass_43 : decode cMO_pass 43 = .ok (.iload 4, 2) := by decide +kernel
theorem dMO_pass_45 : decode cMO_pass 45 = .ok (.if_icmp .ne 7, 3) := by decide +kernel
theorem dMO_pass_48 : decode cMO_pass 48 = .ok (.iconst 1, 1) := by decide +kernel
theorem dMO_pass_49 : decode cMO_pass 49 = .ok (.goto 4, 3) := by decide +kernel
theorem dMO_pass_52 : decode cMO_pass 52 = .ok (.iconst 0, 1) := by decide +kernel
theorem dMO_pass_53 : decode cMO_pass 53 = .ok (.istore 5, 2) := by decide +kernel
theorem dMO_pass_55 : decode cMO_pass 55 = .ok (.iconst 0, 1) := by decide +kernel
theorem dMO_pass_56 : decode cMO_pass 56 = .ok (.istore 6, 2) := by decide +kernel
theorem dMO_pass_58 : decode cMO_pass 58 = .ok (.iload 6, 2) := by decide +kernel
theorem dMO_pass_60 : decode cMO_pass 60 = .ok (.bipush 16, 2) := by decide +kernel
theorem dMO_pass_62 : decode cMO_pass 62 = .ok (.if_icmp .ge 211, 3) := by decide +kernel
theorem dMO_pass_65 : decode cMO_pass 65 = .ok (.iconst 0, 1) := by decide +kernel
theorem dMO_pass_66 : decode cMO_pass 66 = .ok (.istore 7, 2) := by decide +kernel
theorem dMO_pass_68 : decode cMO_pass 68 = .ok (.iload 7, 2) := by decide +kernel
theorem dMO_pass_70 : decode cMO_pass 70 = .ok (.bipush 16, 2) := by decide +kernel
theorem dMO_pass_72 : decode cMO_pass 72 = .ok (.if_icmp .ge 149, 3) := by decide +kernel
theorem dMO_pass_75 : decode cMO_pass 75 = .ok (.aload_n 0, 1) := by decide +kernel
theorem dMO_pass_76 : decode cMO_pass 76 = .ok (.iload_n 1, 1) := by decide +kernel
theorem dMO_pass_77 : decode cMO_pass 77 = .ok (.invokevirtual 118, 3) := by decide +kernel
theorem dMO_pass_80 : decode cMO_pass 80 = .ok (.ifCond .eq 24, 3) := by decide +kernel
theorem dMO_pass_83 : decode cMO_pass 83 = .ok (.iload 5, 2) := by decide +kernel
theorem dMO_pass_85 : decode cMO_pass 85 = .ok (.ifCond .ne 19, 3) := by decide +kernel
theorem dMO_pass_88 : decode cMO_pass 88 = .ok (.iload 6, 2) := by decide +kernel
theorem dMO_pass_90 : decode cMO_pass 90 = .ok (.iload_n 3, 1) := by decide +kernel
theorem dMO_pass_91 : decode cMO_pass 91 = .ok (.if_icmp .eq 9, 3) := by decide +kernel
theorem dMO_pass_94 : decode cMO_pass 94 = .ok (.iload 7, 2) := by decide +kernel
theorem dMO_pass_96 : decode cMO_pass 96 = .ok (.iload_n 3, 1) := by decide +kernel
theorem dMO_pass_97 : decode cMO_pass 97 = .ok (.if_icmp .ne 7, 3) := by decide +kernel
theorem dMO_pass_100 : decode cMO_pass 100 = .ok (.iconst 1, 1) := by decide +kernel
theorem dMO_pass_101 : decode cMO_pass 101 = .ok (.goto 4, 3) := by decide +kernel
theorem dMO_pass_104 : decode cMO_pass 104 = .ok (.iconst 0, 1) := by decide +kernel
theorem dMO_pass_105 : decode cMO_pass 105 = .ok (.istore 8, 2) := by decide +kernel
theorem dMO_pass_107 : decode cMO_pass 107 = .ok (.aload_n 0, 1) := by decide +kernel
theorem dMO_pass_108 : decode cMO_pass 108 = .ok (.getfield 49, 3) := by decide +kernel
theorem dMO_pass_111 : decode cMO_pass 111 = .ok (.bipush 16, 2) := by decide +kernel
theorem dMO_pass_113 : decode cMO_pass 113 = .ok (.iload 6, 2) := by decide +kernel
theorem dMO_pass_115 : decode cMO_pass 115 = .ok (.imul, 1) := by decide +kernel
theorem dMO_pass_116 : decode cMO_pass 116 = .ok (.iload 7, 2) := by decide +kernel
theorem dMO_pass_118 : decode cMO_pass 118 = .ok (.iadd, 1) := by decide +kernel
theorem dMO_pass_119 : decode cMO_pass 119 = .ok (.aload_n 0, 1) := by decide +kernel
theorem dMO_pass_120 : decode cMO_pass 120 = .ok (.getfield 37, 3) := by decide +kernel
theorem dMO_pass_123 : decode cMO_pass 123 = .ok (.sipush 256, 3) := by decide +kernel
theorem dMO_pass_126 : decode cMO_pass 126 = .ok (.iload_n 1, 1) := by decide +kernel
theorem dMO_pass_127 : decode cMO_pass 127 = .ok (.imul, 1) := by decide +kernel
theorem dMO_pass_128 : decode cMO_pass 128 = .ok (.bipush 16, 2) := by decide +kernel
theorem dMO_pass_130 : decode cMO_pass 130 = .ok (.iload 6, 2) := by decide +kernel
theorem dMO_pass_132 : decode cMO_pass 132 = .ok (.imul, 1) := by decide +kernel
theorem dMO_pass_133 : decode cMO_pass 133 = .ok (.iadd, 1) := by decide +kernel
theorem dMO_pass_134 : decode cMO_pass 134 = .ok (.iload 7, 2) := by decide +kernel
theorem dMO_pass_136 : decode cMO_pass 136 = .ok (.iadd, 1) := by decide +kernel
theorem dMO_pass_137 : decode cMO_pass 137 = .ok (.baload, 1) := by decide +kernel
theorem dMO_pass_138 : decode cMO_pass 138 = .ok (.ifCond .eq 12, 3) := by decide +kernel
theorem dMO_pass_141 : decode cMO_pass 141 = .ok (.iload 8, 2) := by decide +kernel
theorem dMO_pass_143 : decode cMO_pass 143 = .ok (.ifCond .ne 7, 3) := by decide +kernel
theorem dMO_pass_146 : decode cMO_pass 146 = .ok (.iconst 1, 1) := by decide +kernel
theorem dMO_pass_147 : decode cMO_pass 147 = .ok (.goto 4, 3) := by decide +kernel
theorem dMO_pass_150 : decode cMO_pass 150 = .ok (.iconst 0, 1) := by decide +kernel
theorem dMO_pass_151 : decode cMO_pass 151 = .ok (.bastore, 1) := by decide +kernel
theorem dMO_pass_152 : decode cMO_pass 152 = .ok (.aload_n 0, 1) := by decide +kernel
theorem dMO_pass_153 : decode cMO_pass 153 = .ok (.getfield 52, 3) := by decide +kernel
theorem dMO_pass_156 : decode cMO_pass 156 = .ok (.bipush 16, 2) := by decide +kernel
theorem dMO_pass_158 : decode cMO_pass 158 = .ok (.iload 6, 2) := by decide +kernel
theorem dMO_pass_160 : decode cMO_pass 160 = .ok (.imul, 1) := by decide +kernel
theorem dMO_pass_161 : decode cMO_pass 161 = .ok (.iload 7, 2) := by decide +kernel
theorem dMO_pass_163 : decode cMO_pass 163 = .ok (.iadd, 1) := by decide +kernel
theorem dMO_pass_164 : decode cMO_pass 164 = .ok (.aload_n 0, 1) := by decide +kernel
theorem dMO_pass_165 : decode cMO_pass 165 = .ok (.iload_n 1, 1) := by decide +kernel
theorem dMO_pass_166 : decode cMO_pass 166 = .ok (.iload 6, 2) := by decide +kernel
theorem dMO_pass_168 : decode cMO_pass 168 = .ok (.iload 7, 2) := by decide +kernel
theorem dMO_pass_170 : decode cMO_pass 170 = .ok (.invokevirtual 121, 3) := by decide +kernel
theorem dMO_pass_173 : decode cMO_pass 173 = .ok (.ifCond .eq 40, 3) := by decide +kernel
theorem dMO_pass_176 : decode cMO_pass 176 = .ok (.iload 8, 2) := by decide +kernel
theorem dMO_pass_178 : decode cMO_pass 178 = .ok (.ifCond .ne 35, 3) := by decide +kernel
theorem dMO_pass_181 : decode cMO_pass 181 = .ok (.iload_n 2, 1) := by decide +kernel
theorem dMO_pass_182 : decode cMO_pass 182 = .ok (.bipush 10, 2) := by decide +kernel
theorem dMO_pass_184 : decode cMO_pass 184 = .ok (.if_icmp .ne 25, 3) := by decide +kernel
theorem dMO_pass_187 : decode cMO_pass 187 = .ok (.aload_n 0, 1) := by decide +kernel
theorem dMO_pass_188 : decode cMO_pass 188 = .ok (.iload 6, 2) := by decide +kernel
theorem dMO_pass_190 : decode cMO_pass 190 = .ok (.iload_n 3, 1) := by decide +kernel
theorem dMO_pass_191 : decode cMO_pass 191 = .ok (.invokevirtual 125, 3) := by decide +kernel
theorem dMO_pass_194 : decode cMO_pass 194 = .ok (.ifCond .eq 15, 3) := by decide +kernel
theorem dMO_pass_197 : decode cMO_pass 197 = .ok (.aload_n 0, 1) := by decide +kernel
theorem dMO_pass_198 : decode cMO_pass 198 = .ok (.iload_n 1, 1) := by decide +kernel
theorem dMO_pass_199 : decode cMO_pass 199 = .ok (.iload 7, 2) := by decide +kernel
theorem dMO_pass_201 : decode cMO_pass 201 = .ok (.iload 4, 2) := by decide +kernel
theorem dMO_pass_203 : decode cMO_pass 203 = .ok (.invokevirtual 128, 3) := by decide +kernel
theorem dMO_pass_206 : decode cMO_pass 206 = .ok (.ifCond .eq 7, 3) := by decide +kernel
theorem dMO_pass_209 : decode cMO_pass 209 = .ok (.iconst 1, 1) := by decide +kernel
theorem dMO_pass_210 : decode cMO_pass 210 = .ok (.goto 4, 3) := by decide +kernel
theorem dMO_pass_213 : decode cMO_pass 213 = .ok (.iconst 0, 1) := by decide +kernel
theorem dMO_pass_214 : decode cMO_pass 214 = .ok (.bastore, 1) := by decide +kernel
theorem dMO_pass_215 : decode cMO_pass 215 = .ok (.iinc 7 1, 3) := by decide +kernel
theorem dMO_pass_218 : decode cMO_pass 218 = .ok (.goto (-150), 3) := by decide +kernel
theorem dMO_pass_221 : decode cMO_pass 221 = .ok (.aload_n 0, 1) := by decide +kernel
theorem dMO_pass_222 : decode cMO_pass 222 = .ok (.getfield 55, 3) := by decide +kernel
theorem dMO_pass_225 : decode cMO_pass 225 = .ok (.iload 6, 2) := by decide +kernel
theorem dMO_pass_227 : decode cMO_pass 227 = .ok (.aload_n 0, 1) := by decide +kernel
theorem dMO_pass_228 : decode cMO_pass 228 = .ok (.getfield 43, 3) := by decide +kernel
theorem dMO_pass_231 : decode cMO_pass 231 = .ok (.bipush 16, 2) := by decide +kernel
theorem dMO_pass_233 : decode cMO_pass 233 = .ok (.iload_n 1, 1) := by decide +kernel
theorem dMO_pass_234 : decode cMO_pass 234 = .ok (.imul, 1) := by decide +kernel
theorem dMO_pass_235 : decode cMO_pass 235 = .ok (.iload 6, 2) := by decide +kernel
theorem dMO_pass_237 : decode cMO_pass 237 = .ok (.iadd, 1) := by decide +kernel
theorem dMO_pass_238 : decode cMO_pass 238 = .ok (.baload, 1) := by decide +kernel
theorem dMO_pass_239 : decode cMO_pass 239 = .ok (.ifCond .eq 26, 3) := by decide +kernel
theorem dMO_pass_242 : decode cMO_pass 242 = .ok (.aload_n 0, 1) := by decide +kernel
theorem dMO_pass_243 : decode cMO_pass 243 = .ok (.iload_n 1, 1) := by decide +kernel
theorem dMO_pass_244 : decode cMO_pass 244 = .ok (.invokevirtual 118, 3) := by decide +kernel
theorem dMO_pass_247 : decode cMO_pass 247 = .ok (.ifCond .eq 14, 3) := by decide +kernel
theorem dMO_pass_250 : decode cMO_pass 250 = .ok (.iload 5, 2) := by decide +kernel
theorem dMO_pass_252 : decode cMO_pass 252 = .ok (.ifCond .ne 9, 3) := by decide +kernel
theorem dMO_pass_255 : decode cMO_pass 255 = .ok (.iload 6, 2) := by decide +kernel
theorem dMO_pass_257 : decode cMO_pass 257 = .ok (.iload_n 3, 1) := by decide +kernel
theorem dMO_pass_258 : decode cMO_pass 258 = .ok (.if_icmp .eq 7, 3) := by decide +kernel
theorem dMO_pass_261 : decode cMO_pass 261 = .ok (.iconst 1, 1) := by decide +kernel
theorem dMO_pass_262 : decode cMO_pass 262 = .ok (.goto 4, 3) := by decide +kernel
theorem dMO_pass_265 : decode cMO_pass 265 = .ok (.iconst 0, 1) := by decide +kernel
theorem dMO_pass_266 : decode cMO_pass 266 = .ok (.bastore, 1) := by decide +kernel
theorem dMO_pass_267 : decode cMO_pass 267 = .ok (.iinc 6 1, 3) := by decide +kernel
theorem dMO_pass_270 : decode cMO_pass 270 = .ok (.goto (-212), 3) := by decide +kernel
theorem dMO_pass_273 : decode cMO_pass 273 = .ok (.iload_n 2, 1) := by decide +kernel
theorem dMO_pass_274 : decode cMO_pass 274 = .ok (.iconst 1, 1) := by decide +kernel
theorem dMO_pass_275 : decode cMO_pass 275 = .ok (.if_icmp .ne 16, 3) := by decide +kernel
theorem dMO_pass_278 : decode cMO_pass 278 = .ok (.iload 5, 2) := by decide +kernel
theorem dMO_pass_280 : decode cMO_pass 280 = .ok (.ifCond .ne 11, 3) := by decide +kernel
theorem dMO_pass_283 : decode cMO_pass 283 = .ok (.aload_n 0, 1) := by decide +kernel
theorem dMO_pass_284 : decode cMO_pass 284 = .ok (.iload_n 1, 1) := by decide +kernel
theorem dMO_pass_285 : decode cMO_pass 285 = .ok (.iload_n 3, 1) := by decide +kernel
theorem dMO_pass_286 : decode cMO_pass 286 = .ok (.iload 4, 2) := by decide +kernel
theorem dMO_pass_288 : decode cMO_pass 288 = .ok (.invokevirtual 131, 3) := by decide +kernel
theorem dMO_pass_291 : decode cMO_pass 291 = .ok (.iload_n 2, 1) := by decide +kernel
theorem dMO_pass_292 : decode cMO_pass 292 = .ok (.bipush 7, 2) := by decide +kernel
theorem dMO_pass_294 : decode cMO_pass 294 = .ok (.if_icmp .eq 9, 3) := by decide +kernel
theorem dMO_pass_297 : decode cMO_pass 297 = .ok (.iload_n 2, 1) := by decide +kernel
theorem dMO_pass_298 : decode cMO_pass 298 = .ok (.bipush 8, 2) := by decide +kernel
theorem dMO_pass_300 : decode cMO_pass 300 = .ok (.if_icmp .ne 10, 3) := by decide +kernel
theorem dMO_pass_303 : decode cMO_pass 303 = .ok (.aload_n 0, 1) := by decide +kernel
theorem dMO_pass_304 : decode cMO_pass 304 = .ok (.getfield 55, 3) := by decide +kernel
theorem dMO_pass_307 : decode cMO_pass 307 = .ok (.iload_n 3, 1) := by decide +kernel
theorem dMO_pass_308 : decode cMO_pass 308 = .ok (.iconst 1, 1) := by decide +kernel
theorem dMO_pass_309 : decode cMO_pass 309 = .ok (.bastore, 1) := by decide +kernel
theorem dMO_pass_310 : decode cMO_pass 310 = .ok (.iload_n 2, 1) := by decide +kernel
theorem dMO_pass_311 : decode cMO_pass 311 = .ok (.bipush 7, 2) := by decide +kernel
theorem dMO_pass_313 : decode cMO_pass 313 = .ok (.if_icmp .ne 11, 3) := by decide +kernel
theorem dMO_pass_316 : decode cMO_pass 316 = .ok (.aload_n 0, 1) := by decide +kernel
theorem dMO_pass_317 : decode cMO_pass 317 = .ok (.getfield 55, 3) := by decide +kernel
theorem dMO_pass_320 : decode cMO_pass 320 = .ok (.iload 4, 2) := by decide +kernel
theorem dMO_pass_322 : decode cMO_pass 322 = .ok (.iconst 1, 1) := by decide +kernel
theorem dMO_pass_323 : decode cMO_pass 323 = .ok (.bastore, 1) := by decide +kernel
theorem dMO_pass_324 : decode cMO_pass 324 = .ok (.iload_n 2, 1) := by decide +kernel
theorem dMO_pass_325 : decode cMO_pass 325 = .ok (.bipush 9, 2) := by decide +kernel
theorem dMO_pass_327 : decode cMO_pass 327 = .ok (.if_icmp .ne 11, 3) := by decide +kernel
theorem dMO_pass_330 : decode cMO_pass 330 = .ok (.aload_n 0, 1) := by decide +kernel
theorem dMO_pass_331 : decode cMO_pass 331 = .ok (.iload_n 1, 1) := by decide +kernel
theorem dMO_pass_332 : decode cMO_pass 332 = .ok (.iload_n 3, 1) := by decide +kernel
theorem dMO_pass_333 : decode cMO_pass 333 = .ok (.iload 4, 2) := by decide +kernel
theorem dMO_pass_335 : decode cMO_pass 335 = .ok (.invokevirtual 135, 3) := by decide +kernel
theorem dMO_pass_338 : decode cMO_pass 338 = .ok (.iload_n 2, 1) := by decide +kernel
theorem dMO_pass_339 : decode cMO_pass 339 = .ok (.bipush 10, 2) := by decide +kernel
theorem dMO_pass_341 : decode cMO_pass 341 = .ok (.if_icmp .ne 11, 3) := by decide +kernel
theorem dMO_pass_344 : decode cMO_pass 344 = .ok (.aload_n 0, 1) := by decide +kernel
theorem dMO_pass_345 : decode cMO_pass 345 = .ok (.iload_n 1, 1) := by decide +kernel
theorem dMO_pass_346 : decode cMO_pass 346 = .ok (.iload_n 3, 1) := by decide +kernel
theorem dMO_pass_347 : decode cMO_pass 347 = .ok (.iload 4, 2) := by decide +kernel
theorem dMO_pass_349 : decode cMO_pass 349 = .ok (.invokevirtual 138, 3) := by decide +kernel
theorem dMO_pass_352 : decode cMO_pass 352 = .ok (.return_, 1) := by decide +kernel
theorem dMO_meets_0 : decode cMO_meets 0 = .ok (.iconst 0, 1) := by decide +kernel
theorem dMO_meets_1 : decode cMO_meets 1 = .ok (.istore_n 2, 1) := by decide +kernel
theorem dMO_meets_2 : decode cMO_meets 2 = .ok (.iconst 0, 1) := by decide +kernel
theorem dMO_meets_3 : decode cMO_meets 3 = .ok (.istore_n 3, 1) := by decide +kernel
theorem dMO_meets_4 : decode cMO_meets 4 = .ok (.iload_n 3, 1) := by decide +kernel
theorem dMO_meets_5 : decode cMO_meets 5 = .ok (.sipush 256, 3) := by decide +kernel
theorem dMO_meets_8 : decode cMO_meets 8 = .ok (.if_icmp .ge 149, 3) := by decide +kernel
theorem dMO_meets_11 : decode cMO_meets 11 = .ok (.iload_n 2, 1) := by decide +kernel
theorem dMO_meets_12 : decode cMO_meets 12 = .ok (.ifCond .ne 51, 3) := by decide +kernel
theorem dMO_meets_15 : decode cMO_meets 15 = .ok (.aload_n 0, 1) := by decide +kernel
theorem dMO_meets_16 : decode cMO_meets 16 = .ok (.getfield 37, 3) := by decide +kernel
theorem dMO_meets_19 : decode cMO_meets 19 = .ok (.sipush 256, 3) := by decide +kernel
theorem dMO_meets_22 : decode cMO_meets 22 = .ok (.iload_n 1, 1) := by decide +kernel
theorem dMO_meets_23 : decode cMO_meets 23 = .ok (.imul, 1) := by decide +kernel
theorem dMO_meets_24 : decode cMO_meets 24 = .ok (.iload_n 3, 1) := by decide +kernel
theorem dMO_meets_25 : decode cMO_meets 25 = .ok (.iadd, 1) := by decide +kernel
theorem dMO_meets_26 : decode cMO_meets 26 = .ok (.baload, 1) := by decide +kernel
theorem dMO_meets_27 : decode cMO_meets 27 = .ok (.ifCond .eq 12, 3) := by decide +kernel
theorem dMO_meets_30 : decode cMO_meets 30 = .ok (.aload_n 0, 1) := by decide +kernel
theorem dMO_meets_31 : decode cMO_meets 31 = .ok (.getfield 49, 3) := by decide +kernel
theorem dMO_meets_34 : decode cMO_meets 34 = .ok (.iload_n 3, 1) := by decide +kernel
theorem dMO_meets_35 : decode cMO_meets 35 = .ok (.baload, 1) := by decide +kernel
theorem dMO_meets_36 : decode cMO_meets 36 = .ok (.ifCond .eq 27, 3) := by decide +kernel
theorem dMO_meets_39 : decode cMO_meets 39 = .ok (.aload_n 0, 1) := by decide +kernel
theorem dMO_meets_40 : decode cMO_meets 40 = .ok (.getfield 40, 3) := by decide +kernel
theorem dMO_meets_43 : decode cMO_meets 43 = .ok (.sipush 256, 3) := by decide +kernel
theorem dMO_meets_46 : decode cMO_meets 46 = .ok (.iload_n 1, 1) := by decide +kernel
theorem dMO_meets_47 : decode cMO_meets 47 = .ok (.imul, 1) := by decide +kernel
theorem dMO_meets_48 : decode cMO_meets 48 = .ok (.iload_n 3, 1) := by decide +kernel
theorem dMO_meets_49 : decode cMO_meets 49 = .ok (.iadd, 1) := by decide +kernel
theorem dMO_meets_50 : decode cMO_meets 50 = .ok (.baload, 1) := by decide +kernel
theorem dMO_meets_51 : decode cMO_meets 51 = .ok (.ifCond .eq 16, 3) := by decide +kernel
theorem dMO_meets_54 : decode cMO_meets 54 = .ok (.aload_n 0, 1) := by decide +kernel
theorem dMO_meets_55 : decode cMO_meets 55 = .ok (.getfield 52, 3) := by decide +kernel
theorem dMO_meets_58 : decode cMO_meets 58 = .ok (.iload_n 3, 1) := by decide +kernel
theorem dMO_meets_59 : decode cMO_meets 59 = .ok (.baload, 1) := by decide +kernel
theorem dMO_meets_60 : decode cMO_meets 60 = .ok (.ifCond .ne 7, 3) := by decide +kernel
theorem dMO_meets_63 : decode cMO_meets 63 = .ok (.iconst 1, 1) := by decide +kernel
theorem dMO_meets_64 : decode cMO_meets 64 = .ok (.goto 4, 3) := by decide +kernel
theorem dMO_meets_67 : decode cMO_meets 67 = .ok (.iconst 0, 1) := by decide +kernel
theorem dMO_meets_68 : decode cMO_meets 68 = .ok (.istore_n 2, 1) := by decide +kernel
theorem dMO_meets_69 : decode cMO_meets 69 = .ok (.aload_n 0, 1) := by decide +kernel
theorem dMO_meets_70 : decode cMO_meets 70 = .ok (.getfield 37, 3) := by decide +kernel
theorem dMO_meets_73 : decode cMO_meets 73 = .ok (.sipush 256, 3) := by decide +kernel
theorem dMO_meets_76 : decode cMO_meets 76 = .ok (.iload_n 1, 1) := by decide +kernel
theorem dMO_meets_77 : decode cMO_meets 77 = .ok (.imul, 1) := by decide +kernel
theorem dMO_meets_78 : decode cMO_meets 78 = .ok (.iload_n 3, 1) := by decide +kernel
theorem dMO_meets_79 : decode cMO_meets 79 = .ok (.iadd, 1) := by decide +kernel
theorem dMO_meets_80 : decode cMO_meets 80 = .ok (.aload_n 0, 1) := by decide +kernel
theorem dMO_meets_81 : decode cMO_meets 81 = .ok (.getfield 37, 3) := by decide +kernel
theorem dMO_meets_84 : decode cMO_meets 84 = .ok (.sipush 256, 3) := by decide +kernel
theorem dMO_meets_87 : decode cMO_meets 87 = .ok (.iload_n 1, 1) := by decide +kernel
theorem dMO_meets_88 : decode cMO_meets 88 = .ok (.imul, 1) := by decide +kernel
theorem dMO_meets_89 : decode cMO_meets 89 = .ok (.iload_n 3, 1) := by decide +kernel
theorem dMO_meets_90 : decode cMO_meets 90 = .ok (.iadd, 1) := by decide +kernel
theorem dMO_meets_91 : decode cMO_meets 91 = .ok (.baload, 1) := by decide +kernel
theorem dMO_meets_92 : decode cMO_meets 92 = .ok (.ifCond .eq 16, 3) := by decide +kernel
theorem dMO_meets_95 : decode cMO_meets 95 = .ok (.aload_n 0, 1) := by decide +kernel
theorem dMO_meets_96 : decode cMO_meets 96 = .ok (.getfield 49, 3) := by decide +kernel
theorem dMO_meets_99 : decode cMO_meets 99 = .ok (.iload_n 3, 1) := by decide +kernel
theorem dMO_meets_100 : decode cMO_meets 100 = .ok (.baload, 1) := by decide +kernel
theorem dMO_meets_101 : decode cMO_meets 101 = .ok (.ifCond .eq 7, 3) := by decide +kernel
theorem dMO_meets_104 : decode cMO_meets 104 = .ok (.iconst 1, 1) := by decide +kernel
theorem dMO_meets_105 : decode cMO_meets 105 = .ok (.goto 4, 3) := by decide +kernel
theorem dMO_meets_108 : decode cMO_meets 108 = .ok (.iconst 0, 1) := by decide +kernel
theorem dMO_meets_109 : decode cMO_meets 109 = .ok (.bastore, 1) := by decide +kernel
theorem dMO_meets_110 : decode cMO_meets 110 = .ok (.aload_n 0, 1) := by decide +kernel
theorem dMO_meets_111 : decode cMO_meets 111 = .ok (.getfield 40, 3) := by decide +kernel
theorem dMO_meets_114 : decode cMO_meets 114 = .ok (.sipush 256, 3) := by decide +kernel
theorem dMO_meets_117 : decode cMO_meets 117 = .ok (.iload_n 1, 1) := by decide +kernel
theorem dMO_meets_118 : decode cMO_meets 118 = .ok (.imul, 1) := by decide +kernel
theorem dMO_meets_119 : decode cMO_meets 119 = .ok (.iload_n 3, 1) := by decide +kernel
theorem dMO_meets_120 : decode cMO_meets 120 = .ok (.iadd, 1) := by decide +kernel
theorem dMO_meets_121 : decode cMO_meets 121 = .ok (.aload_n 0, 1) := by decide +kernel
theorem dMO_meets_122 : decode cMO_meets 122 = .ok (.getfield 40, 3) := by decide +kernel
theorem dMO_meets_125 : decode cMO_meets 125 = .ok (.sipush 256, 3) := by decide +kernel
theorem dMO_meets_128 : decode cMO_meets 128 = .ok (.iload_n 1, 1) := by decide +kernel
theorem dMO_meets_129 : decode cMO_meets 129 = .ok (.imul, 1) := by decide +kernel
theorem dMO_meets_130 : decode cMO_meets 130 = .ok (.iload_n 3, 1) := by decide +kernel
theorem dMO_meets_131 : decode cMO_meets 131 = .ok (.iadd, 1) := by decide +kernel
theorem dMO_meets_132 : decode cMO_meets 132 = .ok (.baload, 1) := by decide +kernel
theorem dMO_meets_133 : decode cMO_meets 133 = .ok (.ifCond .eq 16, 3) := by decide +kernel
theorem dMO_meets_136 : decode cMO_meets 136 = .ok (.aload_n 0, 1) := by decide +kernel
theorem dMO_meets_137 : decode cMO_meets 137 = .ok (.getfield 52, 3) := by decide +kernel
theorem dMO_meets_140 : decode cMO_meets 140 = .ok (.iload_n 3, 1) := by decide +kernel
theorem dMO_meets_141 : decode cMO_meets 141 = .ok (.baload, 1) := by decide +kernel
theorem dMO_meets_142 : decode cMO_meets 142 = .ok (.ifCond .eq 7, 3) := by decide +kernel
theorem dMO_meets_145 : decode cMO_meets 145 = .ok (.iconst 1, 1) := by decide +kernel
theorem dMO_meets_146 : decode cMO_meets 146 = .ok (.goto 4, 3) := by decide +kernel
theorem dMO_meets_149 : decode cMO_meets 149 = .ok (.iconst 0, 1) := by decide +kernel
theorem dMO_meets_150 : decode cMO_meets 150 = .ok (.bastore, 1) := by decide +kernel
theorem dMO_meets_151 : decode cMO_meets 151 = .ok (.iinc 3 1, 3) := by decide +kernel
theorem dMO_meets_154 : decode cMO_meets 154 = .ok (.goto (-150), 3) := by decide +kernel
theorem dMO_meets_157 : decode cMO_meets 157 = .ok (.iconst 0, 1) := by decide +kernel
theorem dMO_meets_158 : decode cMO_meets 158 = .ok (.istore_n 3, 1) := by decide +kernel
theorem dMO_meets_159 : decode cMO_meets 159 = .ok (.iload_n 3, 1) := by decide +kernel
theorem dMO_meets_160 : decode cMO_meets 160 = .ok (.bipush 16, 2) := by decide +kernel
theorem dMO_meets_162 : decode cMO_meets 162 = .ok (.if_icmp .ge 81, 3) := by decide +kernel
theorem dMO_meets_165 : decode cMO_meets 165 = .ok (.iload_n 2, 1) := by decide +kernel
theorem dMO_meets_166 : decode cMO_meets 166 = .ok (.ifCond .ne 26, 3) := by decide +kernel
theorem dMO_meets_169 : decode cMO_meets 169 = .ok (.aload_n 0, 1) := by decide +kernel
theorem dMO_meets_170 : decode cMO_meets 170 = .ok (.getfield 43, 3) := by decide +kernel
theorem dMO_meets_173 : decode cMO_meets 173 = .ok (.bipush 16, 2) := by decide +kernel
theorem dMO_meets_175 : decode cMO_meets 175 = .ok (.iload_n 1, 1) := by decide +kernel
theorem dMO_meets_176 : decode cMO_meets 176 = .ok (.imul, 1) := by decide +kernel
theorem dMO_meets_177 : decode cMO_meets 177 = .ok (.iload_n 3, 1) := by decide +kernel
theorem dMO_meets_178 : decode cMO_meets 178 = .ok (.iadd, 1) := by decide +kernel
theorem dMO_meets_179 : decode cMO_meets 179 = .ok (.baload, 1) := by decide +kernel
theorem dMO_meets_180 : decode cMO_meets 180 = .ok (.ifCond .eq 16, 3) := by decide +kernel
theorem dMO_meets_183 : decode cMO_meets 183 = .ok (.aload_n 0, 1) := by decide +kernel
theorem dMO_meets_184 : decode cMO_meets 184 = .ok (.getfield 55, 3) := by decide +kernel
theorem dMO_meets_187 : decode cMO_meets 187 = .ok (.iload_n 3, 1) := by decide +kernel
theorem dMO_meets_188 : decode cMO_meets 188 = .ok (.baload, 1) := by decide +kernel
theorem dMO_meets_189 : decode cMO_meets 189 = .ok (.ifCond .ne 7, 3) := by decide +kernel
theorem dMO_meets_192 : decode cMO_meets 192 = .ok (.iconst 1, 1) := by decide +kernel
theorem dMO_meets_193 : decode cMO_meets 193 = .ok (.goto 4, 3) := by decide +kernel
theorem dMO_meets_196 : decode cMO_meets 196 = .ok (.iconst 0, 1) := by decide +kernel
theorem dMO_meets_197 : decode cMO_meets 197 = .ok (.istore_n 2, 1) := by decide +kernel
theorem dMO_meets_198 : decode cMO_meets 198 = .ok (.aload_n 0, 1) := by decide +kernel
theorem dMO_meets_199 : decode cMO_meets 199 = .ok (.getfield 43, 3) := by decide +kernel
theorem dMO_meets_202 : decode cMO_meets 202 = .ok (.bipush 16, 2) := by decide +kernel
theorem dMO_meets_204 : decode cMO_meets 204 = .ok (.iload_n 1, 1) := by decide +kernel
theorem dMO_meets_205 : decode cMO_meets 205 = .ok (.imul, 1) := by decide +kernel
theorem dMO_meets_206 : decode cMO_meets 206 = .ok (.iload_n 3, 1) := by decide +kernel
theorem dMO_meets_207 : decode cMO_meets 207 = .ok (.iadd, 1) := by decide +kernel
theorem dMO_meets_208 : decode cMO_meets 208 = .ok (.aload_n 0, 1) := by decide +kernel
theorem dMO_meets_209 : decode cMO_meets 209 = .ok (.getfield 43, 3) := by decide +kernel
theorem dMO_meets_212 : decode cMO_meets 212 = .ok (.bipush 16, 2) := by decide +kernel
theorem dMO_meets_214 : decode cMO_meets 214 = .ok (.iload_n 1, 1) := by decide +kernel
theorem dMO_meets_215 : decode cMO_meets 215 = .ok (.imul, 1) := by decide +kernel
theorem dMO_meets_216 : decode cMO_meets 216 = .ok (.iload_n 3, 1) := by decide +kernel
theorem dMO_meets_217 : decode cMO_meets 217 = .ok (.iadd, 1) := by decide +kernel
theorem dMO_meets_218 : decode cMO_meets 218 = .ok (.baload, 1) := by decide +kernel
theorem dMO_meets_219 : decode cMO_meets 219 = .ok (.ifCond .eq 16, 3) := by decide +kernel
theorem dMO_meets_222 : decode cMO_meets 222 = .ok (.aload_n 0, 1) := by decide +kernel
theorem dMO_meets_223 : decode cMO_meets 223 = .ok (.getfield 55, 3) := by decide +kernel
theorem dMO_meets_226 : decode cMO_meets 226 = .ok (.iload_n 3, 1) := by decide +kernel
theorem dMO_meets_227 : decode cMO_meets 227 = .ok (.baload, 1) := by decide +kernel
theorem dMO_meets_228 : decode cMO_meets 228 = .ok (.ifCond .eq 7, 3) := by decide +kernel
theorem dMO_meets_231 : decode cMO_meets 231 = .ok (.iconst 1, 1) := by decide +kernel
theorem dMO_meets_232 : decode cMO_meets 232 = .ok (.goto 4, 3) := by decide +kernel
theorem dMO_meets_235 : decode cMO_meets 235 = .ok (.iconst 0, 1) := by decide +kernel
theorem dMO_meets_236 : decode cMO_meets 236 = .ok (.bastore, 1) := by decide +kernel
theorem dMO_meets_237 : decode cMO_meets 237 = .ok (.iinc 3 1, 3) := by decide +kernel
theorem dMO_meets_240 : decode cMO_meets 240 = .ok (.goto (-81), 3) := by decide +kernel
theorem dMO_meets_243 : decode cMO_meets 243 = .ok (.iload_n 2, 1) := by decide +kernel
theorem dMO_meets_244 : decode cMO_meets 244 = .ok (.ireturn, 1) := by decide +kernel
theorem dMO_findFacts_0 : decode cMO_findFacts 0 = .ok (.iconst 0, 1) := by decide +kernel
theorem dMO_findFacts_1 : decode cMO_findFacts 1 = .ok (.istore_n 1, 1) := by decide +kernel
theorem dMO_findFacts_2 : decode cMO_findFacts 2 = .ok (.iload_n 1, 1) := by decide +kernel
theorem dMO_findFacts_3 : decode cMO_findFacts 3 = .ok (.aload_n 0, 1) := by decide +kernel
theorem dMO_findFacts_4 : decode cMO_findFacts 4 = .ok (.getfield 94, 3) := by decide +kernel
theorem dMO_findFacts_7 : decode cMO_findFacts 7 = .ok (.if_icmp .gt 137, 3) := by decide +kernel
theorem dMO_findFacts_10 : decode cMO_findFacts 10 = .ok (.iconst 0, 1) := by decide +kernel
theorem dMO_findFacts_11 : decode cMO_findFacts 11 = .ok (.istore_n 2, 1) := by decide +kernel
theorem dMO_findFacts_12 : decode cMO_findFacts 12 = .ok (.iload_n 2, 1) := by decide +kernel
theorem dMO_findFacts_13 : decode cMO_findFacts 13 = .ok (.bipush 16, 2) := by decide +kernel
theorem dMO_findFacts_15 : decode cMO_findFacts 15 = .ok (.if_icmp .ge 123, 3) := by decide +kernel
theorem dMO_findFacts_18 : decode cMO_findFacts 18 = .ok (.iconst 0, 1) := by decide +kernel
theorem dMO_findFacts_19 : decode cMO_findFacts 19 = .ok (.istore_n 3, 1) := by decide +kernel
theorem dMO_findFacts_20 : decode cMO_findFacts 20 = .ok (.iload_n 3, 1) := by decide +kernel
theorem dMO_findFacts_21 : decode cMO_findFacts 21 = .ok (.bipush 16, 2) := by decide +kernel
theorem dMO_findFacts_23 : decode cMO_findFacts 23 = .ok (.if_icmp .ge 80, 3) := by decide +kernel
theorem dMO_findFacts_26 : decode cMO_findFacts 26 = .ok (.aload_n 0, 1) := by decide +kernel
theorem dMO_findFacts_27 : decode cMO_findFacts 27 = .ok (.getfield 37, 3) := by decide +kernel
theorem dMO_findFacts_30 : decode cMO_findFacts 30 = .ok (.sipush 256, 3) := by decide +kernel
theorem dMO_findFacts_33 : decode cMO_findFacts 33 = .ok (.iload_n 1, 1) := by decide +kernel
theorem dMO_findFacts_34 : decode cMO_findFacts 34 = .ok (.imul, 1) := by decide +kernel
theorem dMO_findFacts_35 : decode cMO_findFacts 35 = .ok (.bipush 16, 2) := by decide +kernel
theorem dMO_findFacts_37 : decode cMO_findFacts 37 = .ok (.iload_n 2, 1) := by decide +kernel
theorem dMO_findFacts_38 : decode cMO_findFacts 38 = .ok (.imul, 1) := by decide +kernel
theorem dMO_findFacts_39 : decode cMO_findFacts 39 = .ok (.iadd, 1) := by decide +kernel
theorem dMO_findFacts_40 : decode cMO_findFacts 40 = .ok (.iload_n 3, 1) := by decide +kernel
theorem dMO_findFacts_41 : decode cMO_findFacts 41 = .ok (.iadd, 1) := by decide +kernel
theorem dMO_findFacts_42 : decode cMO_findFacts 42 = .ok (.aload_n 0, 1) := by decide +kernel
theorem dMO_findFacts_43 : decode cMO_findFacts 43 = .ok (.getfield 33, 3) := by decide +kernel
theorem dMO_findFacts_46 : decode cMO_findFacts 46 = .ok (.iload_n 1, 1) := by decide +kernel
theorem dMO_findFacts_47 : decode cMO_findFacts 47 = .ok (.baload, 1) := by decide +kernel
theorem dMO_findFacts_48 : decode cMO_findFacts 48 = .ok (.ifCond .eq 12, 3) := by decide +kernel
theorem dMO_findFacts_51 : decode cMO_findFacts 51 = .ok (.iload_n 2, 1) := by decide +kernel
theorem dMO_findFacts_52 : decode cMO_findFacts 52 = .ok (.iload_n 3, 1) := by decide +kernel
theorem dMO_findFacts_53 : decode cMO_findFacts 53 = .ok (.if_icmp .eq 7, 3) := by decide +kernel
theorem dMO_findFacts_56 : decode cMO_findFacts 56 = .ok (.iconst 1, 1) := by decide +kernel
theorem dMO_findFacts_57 : decode cMO_findFacts 57 = .ok (.goto 4, 3) := by decide +kernel
theorem dMO_findFacts_60 : decode cMO_findFacts 60 = .ok (.iconst 0, 1) := by decide +kernel
theorem dMO_findFacts_61 : decode cMO_findFacts 61 = .ok (.bastore, 1) := by decide +kernel
theorem dMO_findFacts_62 : decode cMO_findFacts 62 = .ok (.aload_n 0, 1) := by decide +kernel
theorem dMO_findFacts_63 : decode cMO_findFacts 63 = .ok (.getfield 40, 3) := by decide +kernel
theorem dMO_findFacts_66 : decode cMO_findFacts 66 = .ok (.sipush 256, 3) := by decide +kernel
theorem dMO_findFacts_69 : decode cMO_findFacts 69 = .ok (.iload_n 1, 1) := by decide +kernel
theorem dMO_findFacts_70 : decode cMO_findFacts 70 = .ok (.imul, 1) := by decide +kernel
theorem dMO_findFacts_71 : decode cMO_findFacts 71 = .ok (.bipush 16, 2) := by decide +kernel
theorem dMO_findFacts_73 : decode cMO_findFacts 73 = .ok (.iload_n 2, 1) := by decide +kernel
theorem dMO_findFacts_74 : decode cMO_findFacts 74 = .ok (.imul, 1) := by decide +kernel
theorem dMO_findFacts_75 : decode cMO_findFacts 75 = .ok (.iadd, 1) := by decide +kernel
theorem dMO_findFacts_76 : decode cMO_findFacts 76 = .ok (.iload_n 3, 1) := by decide +kernel
theorem dMO_findFacts_77 : decode cMO_findFacts 77 = .ok (.iadd, 1) := by decide +kernel
theorem dMO_findFacts_78 : decode cMO_findFacts 78 = .ok (.aload_n 0, 1) := by decide +kernel
theorem dMO_findFacts_79 : decode cMO_findFacts 79 = .ok (.getfield 33, 3) := by decide +kernel
theorem dMO_findFacts_82 : decode cMO_findFacts 82 = .ok (.iload_n 1, 1) := by decide +kernel
theorem dMO_findFacts_83 : decode cMO_findFacts 83 = .ok (.baload, 1) := by decide +kernel
theorem dMO_findFacts_84 : decode cMO_findFacts 84 = .ok (.ifCond .eq 11, 3) := by decide +kernel
theorem dMO_findFacts_87 : decode cMO_findFacts 87 = .ok (.iload_n 1, 1) := by decide +kernel
theorem dMO_findFacts_88 : decode cMO_findFacts 88 = .ok (.ifCond .le 7, 3) := by decide +kernel
theorem dMO_findFacts_91 : decode cMO_findFacts 91 = .ok (.iconst 1, 1) := by decide +kernel
theorem dMO_findFacts_92 : decode cMO_findFacts 92 = .ok (.goto 4, 3) := by decide +kernel
theorem dMO_findFacts_95 : decode cMO_findFacts 95 = .ok (.iconst 0, 1) := by decide +kernel
theorem dMO_findFacts_96 : decode cMO_findFacts 96 = .ok (.bastore, 1) := by decide +kernel
theorem dMO_findFacts_97 : decode cMO_findFacts 97 = .ok (.iinc 3 1, 3) := by decide +kernel
theorem dMO_findFacts_100 : decode cMO_findFacts 100 = .ok (.goto (-80), 3) := by decide +kernel
theorem dMO_findFacts_103 : decode cMO_findFacts 103 = .ok (.aload_n 0, 1) := by decide +kernel
theorem dMO_findFacts_104 : decode cMO_findFacts 104 = .ok (.getfield 43, 3) := by decide +kernel
theorem dMO_findFacts_107 : decode cMO_findFacts 107 = .ok (.bipush 16, 2) := by decide +kernel
theorem dMO_findFacts_109 : decode cMO_findFacts 109 = .ok (.iload_n 1, 1) := by decide +kernel
theorem dMO_findFacts_110 : decode cMO_findFacts 110 = .ok (.imul, 1) := by decide +kernel
theorem dMO_findFacts_111 : decode cMO_findFacts 111 = .ok (.iload_n 2, 1) := by decide +kernel
theorem dMO_findFacts_112 : decode cMO_findFacts 112 = .ok (.iadd, 1) := by decide +kernel
theorem dMO_findFacts_113 : decode cMO_findFacts 113 = .ok (.aload_n 0, 1) := by decide +kernel
theorem dMO_findFacts_114 : decode cMO_findFacts 114 = .ok (.getfield 33, 3) := by decide +kernel
theorem dMO_findFacts_117 : decode cMO_findFacts 117 = .ok (.iload_n 1, 1) := by decide +kernel
theorem dMO_findFacts_118 : decode cMO_findFacts 118 = .ok (.baload, 1) := by decide +kernel
theorem dMO_findFacts_119 : decode cMO_findFacts 119 = .ok (.ifCond .eq 11, 3) := by decide +kernel
theorem dMO_findFacts_122 : decode cMO_findFacts 122 = .ok (.iload_n 1, 1) := by decide +kernel
theorem dMO_findFacts_123 : decode cMO_findFacts 123 = .ok (.ifCond .le 7, 3) := by decide +kernel
theorem dMO_findFacts_126 : decode cMO_findFacts 126 = .ok (.iconst 1, 1) := by decide +kernel
theorem dMO_findFacts_127 : decode cMO_findFacts 127 = .ok (.goto 4, 3) := by decide +kernel
theorem dMO_findFacts_130 : decode cMO_findFacts 130 = .ok (.iconst 0, 1) := by decide +kernel
theorem dMO_findFacts_131 : decode cMO_findFacts 131 = .ok (.bastore, 1) := by decide +kernel
theorem dMO_findFacts_132 : decode cMO_findFacts 132 = .ok (.iinc 2 1, 3) := by decide +kernel
theorem dMO_findFacts_135 : decode cMO_findFacts 135 = .ok (.goto (-123), 3) := by decide +kernel
theorem dMO_findFacts_138 : decode cMO_findFacts 138 = .ok (.iinc 1 1, 3) := by decide +kernel
theorem dMO_findFacts_141 : decode cMO_findFacts 141 = .ok (.goto (-139), 3) := by decide +kernel
theorem dMO_findFacts_144 : decode cMO_findFacts 144 = .ok (.iconst 1, 1) := by decide +kernel
theorem dMO_findFacts_145 : decode cMO_findFacts 145 = .ok (.istore_n 1, 1) := by decide +kernel
theorem dMO_findFacts_146 : decode cMO_findFacts 146 = .ok (.iload_n 1, 1) := by decide +kernel
theorem dMO_findFacts_147 : decode cMO_findFacts 147 = .ok (.ifCond .eq 87, 3) := by decide +kernel
theorem dMO_findFacts_150 : decode cMO_findFacts 150 = .ok (.iconst 0, 1) := by decide +kernel
theorem dMO_findFacts_151 : decode cMO_findFacts 151 = .ok (.istore_n 1, 1) := by decide +kernel
theorem dMO_findFacts_152 : decode cMO_findFacts 152 = .ok (.iconst 0, 1) := by decide +kernel
theorem dMO_findFacts_153 : decode cMO_findFacts 153 = .ok (.istore_n 2, 1) := by decide +kernel
theorem dMO_findFacts_154 : decode cMO_findFacts 154 = .ok (.iload_n 2, 1) := by decide +kernel
theorem dMO_findFacts_155 : decode cMO_findFacts 155 = .ok (.aload_n 0, 1) := by decide +kernel
theorem dMO_findFacts_156 : decode cMO_findFacts 156 = .ok (.getfield 94, 3) := by decide +kernel
theorem dMO_findFacts_159 : decode cMO_findFacts 159 = .ok (.if_icmp .ge 72, 3) := by decide +kernel
theorem dMO_findFacts_162 : decode cMO_findFacts 162 = .ok (.aload_n 0, 1) := by decide +kernel
theorem dMO_findFacts_163 : decode cMO_findFacts 163 = .ok (.getfield 33, 3) := by decide +kernel
theorem dMO_findFacts_166 : decode cMO_findFacts 166 = .ok (.iload_n 2, 1) := by decide +kernel
theorem dMO_findFacts_167 : decode cMO_findFacts 167 = .ok (.baload, 1) := by decide +kernel
theorem dMO_findFacts_168 : decode cMO_findFacts 168 = .ok (.ifCond .ne 6, 3) := by decide +kernel
theorem dMO_findFacts_171 : decode cMO_findFacts 171 = .ok (.goto 54, 3) := by decide +kernel
theorem dMO_findFacts_174 : decode cMO_findFacts 174 = .ok (.aload_n 0, 1) := by decide +kernel
theorem dMO_findFacts_175 : decode cMO_findFacts 175 = .ok (.iload_n 2, 1) := by decide +kernel
theorem dMO_findFacts_176 : decode cMO_findFacts 176 = .ok (.invokevirtual 145, 3) := by decide +kernel
theorem dMO_findFacts_179 : decode cMO_findFacts 179 = .ok (.iconst 0, 1) := by decide +kernel
theorem dMO_findFacts_180 : decode cMO_findFacts 180 = .ok (.istore_n 3, 1) := by decide +kernel
theorem dMO_findFacts_181 : decode cMO_findFacts 181 = .ok (.iload_n 3, 1) := by decide +kernel
theorem dMO_findFacts_182 : decode cMO_findFacts 182 = .ok (.iconst 2, 1) := by decide +kernel
theorem dMO_findFacts_183 : decode cMO_findFacts 183 = .ok (.if_icmp .ge 42, 3) := by decide +kernel
theorem dMO_findFacts_186 : decode cMO_findFacts 186 = .ok (.aload_n 0, 1) := by decide +kernel
theorem dMO_findFacts_187 : decode cMO_findFacts 187 = .ok (.iload_n 2, 1) := by decide +kernel
theorem dMO_findFacts_188 : decode cMO_findFacts 188 = .ok (.iload_n 3, 1) := by decide +kernel
theorem dMO_findFacts_189 : decode cMO_findFacts 189 = .ok (.invokevirtual 114, 3) := by decide +kernel
theorem dMO_findFacts_192 : decode cMO_findFacts 192 = .ok (.iconst (-1), 1) := by decide +kernel
theorem dMO_findFacts_193 : decode cMO_findFacts 193 = .ok (.if_icmp .eq 26, 3) := by decide +kernel
theorem dMO_findFacts_196 : decode cMO_findFacts 196 = .ok (.aload_n 0, 1) := by decide +kernel
theorem dMO_findFacts_197 : decode cMO_findFacts 197 = .ok (.aload_n 0, 1) := by decide +kernel
theorem dMO_findFacts_198 : decode cMO_findFacts 198 = .ok (.iload_n 2, 1) := by decide +kernel
theorem dMO_findFacts_199 : decode cMO_findFacts 199 = .ok (.iload_n 3, 1) := by decide +kernel
theorem dMO_findFacts_200 : decode cMO_findFacts 200 = .ok (.invokevirtual 114, 3) := by decide +kernel
theorem dMO_findFacts_203 : decode cMO_findFacts 203 = .ok (.invokevirtual 149, 3) := by decide +kernel
theorem dMO_findFacts_206 : decode cMO_findFacts 206 = .ok (.ifCond .ne 7, 3) := by decide +kernel
theorem dMO_findFacts_209 : decode cMO_findFacts 209 = .ok (.iload_n 1, 1) := by decide +kernel
theorem dMO_findFacts_210 : decode cMO_findFacts 210 = .ok (.ifCond .eq 7, 3) := by decide +kernel
theorem dMO_findFacts_213 : decode cMO_findFacts 213 = .ok (.iconst 1, 1) := by decide +kernel
theorem dMO_findFacts_214 : decode cMO_findFacts 214 = .ok (.goto 4, 3) := by decide +kernel
theorem dMO_findFacts_217 : decode cMO_findFacts 217 = .ok (.iconst 0, 1) := by decide +kernel
theorem dMO_findFacts_218 : decode cMO_findFacts 218 = .ok (.istore_n 1, 1) := by decide +kernel
theorem dMO_findFacts_219 : decode cMO_findFacts 219 = .ok (.iinc 3 1, 3) := by decide +kernel
theorem dMO_findFacts_222 : decode cMO_findFacts 222 = .ok (.goto (-41), 3) := by decide +kernel
theorem dMO_findFacts_225 : decode cMO_findFacts 225 = .ok (.iinc 2 1, 3) := by decide +kernel
theorem dMO_findFacts_228 : decode cMO_findFacts 228 = .ok (.goto (-74), 3) := by decide +kernel
theorem dMO_findFacts_231 : decode cMO_findFacts 231 = .ok (.goto (-85), 3) := by decide +kernel
theorem dMO_findFacts_234 : decode cMO_findFacts 234 = .ok (.return_, 1) := by decide +kernel
