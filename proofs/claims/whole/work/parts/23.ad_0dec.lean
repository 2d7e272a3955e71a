theorem dAD_has_0 : decode cAD_has 0 = .ok (.aload_n 0, 1) := by decide +kernel
theorem dAD_has_1 : decode cAD_has 1 = .ok (.iload_n 1, 1) := by decide +kernel
theorem dAD_has_2 : decode cAD_has 2 = .ok (.iconst 4, 1) := by decide +kernel
theorem dAD_has_3 : decode cAD_has 3 = .ok (.imul, 1) := by decide +kernel
theorem dAD_has_4 : decode cAD_has 4 = .ok (.iload_n 2, 1) := by decide +kernel
theorem dAD_has_5 : decode cAD_has 5 = .ok (.bipush 6, 2) := by decide +kernel
theorem dAD_has_7 : decode cAD_has 7 = .ok (.ishr, 1) := by decide +kernel
theorem dAD_has_8 : decode cAD_has 8 = .ok (.iadd, 1) := by decide +kernel
theorem dAD_has_9 : decode cAD_has 9 = .ok (.laload, 1) := by decide +kernel
theorem dAD_has_10 : decode cAD_has 10 = .ok (.iload_n 2, 1) := by decide +kernel
theorem dAD_has_11 : decode cAD_has 11 = .ok (.bipush 63, 2) := by decide +kernel
theorem dAD_has_13 : decode cAD_has 13 = .ok (.iand, 1) := by decide +kernel
theorem dAD_has_14 : decode cAD_has 14 = .ok (.lushr, 1) := by decide +kernel
theorem dAD_has_15 : decode cAD_has 15 = .ok (.lconst 1, 1) := by decide +kernel
theorem dAD_has_16 : decode cAD_has 16 = .ok (.land, 1) := by decide +kernel
theorem dAD_has_17 : decode cAD_has 17 = .ok (.lconst 0, 1) := by decide +kernel
theorem dAD_has_18 : decode cAD_has 18 = .ok (.lcmp, 1) := by decide +kernel
theorem dAD_has_19 : decode cAD_has 19 = .ok (.ifCond .eq 7, 3) := by decide +kernel
theorem dAD_has_22 : decode cAD_has 22 = .ok (.iconst 1, 1) := by decide +kernel
theorem dAD_has_23 : decode cAD_has 23 = .ok (.goto 4, 3) := by decide +kernel
theorem dAD_has_26 : decode cAD_has 26 = .ok (.iconst 0, 1) := by decide +kernel
theorem dAD_has_27 : decode cAD_has 27 = .ok (.ireturn, 1) := by decide +kernel
theorem dAD_join_0 : decode cAD_join 0 = .ok (.iconst 0, 1) := by decide +kernel
theorem dAD_join_1 : decode cAD_join 1 = .ok (.istore 4, 2) := by decide +kernel
theorem dAD_join_3 : decode cAD_join 3 = .ok (.iconst 0, 1) := by decide +kernel
theorem dAD_join_4 : decode cAD_join 4 = .ok (.istore 5, 2) := by decide +kernel
theorem dAD_join_6 : decode cAD_join 6 = .ok (.iload 5, 2) := by decide +kernel
theorem dAD_join_8 : decode cAD_join 8 = .ok (.iconst 4, 1) := by decide +kernel
theorem dAD_join_9 : decode cAD_join 9 = .ok (.if_icmp .ge 53, 3) := by decide +kernel
theorem dAD_join_12 : decode cAD_join 12 = .ok (.aload_n 0, 1) := by decide +kernel
theorem dAD_join_13 : decode cAD_join 13 = .ok (.iload_n 1, 1) := by decide +kernel
theorem dAD_join_14 : decode cAD_join 14 = .ok (.iconst 4, 1) := by decide +kernel
theorem dAD_join_15 : decode cAD_join 15 = .ok (.imul, 1) := by decide +kernel
theorem dAD_join_16 : decode cAD_join 16 = .ok (.iload 5, 2) := by decide +kernel
theorem dAD_join_18 : decode cAD_join 18 = .ok (.iadd, 1) := by decide +kernel
theorem dAD_join_19 : decode cAD_join 19 = .ok (.laload, 1) := by decide +kernel
theorem dAD_join_20 : decode cAD_join 20 = .ok (.lstore 6, 2) := by decide +kernel
theorem dAD_join_22 : decode cAD_join 22 = .ok (.lload 6, 2) := by decide +kernel
theorem dAD_join_24 : decode cAD_join 24 = .ok (.aload_n 2, 1) := by decide +kernel
theorem dAD_join_25 : decode cAD_join 25 = .ok (.iload_n 3, 1) := by decide +kernel
theorem dAD_join_26 : decode cAD_join 26 = .ok (.iconst 4, 1) := by decide +kernel
theorem dAD_join_27 : decode cAD_join 27 = .ok (.imul, 1) := by decide +kernel
theorem dAD_join_28 : decode cAD_join 28 = .ok (.iload 5, 2) := by decide +kernel
theorem dAD_join_30 : decode cAD_join 30 = .ok (.iadd, 1) := by decide +kernel
theorem dAD_join_31 : decode cAD_join 31 = .ok (.laload, 1) := by decide +kernel
theorem dAD_join_32 : decode cAD_join 32 = .ok (.lor, 1) := by decide +kernel
theorem dAD_join_33 : decode cAD_join 33 = .ok (.lstore 8, 2) := by decide +kernel
theorem dAD_join_35 : decode cAD_join 35 = .ok (.lload 8, 2) := by decide +kernel
theorem dAD_join_37 : decode cAD_join 37 = .ok (.lload 6, 2) := by decide +kernel
theorem dAD_join_39 : decode cAD_join 39 = .ok (.lcmp, 1) := by decide +kernel
theorem dAD_join_40 : decode cAD_join 40 = .ok (.ifCond .eq 16, 3) := by decide +kernel
theorem dAD_join_43 : decode cAD_join 43 = .ok (.aload_n 0, 1) := by decide +kernel
theorem dAD_join_44 : decode cAD_join 44 = .ok (.iload_n 1, 1) := by decide +kernel
theorem dAD_join_45 : decode cAD_join 45 = .ok (.iconst 4, 1) := by decide +kernel
theorem dAD_join_46 : decode cAD_join 46 = .ok (.imul, 1) := by decide +kernel
theorem dAD_join_47 : decode cAD_join 47 = .ok (.iload 5, 2) := by decide +kernel
theorem dAD_join_49 : decode cAD_join 49 = .ok (.iadd, 1) := by decide +kernel
theorem dAD_join_50 : decode cAD_join 50 = .ok (.lload 8, 2) := by decide +kernel
theorem dAD_join_52 : decode cAD_join 52 = .ok (.lastore, 1) := by decide +kernel
theorem dAD_join_53 : decode cAD_join 53 = .ok (.iconst 1, 1) := by decide +kernel
theorem dAD_join_54 : decode cAD_join 54 = .ok (.istore 4, 2) := by decide +kernel
theorem dAD_join_56 : decode cAD_join 56 = .ok (.iinc 5 1, 3) := by decide +kernel
theorem dAD_join_59 : decode cAD_join 59 = .ok (.goto (-53), 3) := by decide +kernel
theorem dAD_join_62 : decode cAD_join 62 = .ok (.iload 4, 2) := by decide +kernel
theorem dAD_join_64 : decode cAD_join 64 = .ok (.ireturn, 1) := by decide +kernel
theorem dAD_enter_0 : decode cAD_enter 0 = .ok (.aload_n 0, 1) := by decide +kernel
theorem dAD_enter_1 : decode cAD_enter 1 = .ok (.getfield 11, 3) := by decide +kernel
theorem dAD_enter_4 : decode cAD_enter 4 = .ok (.iload_n 1, 1) := by decide +kernel
theorem dAD_enter_5 : decode cAD_enter 5 = .ok (.iload_n 2, 1) := by decide +kernel
theorem dAD_enter_6 : decode cAD_enter 6 = .ok (.invokestatic 58, 3) := by decide +kernel
theorem dAD_enter_9 : decode cAD_enter 9 = .ok (.ifCond .eq 5, 3) := by decide +kernel
theorem dAD_enter_12 : decode cAD_enter 12 = .ok (.iconst 0, 1) := by decide +kernel
theorem dAD_enter_13 : decode cAD_enter 13 = .ok (.ireturn, 1) := by decide +kernel
theorem dAD_enter_14 : decode cAD_enter 14 = .ok (.aload_n 0, 1) := by decide +kernel
theorem dAD_enter_15 : decode cAD_enter 15 = .ok (.getfield 11, 3) := by decide +kernel
theorem dAD_enter_18 : decode cAD_enter 18 = .ok (.iload_n 1, 1) := by decide +kernel
theorem dAD_enter_19 : decode cAD_enter 19 = .ok (.iconst 4, 1) := by decide +kernel
theorem dAD_enter_20 : decode cAD_enter 20 = .ok (.imul, 1) := by decide +kernel
theorem dAD_enter_21 : decode cAD_enter 21 = .ok (.iload_n 2, 1) := by decide +kernel
theorem dAD_enter_22 : decode cAD_enter 22 = .ok (.bipush 6, 2) := by decide +kernel
theorem dAD_enter_24 : decode cAD_enter 24 = .ok (.ishr, 1) := by decide +kernel
theorem dAD_enter_25 : decode cAD_enter 25 = .ok (.iadd, 1) := by decide +kernel
theorem dAD_enter_26 : decode cAD_enter 26 = .ok (.dup2, 1) := by decide +kernel
theorem dAD_enter_27 : decode cAD_enter 27 = .ok (.laload, 1) := by decide +kernel
theorem dAD_enter_28 : decode cAD_enter 28 = .ok (.lconst 1, 1) := by decide +kernel
theorem dAD_enter_29 : decode cAD_enter 29 = .ok (.iload_n 2, 1) := by decide +kernel
theorem dAD_enter_30 : decode cAD_enter 30 = .ok (.bipush 63, 2) := by decide +kernel
theorem dAD_enter_32 : decode cAD_enter 32 = .ok (.iand, 1) := by decide +kernel
theorem dAD_enter_33 : decode cAD_enter 33 = .ok (.lshl, 1) := by decide +kernel
theorem dAD_enter_34 : decode cAD_enter 34 = .ok (.lor, 1) := by decide +kernel
theorem dAD_enter_35 : decode cAD_enter 35 = .ok (.lastore, 1) := by decide +kernel
theorem dAD_enter_36 : decode cAD_enter 36 = .ok (.iconst 1, 1) := by decide +kernel
theorem dAD_enter_37 : decode cAD_enter 37 = .ok (.ireturn, 1) := by decide +kernel
theorem dAD_followLoad_0 : decode cAD_followLoad 0 = .ok (.iconst 0, 1) := by decide +kernel
theorem dAD_followLoad_1 : decode cAD_followLoad 1 = .ok (.istore_n 3, 1) := by decide +kernel
theorem dAD_followLoad_2 : decode cAD_followLoad 2 = .ok (.iconst 0, 1) := by decide +kernel
theorem dAD_followLoad_3 : decode cAD_followLoad 3 = .ok (.istore 4, 2) := by decide +kernel
theorem dAD_followLoad_5 : decode cAD_followLoad 5 = .ok (.iload 4, 2) := by decide +kernel
theorem dAD_followLoad_7 : decode cAD_followLoad 7 = .ok (.aload_n 0, 1) := by decide +kernel
theorem dAD_followLoad_8 : decode cAD_followLoad 8 = .ok (.getfield 22, 3) := by decide +kernel
theorem dAD_followLoad_11 : decode cAD_followLoad 11 = .ok (.if_icmp .ge 51, 3) := by decide +kernel
theorem dAD_followLoad_14 : decode cAD_followLoad 14 = .ok (.aload_n 0, 1) := by decide +kernel
theorem dAD_followLoad_15 : decode cAD_followLoad 15 = .ok (.getfield 11, 3) := by decide +kernel
theorem dAD_followLoad_18 : decode cAD_followLoad 18 = .ok (.iload_n 2, 1) := by decide +kernel
theorem dAD_followLoad_19 : decode cAD_followLoad 19 = .ok (.aload_n 0, 1) := by decide +kernel
theorem dAD_followLoad_20 : decode cAD_followLoad 20 = .ok (.getfield 18, 3) := by decide +kernel
theorem dAD_followLoad_23 : decode cAD_followLoad 23 = .ok (.iload 4, 2) := by decide +kernel
theorem dAD_followLoad_25 : decode cAD_followLoad 25 = .ok (.iaload, 1) := by decide +kernel
theorem dAD_followLoad_26 : decode cAD_followLoad 26 = .ok (.invokestatic 58, 3) := by decide +kernel
theorem dAD_followLoad_29 : decode cAD_followLoad 29 = .ok (.ifCond .eq 27, 3) := by decide +kernel
theorem dAD_followLoad_32 : decode cAD_followLoad 32 = .ok (.aload_n 0, 1) := by decide +kernel
theorem dAD_followLoad_33 : decode cAD_followLoad 33 = .ok (.getfield 11, 3) := by decide +kernel
theorem dAD_followLoad_36 : decode cAD_followLoad 36 = .ok (.iload_n 1, 1) := by decide +kernel
theorem dAD_followLoad_37 : decode cAD_followLoad 37 = .ok (.aload_n 0, 1) := by decide +kernel
theorem dAD_followLoad_38 : decode cAD_followLoad 38 = .ok (.getfield 15, 3) := by decide +kernel
theorem dAD_followLoad_41 : decode cAD_followLoad 41 = .ok (.aload_n 0, 1) := by decide +kernel
theorem dAD_followLoad_42 : decode cAD_followLoad 42 = .ok (.getfield 18, 3) := by decide +kernel
theorem dAD_followLoad_45 : decode cAD_followLoad 45 = .ok (.iload 4, 2) := by decide +kernel
theorem dAD_followLoad_47 : decode cAD_followLoad 47 = .ok (.iaload, 1) := by decide +kernel
theorem dAD_followLoad_48 : decode cAD_followLoad 48 = .ok (.invokestatic 75, 3) := by decide +kernel
theorem dAD_followLoad_51 : decode cAD_followLoad 51 = .ok (.ifCond .eq 5, 3) := by decide +kernel
theorem dAD_followLoad_54 : decode cAD_followLoad 54 = .ok (.iconst 1, 1) := by decide +kernel
theorem dAD_followLoad_55 : decode cAD_followLoad 55 = .ok (.istore_n 3, 1) := by decide +kernel
theorem dAD_followLoad_56 : decode cAD_followLoad 56 = .ok (.iinc 4 1, 3) := by decide +kernel
theorem dAD_followLoad_59 : decode cAD_followLoad 59 = .ok (.goto (-54), 3) := by decide +kernel
theorem dAD_followLoad_62 : decode cAD_followLoad 62 = .ok (.iload_n 3, 1) := by decide +kernel
theorem dAD_followLoad_63 : decode cAD_followLoad 63 = .ok (.ireturn, 1) := by decide +kernel
theorem dAD_followStore_0 : decode cAD_followStore 0 = .ok (.iconst 0, 1) := by decide +kernel
theorem dAD_followStore_1 : decode cAD_followStore 1 = .ok (.istore_n 3, 1) := by decide +kernel
theorem dAD_followStore_2 : decode cAD_followStore 2 = .ok (.iconst 0, 1) := by decide +kernel
theorem dAD_followStore_3 : decode cAD_followStore 3 = .ok (.istore 4, 2) := by decide +kernel
theorem dAD_followStore_5 : decode cAD_followStore 5 = .ok (.iload 4, 2) := by decide +kernel
theorem dAD_followStore_7 : decode cAD_followStore 7 = .ok (.aload_n 0, 1) := by decide +kernel
theorem dAD_followStore_8 : decode cAD_followStore 8 = .ok (.getfield 22, 3) := by decide +kernel
theorem dAD_followStore_11 : decode cAD_followStore 11 = .ok (.if_icmp .ge 51, 3) := by decide +kernel
theorem dAD_followStore_14 : decode cAD_followStore 14 = .ok (.aload_n 0, 1) := by decide +kernel
theorem dAD_followStore_15 : decode cAD_followStore 15 = .ok (.getfield 11, 3) := by decide +kernel
theorem dAD_followStore_18 : decode cAD_followStore 18 = .ok (.iload_n 1, 1) := by decide +kernel
theorem dAD_followStore_19 : decode cAD_followStore 19 = .ok (.aload_n 0, 1) := by decide +kernel
theorem dAD_followStore_20 : decode cAD_followStore 20 = .ok (.getfield 18, 3) := by decide +kernel
theorem dAD_followStore_23 : decode cAD_followStore 23 = .ok (.iload 4, 2) := by decide +kernel
theorem dAD_followStore_25 : decode cAD_followStore 25 = .ok (.iaload, 1) := by decide +kernel
theorem dAD_followStore_26 : decode cAD_followStore 26 = .ok (.invokestatic 58, 3) := by decide +kernel
theorem dAD_followStore_29 : decode cAD_followStore 29 = .ok (.ifCond .eq 27, 3) := by decide +kernel
theorem dAD_followStore_32 : decode cAD_followStore 32 = .ok (.aload_n 0, 1) := by decide +kernel
theorem dAD_followStore_33 : decode cAD_followStore 33 = .ok (.getfield 15, 3) := by decide +kernel
theorem dAD_followStore_36 : decode cAD_followStore 36 = .ok (.aload_n 0, 1) := by decide +kernel
theorem dAD_followStore_37 : decode cAD_followStore 37 = .ok (.getfield 18, 3) := by decide +kernel
theorem dAD_followStore_40 : decode cAD_followStore 40 = .ok (.iload 4, 2) := by decide +kernel
theorem dAD_followStore_42 : decode cAD_followStore 42 = .ok (.iaload, 1) := by decide +kernel
theorem dAD_followStore_43 : decode cAD_followStore 43 = .ok (.aload_n 0, 1) := by decide +kernel
theorem dAD_followStore_44 : decode cAD_followStore 44 = .ok (.getfield 11, 3) := by decide +kernel
theorem dAD_followStore_47 : decode cAD_followStore 47 = .ok (.iload_n 2, 1) := by decide +kernel
theorem dAD_followStore_48 : decode cAD_followStore 48 = .ok (.invokestatic 75, 3) := by decide +kernel
theorem dAD_followStore_51 : decode cAD_followStore 51 = .ok (.ifCond .eq 5, 3) := by decide +kernel
theorem dAD_followStore_54 : decode cAD_followStore 54 = .ok (.iconst 1, 1) := by decide +kernel
theorem dAD_followStore_55 : decode cAD_followStore 55 = .ok (.istore_n 3, 1) := by decide +kernel
theorem dAD_followStore_56 : decode cAD_followStore 56 = .ok (.iinc 4 1, 3) := by decide +kernel
theorem dAD_followStore_59 : decode cAD_followStore 59 = .ok (.goto (-54), 3) := by decide +kernel
theorem dAD_followStore_62 : decode cAD_followStore 62 = .ok (.iload_n 3, 1) := by decide +kernel
theorem dAD_followStore_63 : decode cAD_followStore 63 = .ok (.ireturn, 1) := by decide +kernel
theorem dAD_follow_0 : decode cAD_follow 0 = .ok (.aload_n 1, 1) := by decide +kernel
theorem dAD_follow_1 : decode cAD_follow 1 = .ok (.getfield 65, 3) := by decide +kernel
theorem dAD_follow_4 : decode cAD_follow 4 = .ok (.iload_n 2, 1) := by decide +kernel
theorem dAD_follow_5 : decode cAD_follow 5 = .ok (.iaload, 1) := by decide +kernel
theorem dAD_follow_6 : decode cAD_follow 6 = .ok (.istore_n 3, 1) := by decide +kernel
theorem dAD_follow_7 : decode cAD_follow 7 = .ok (.aload_n 1, 1) := by decide +kernel
theorem dAD_follow_8 : decode cAD_follow 8 = .ok (.getfield 68, 3) := by decide +kernel
theorem dAD_follow_11 : decode cAD_follow 11 = .ok (.iload_n 2, 1) := by decide +kernel
theorem dAD_follow_12 : decode cAD_follow 12 = .ok (.iaload, 1) := by decide +kernel
theorem dAD_follow_13 : decode cAD_follow 13 = .ok (.istore 4, 2) := by decide +kernel
theorem dAD_follow_15 : decode cAD_follow 15 = .ok (.aload_n 1, 1) := by decide +kernel
theorem dAD_follow_16 : decode cAD_follow 16 = .ok (.getfield 62, 3) := by decide +kernel
theorem dAD_follow_19 : decode cAD_follow 19 = .ok (.iload_n 2, 1) := by decide +kernel
theorem dAD_follow_20 : decode cAD_follow 20 = .ok (.iaload, 1) := by decide +kernel
theorem dAD_follow_21 : decode cAD_follow 21 = .ok (.tableswitch 93 1 10 #[62, 93, 93, 93, 93, 93, 62, 55, 77, 85], 55) := by decide +kernel
theorem dAD_follow_76 : decode cAD_follow 76 = .ok (.aload_n 0, 1) := by decide +kernel
theorem dAD_follow_77 : decode cAD_follow 77 = .ok (.iload_n 3, 1) := by decide +kernel
theorem dAD_follow_78 : decode cAD_follow 78 = .ok (.iload_n 2, 1) := by decide +kernel
theorem dAD_follow_79 : decode cAD_follow 79 = .ok (.invokevirtual 71, 3) := by decide +kernel
theorem dAD_follow_82 : decode cAD_follow 82 = .ok (.ireturn, 1) := by decide +kernel
theorem dAD_follow_83 : decode cAD_follow 83 = .ok (.aload_n 0, 1) := by decide +kernel
theorem dAD_follow_84 : decode cAD_follow 84 = .ok (.getfield 11, 3) := by decide +kernel
theorem dAD_follow_87 : decode cAD_follow 87 = .ok (.iload_n 3, 1) := by decide +kernel
theorem dAD_follow_88 : decode cAD_follow 88 = .ok (.aload_n 0, 1) := by decide +kernel
theorem dAD_follow_89 : decode cAD_follow 89 = .ok (.getfield 11, 3) := by decide +kernel
theorem dAD_follow_92 : decode cAD_follow 92 = .ok (.iload 4, 2) := by decide +kernel
theorem dAD_follow_94 : decode cAD_follow 94 = .ok (.invokestatic 75, 3) := by decide +kernel
theorem dAD_follow_97 : decode cAD_follow 97 = .ok (.ireturn, 1) := by decide +kernel
theorem dAD_follow_98 : decode cAD_follow 98 = .ok (.aload_n 0, 1) := by decide +kernel
theorem dAD_follow_99 : decode cAD_follow 99 = .ok (.iload_n 3, 1) := by decide +kernel
theorem dAD_follow_100 : decode cAD_follow 100 = .ok (.iload 4, 2) := by decide +kernel
theorem dAD_follow_102 : decode cAD_follow 102 = .ok (.invokevirtual 79, 3) := by decide +kernel
theorem dAD_follow_105 : decode cAD_follow 105 = .ok (.ireturn, 1) := by decide +kernel
theorem dAD_follow_106 : decode cAD_follow 106 = .ok (.aload_n 0, 1) := by decide +kernel
theorem dAD_follow_107 : decode cAD_follow 107 = .ok (.iload_n 3, 1) := by decide +kernel
theorem dAD_follow_108 : decode cAD_follow 108 = .ok (.iload 4, 2) := by decide +kernel
theorem dAD_follow_110 : decode cAD_follow 110 = .ok (.invokevirtual 82, 3) := by decide +kernel
theorem dAD_follow_113 : decode cAD_follow 113 = .ok (.ireturn, 1) := by decide +kernel
theorem dAD_follow_114 : decode cAD_follow 114 = .ok (.iconst 0, 1) := by decide +kernel
theorem dAD_follow_115 : decode cAD_follow 115 = .ok (.ireturn, 1) := by decide +kernel
theorem dAD_listSites_0 : decode cAD_listSites 0 = .ok (.aload_n 0, 1) := by decide +kernel
theorem dAD_listSites_1 : decode cAD_listSites 1 = .ok (.iconst 0, 1) := by decide +kernel
theorem dAD_listSites_2 : decode cAD_listSites 2 = .ok (.putfield 22, 3) := by decide +kernel
theorem dAD_listSites_5 : decode cAD_listSites 5 = .ok (.iconst 0, 1) := by decide +kernel
theorem dAD_listSites_6 : decode cAD_listSites 6 = .ok (.istore_n 2, 1) := by decide +kernel
theorem dAD_listSites_7 : decode cAD_listSites 7 = .ok (.iload_n 2, 1) := by decide +kernel
theorem dAD_listSites_8 : decode cAD_listSites 8 = .ok (.aload_n 1, 1) := by decide +kernel
theorem dAD_listSites_9 : decode cAD_listSites 9 = .ok (.getfield 43, 3) := by decide +kernel
theorem dAD_listSites_12 : decode cAD_listSites 12 = .ok (.if_icmp .ge 40, 3) := by decide +kernel
theorem dAD_listSites_15 : decode cAD_listSites 15 = .ok (.aload_n 1, 1) := by decide +kernel
theorem dAD_listSites_16 : decode cAD_listSites 16 = .ok (.getfield 62, 3) := by decide +kernel
theorem dAD_listSites_19 : decode cAD_listSites 19 = .ok (.iload_n 2, 1) := by decide +kernel
theorem dAD_listSites_20 : decode cAD_listSites 20 = .ok (.iaload, 1) := by decide +kernel
theorem dAD_listSites_21 : decode cAD_listSites 21 = .ok (.bipush 8, 2) := by decide +kernel
theorem dAD_listSites_23 : decode cAD_listSites 23 = .ok (.if_icmp .ne 23, 3) := by decide +kernel
theorem dAD_listSites_26 : decode cAD_listSites 26 = .ok (.aload_n 0, 1) := by decide +kernel
theorem dAD_listSites_27 : decode cAD_listSites 27 = .ok (.getfield 18, 3) := by decide +kernel
theorem dAD_listSites_30 : decode cAD_listSites 30 = .ok (.aload_n 0, 1) := by decide +kernel
theorem dAD_listSites_31 : decode cAD_listSites 31 = .ok (.getfield 22, 3) := by decide +kernel
theorem dAD_listSites_34 : decode cAD_listSites 34 = .ok (.iload_n 2, 1) := by decide +kernel
theorem dAD_listSites_35 : decode cAD_listSites 35 = .ok (.iastore, 1) := by decide +kernel
theorem dAD_listSites_36 : decode cAD_listSites 36 = .ok (.aload_n 0, 1) := by decide +kernel
theorem dAD_listSites_37 : decode cAD_listSites 37 = .ok (.dup, 1) := by decide +kernel
theorem dAD_listSites_38 : decode cAD_listSites 38 = .ok (.getfield 22, 3) := by decide +kernel
theorem dAD_listSites_41 : decode cAD_listSites 41 = .ok (.iconst 1, 1) := by decide +kernel
theorem dAD_listSites_42 : decode cAD_listSites 42 = .ok (.iadd, 1) := by decide +kernel
theorem dAD_listSites_43 : decode cAD_listSites 43 = .ok (.putfield 22, 3) := by decide +kernel
theorem dAD_listSites_46 : decode cAD_listSites 46 = .ok (.iinc 2 1, 3) := by decide +kernel
theorem dAD_listSites_49 : decode cAD_listSites 49 = .ok (.goto (-42), 3) := by decide +kernel
theorem dAD_listSites_52 : decode cAD_listSites 52 = .ok (.return_, 1) := by decide +kernel
theorem dAD_haveCommonSite_0 : decode cAD_haveCommonSite 0 = .ok (.iconst 0, 1) := by decide +kernel
theorem dAD_haveCommonSite_1 : decode cAD_haveCommonSite 1 = .ok (.istore_n 3, 1) := by decide +kernel
theorem dAD_haveCommonSite_2 : decode cAD_haveCommonSite 2 = .ok (.iconst 0, 1) := by decide +kernel
theorem dAD_haveCommonSite_3 : decode cAD_haveCommonSite 3 = .ok (.istore 4, 2) := by decide +kernel
theorem dAD_haveCommonSite_5 : decode cAD_haveCommonSite 5 = .ok (.iload 4, 2) := by decide +kernel
theorem dAD_haveCommonSite_7 : decode cAD_haveCommonSite 7 = .ok (.iconst 4, 1) := by decide +kernel
theorem dAD_haveCommonSite_8 : decode cAD_haveCommonSite 8 = .ok (.if_icmp .ge 39, 3) := by decide +kernel
theorem dAD_haveCommonSite_11 : decode cAD_haveCommonSite 11 = .ok (.aload_n 0, 1) := by decide +kernel
theorem dAD_haveCommonSite_12 : decode cAD_haveCommonSite 12 = .ok (.getfield 11, 3) := by decide +kernel
theorem dAD_haveCommonSite_15 : decode cAD_haveCommonSite 15 = .ok (.iload_n 1, 1) := by decide +kernel
theorem dAD_haveCommonSite_16 : decode cAD_haveCommonSite 16 = .ok (.iconst 4, 1) := by decide +kernel
theorem dAD_haveCommonSite_17 : decode cAD_haveCommonSite 17 = .ok (.imul, 1) := by decide +kernel
theorem dAD_haveCommonSite_18 : decode cAD_haveCommonSite 18 = .ok (.iload 4, 2) := by decide +kernel
theorem dAD_haveCommonSite_20 : decode cAD_haveCommonSite 20 = .ok (.iadd, 1) := by decide +kernel
theorem dAD_haveCommonSite_21 : decode cAD_haveCommonSite 21 = .ok (.laload, 1) := by decide +kernel
theorem dAD_haveCommonSite_22 : decode cAD_haveCommonSite 22 = .ok (.aload_n 0, 1) := by decide +kernel
theorem dAD_haveCommonSite_23 : decode cAD_haveCommonSite 23 = .ok (.getfield 11, 3) := by decide +kernel
theorem dAD_haveCommonSite_26 : decode cAD_haveCommonSite 26 = .ok (.iload_n 2, 1) := by decide +kernel
theorem dAD_haveCommonSite_27 : decode cAD_haveCommonSite 27 = .ok (.iconst 4, 1) := by decide +kernel
theorem dAD_haveCommonSite_28 : decode cAD_haveCommonSite 28 = .ok (.imul, 1) := by decide +kernel
theorem dAD_haveCommonSite_29 : decode cAD_haveCommonSite 29 = .ok (.iload 4, 2) := by decide +kernel
theorem dAD_haveCommonSite_31 : decode cAD_haveCommonSite 31 = .ok (.iadd, 1) := by decide +kernel
theorem dAD_haveCommonSite_32 : decode cAD_haveCommonSite 32 = .ok (.laload, 1) := by decide +kernel
theorem dAD_haveCommonSite_33 : decode cAD_haveCommonSite 33 = .ok (.land, 1) := by decide +kernel
theorem dAD_haveCommonSite_34 : decode cAD_haveCommonSite 34 = .ok (.lconst 0, 1) := by decide +kernel
theorem dAD_haveCommonSite_35 : decode cAD_haveCommonSite 35 = .ok (.lcmp, 1) := by decide +kernel
theorem dAD_haveCommonSite_36 : decode cAD_haveCommonSite 36 = .ok (.ifCond .eq 5, 3) := by decide +kernel
theorem dAD_haveCommonSite_39 : decode cAD_haveCommonSite 39 = .ok (.iconst 1, 1) := by decide +kernel
theorem dAD_haveCommonSite_40 : decode cAD_haveCommonSite 40 = .ok (.istore_n 3, 1) := by decide +kernel
theorem dAD_haveCommonSite_41 : decode cAD_haveCommonSite 41 = .ok (.iinc 4 1, 3) := by decide +kernel
theorem dAD_haveCommonSite_44 : decode cAD_haveCommonSite 44 = .ok (.goto (-39), 3) := by decide +kernel
theorem dAD_haveCommonSite_47 : decode cAD_haveCommonSite 47 = .ok (.iload_n 3, 1) := by decide +kernel
theorem dAD_haveCommonSite_48 : decode cAD_haveCommonSite 48 = .ok (.ireturn, 1) := by decide +kernel
theorem dAD_findMeeting_0 : decode cAD_findMeeting 0 = .ok (.iconst 0, 1) := by decide +kernel
theorem dAD_findMeeting_1 : decode cAD_findMeeting 1 = .ok (.istore_n 1, 1) := by decide +kernel
theorem dAD_findMeeting_2 : decode cAD_findMeeting 2 = .ok (.iload_n 1, 1) := by decide +kernel
theorem dAD_findMeeting_3 : decode cAD_findMeeting 3 = .ok (.bipush 16, 2) := by decide +kernel
theorem dAD_findMeeting_5 : decode cAD_findMeeting 5 = .ok (.if_icmp .ge 51, 3) := by decide +kernel
theorem dAD_findMeeting_8 : decode cAD_findMeeting 8 = .ok (.aload_n 0, 1) := by decide +kernel
theorem dAD_findMeeting_9 : decode cAD_findMeeting 9 = .ok (.getfield 26, 3) := by decide +kernel
theorem dAD_findMeeting_12 : decode cAD_findMeeting 12 = .ok (.iload_n 1, 1) := by decide +kernel
theorem dAD_findMeeting_13 : decode cAD_findMeeting 13 = .ok (.iconst 0, 1) := by decide +kernel
theorem dAD_findMeeting_14 : decode cAD_findMeeting 14 = .ok (.iastore, 1) := by decide +kernel
theorem dAD_findMeeting_15 : decode cAD_findMeeting 15 = .ok (.iconst 0, 1) := by decide +kernel
theorem dAD_findMeeting_16 : decode cAD_findMeeting 16 = .ok (.istore_n 2, 1) := by decide +kernel
theorem dAD_findMeeting_17 : decode cAD_findMeeting 17 = .ok (.iload_n 2, 1) := by decide +kernel
theorem dAD_findMeeting_18 : decode cAD_findMeeting 18 = .ok (.bipush 16, 2) := by decide +kernel
theorem dAD_findMeeting_20 : decode cAD_findMeeting 20 = .ok (.if_icmp .ge 30, 3) := by decide +kernel
theorem dAD_findMeeting_23 : decode cAD_findMeeting 23 = .ok (.aload_n 0, 1) := by decide +kernel
theorem dAD_findMeeting_24 : decode cAD_findMeeting 24 = .ok (.iload_n 1, 1) := by decide +kernel
theorem dAD_findMeeting_25 : decode cAD_findMeeting 25 = .ok (.iload_n 2, 1) := by decide +kernel
theorem dAD_findMeeting_26 : decode cAD_findMeeting 26 = .ok (.invokevirtual 85, 3) := by decide +kernel
theorem dAD_findMeeting_29 : decode cAD_findMeeting 29 = .ok (.ifCond .eq 15, 3) := by decide +kernel
theorem dAD_findMeeting_32 : decode cAD_findMeeting 32 = .ok (.aload_n 0, 1) := by decide +kernel
theorem dAD_findMeeting_33 : decode cAD_findMeeting 33 = .ok (.getfield 26, 3) := by decide +kernel
theorem dAD_findMeeting_36 : decode cAD_findMeeting 36 = .ok (.iload_n 1, 1) := by decide +kernel
theorem dAD_findMeeting_37 : decode cAD_findMeeting 37 = .ok (.dup2, 1) := by decide +kernel
theorem dAD_findMeeting_38 : decode cAD_findMeeting 38 = .ok (.iaload, 1) := by decide +kernel
theorem dAD_findMeeting_39 : decode cAD_findMeeting 39 = .ok (.iconst 1, 1) := by decide +kernel
theorem dAD_findMeeting_40 : decode cAD_findMeeting 40 = .ok (.iload_n 2, 1) := by decide +kernel
theorem dAD_findMeeting_41 : decode cAD_findMeeting 41 = .ok (.ishl, 1) := by decide +kernel
theorem dAD_findMeeting_42 : decode cAD_findMeeting 42 = .ok (.ior, 1) := by decide +kernel
theorem dAD_findMeeting_43 : decode cAD_findMeeting 43 = .ok (.iastore, 1) := by decide +kernel
theorem dAD_findMeeting_44 : decode cAD_findMeeting 44 = .ok (.iinc 2 1, 3) := by decide +kernel
theorem dAD_findMeeting_47 : decode cAD_findMeeting 47 = .ok (.goto (-30), 3) := by decide +kernel
theorem dAD_findMeeting_50 : decode cAD_findMeeting 50 = .ok (.iinc 1 1, 3) := by decide +kernel
theorem dAD_findMeeting_53 : decode cAD_findMeeting 53 = .ok (.goto (-51), 3) := by decide +kernel
theorem dAD_findMeeting_56 : decode cAD_findMeeting 56 = .ok (.return_, 1) := by decide +kernel
theorem dAD_takeHolders_0 : decode cAD_takeHolders 0 = .ok (.iconst 0, 1) := by decide +kernel
theorem dAD_takeHolders_1 : decode cAD_takeHolders 1 = .ok (.istore_n 2, 1) := by decide +kernel
theorem dAD_takeHolders_2 : decode cAD_takeHolders 2 = .ok (.iload_n 2, 1) := by decide +kernel
theorem dAD_takeHolders_3 : decode cAD_takeHolders 3 = .ok (.bipush 16, 2) := by decide +kernel
theorem dAD_takeHolders_5 : decode cAD_takeHolders 5 = .ok (.if_icmp .ge 35, 3) := by decide +kernel
theorem dAD_takeHolders_8 : decode cAD_takeHolders 8 = .ok (.aload_n 0, 1) := by decide +kernel
theorem dAD_takeHolders_9 : decode cAD_takeHolders 9 = .ok (.getfield 11, 3) := by decide +kernel
theorem dAD_takeHolders_12 : decode cAD_takeHolders 12 = .ok (.iload_n 2, 1) := by decide +kernel
theorem dAD_takeHolders_13 : decode cAD_takeHolders 13 = .ok (.iload_n 1, 1) := by decide +kernel
theorem dAD_takeHolders_14 : decode cAD_takeHolders 14 = .ok (.invokestatic 58, 3) := by decide +kernel
theorem dAD_takeHolders_17 : decode cAD_takeHolders 17 = .ok (.ifCond .eq 17, 3) := by decide +kernel
theorem dAD_takeHolders_20 : decode cAD_takeHolders 20 = .ok (.aload_n 0, 1) := by decide +kernel
theorem dAD_takeHolders_21 : decode cAD_takeHolders 21 = .ok (.dup, 1) := by decide +kernel
theorem dAD_takeHolders_22 : decode cAD_takeHolders 22 = .ok (.getfield 29, 3) := by decide +kernel
theorem dAD_takeHolders_25 : decode cAD_takeHolders 25 = .ok (.iconst 1, 1) := by decide +kernel
theorem dAD_takeHolders_26 : decode cAD_takeHolders 26 = .ok (.iload_n 2, 1) := by decide +kernel
theorem dAD_takeHolders_27 : decode cAD_takeHolders 27 = .ok (.ishl, 1) := by decide +kernel
theorem dAD_takeHolders_28 : decode cAD_takeHolders 28 = .ok (.iconst (-1), 1) := by decide +kernel
theorem dAD_takeHolders_29 : decode cAD_takeHolders 29 = .ok (.ixor, 1) := by decide +kernel
theorem dAD_takeHolders_30 : decode cAD_takeHolders 30 = .ok (.iand, 1) := by decide +kernel
theorem dAD_takeHolders_31 : decode cAD_takeHolders 31 = .ok (.putfield 29, 3) := by decide +kernel
theorem dAD_takeHolders_34 : decode cAD_takeHolders 34 = .ok (.iinc 2 1, 3) := by decide +kernel
theorem dAD_takeHolders_37 : decode cAD_takeHolders 37 = .ok (.goto (-35), 3) := by decide +kernel
theorem dAD_takeHolders_40 : decode cAD_takeHolders 40 = .ok (.return_, 1) := by decide +kernel
theorem dAD_findUnkept_0 : decode cAD_findUnkept 0 = .ok (.aload_n 0, 1) := by decide +kernel
theorem dAD_findUnkept_1 : decode cAD_findUnkept 1 = .ok (.ldc 88, 2) := by decide +kernel
theorem dAD_findUnkept_3 : decode cAD_findUnkept 3 = .ok (.putfield 29, 3) := by decide +kernel
theorem dAD_findUnkept_6 : decode cAD_findUnkept 6 = .ok (.iconst 0, 1) := by decide +kernel
theorem dAD_findUnkept_7 : decode cAD_findUnkept 7 = .ok (.istore_n 2, 1) := by decide +kernel
theorem dAD_findUnkept_8 : decode cAD_findUnkept 8 = .ok (.iload_n 2, 1) := by decide +kernel
theorem dAD_findUnkept_9 : decode cAD_findUnkept 9 = .ok (.aload_n 0, 1) := by decide +kernel
theorem dAD_findUnkept_10 : decode cAD_findUnkept 10 = .ok (.getfield 22, 3) := by decide +kernel
theorem dAD_findUnkept_13 : decode cAD_findUnkept 13 = .ok (.if_icmp .ge 34, 3) := by decide +kernel
theorem dAD_findUnkept_16 : decode cAD_findUnkept 16 = .ok (.aload_n 1, 1) := by decide +kernel
theorem dAD_findUnkept_17 : decode cAD_findUnkept 17 = .ok (.getfield 89, 3) := by decide +kernel
theorem dAD_findUnkept_20 : decode cAD_findUnkept 20 = .ok (.aload_n 0, 1) := by decide +kernel
theorem dAD_findUnkept_21 : decode cAD_findUnkept 21 = .ok (.getfield 18, 3) := by decide +kernel
theorem dAD_findUnkept_24 : decode cAD_findUnkept 24 = .ok (.iload_n 2, 1) := by decide +kernel
theorem dAD_findUnkept_25 : decode cAD_findUnkept 25 = .ok (.iaload, 1) := by decide +kernel
theorem dAD_findUnkept_26 : decode cAD_findUnkept 26 = .ok (.iaload, 1) := by decide +kernel
theorem dAD_findUnkept_27 : decode cAD_findUnkept 27 = .ok (.iconst 1, 1) := by decide +kernel
theorem dAD_findUnkept_28 : decode cAD_findUnkept 28 = .ok (.if_icmp .ne 13, 3) := by decide +kernel
theorem dAD_findUnkept_31 : decode cAD_findUnkept 31 = .ok (.aload_n 0, 1) := by decide +kernel
theorem dAD_findUnkept_32 : decode cAD_findUnkept 32 = .ok (.aload_n 0, 1) := by decide +kernel
theorem dAD_findUnkept_33 : decode cAD_findUnkept 33 = .ok (.getfield 18, 3) := by decide +kernel
theorem dAD_findUnkept_36 : decode cAD_findUnkept 36 = .ok (.iload_n 2, 1) := by decide +kernel
theorem dAD_findUnkept_37 : decode cAD_findUnkept 37 = .ok (.iaload, 1) := by decide +kernel
theorem dAD_findUnkept_38 : decode cAD_findUnkept 38 = .ok (.invokevirtual 92, 3) := by decide +kernel
theorem dAD_findUnkept_41 : decode cAD_findUnkept 41 = .ok (.iinc 2 1, 3) := by decide +kernel
theorem dAD_findUnkept_44 : decode cAD_findUnkept 44 = .ok (.goto (-36), 3) := by decide +kernel
theorem dAD_findUnkept_47 : decode cAD_findUnkept 47 = .ok (.return_, 1) := by decide +kernel
theorem dAD_find_0 : decode cAD_find 0 = .ok (.aload_n 0, 1) := by decide +kernel
theorem dAD_find_1 : decode cAD_find 1 = .ok (.getfield 11, 3) := by decide +kernel
theorem dAD_find_4 : decode cAD_find 4 = .ok (.lconst 0, 1) := by decide +kernel
theorem dAD_find_5 : decode cAD_find 5 = .ok (.invokestatic 32, 3) := by decide +kernel
theorem dAD_find_8 : decode cAD_find 8 = .ok (.aload_n 0, 1) := by decide +kernel
theorem dAD_find_9 : decode cAD_find 9 = .ok (.getfield 15, 3) := by decide +kernel
theorem dAD_find_12 : decode cAD_find 12 = .ok (.lconst 0, 1) := by decide +kernel
theorem dAD_find_13 : decode cAD_find 13 = .ok (.invokestatic 32, 3) := by decide +kernel
theorem dAD_find_16 : decode cAD_find 16 = .ok (.aload_n 0, 1) := by decide +kernel
theorem dAD_find_17 : decode cAD_find 17 = .ok (.aload_n 1, 1) := by decide +kernel
theorem dAD_find_18 : decode cAD_find 18 = .ok (.invokevirtual 38, 3) := by decide +kernel
theorem dAD_find_21 : decode cAD_find 21 = .ok (.iconst 1, 1) := by decide +kernel
theorem dAD_find_22 : decode cAD_find 22 = .ok (.istore_n 2, 1) := by decide +kernel
theorem dAD_find_23 : decode cAD_find 23 = .ok (.iconst 0, 1) := by decide +kernel
theorem dAD_find_24 : decode cAD_find 24 = .ok (.istore_n 3, 1) := by decide +kernel
theorem dAD_find_25 : decode cAD_find 25 = .ok (.iload_n 2, 1) := by decide +kernel
theorem dAD_find_26 : decode cAD_find 26 = .ok (.ifCond .eq 47, 3) := by decide +kernel
theorem dAD_find_29 : decode cAD_find 29 = .ok (.iload_n 3, 1) := by decide +kernel
theorem dAD_find_30 : decode cAD_find 30 = .ok (.ldc 42, 2) := by decide +kernel
theorem dAD_find_32 : decode cAD_find 32 = .ok (.if_icmp .ge 41, 3) := by decide +kernel
theorem dAD_find_35 : decode cAD_find 35 = .ok (.iconst 0, 1) := by decide +kernel
theorem dAD_find_36 : decode cAD_find 36 = .ok (.istore_n 2, 1) := by decide +kernel
theorem dAD_find_37 : decode cAD_find 37 = .ok (.iconst 0, 1) := by decide +kernel
theorem dAD_find_38 : decode cAD_find 38 = .ok (.istore 4, 2) := by decide +kernel
theorem dAD_find_40 : decode cAD_find 40 = .ok (.iload 4, 2) := by decide +kernel
theorem dAD_find_42 : decode cAD_find 42 = .ok (.aload_n 1, 1) := by decide +kernel
theorem dAD_find_43 : decode cAD_find 43 = .ok (.getfield 43, 3) := by decide +kernel
theorem dAD_find_46 : decode cAD_find 46 = .ok (.if_icmp .ge 21, 3) := by decide +kernel
theorem dAD_find_49 : decode cAD_find 49 = .ok (.aload_n 0, 1) := by decide +kernel
theorem dAD_find_50 : decode cAD_find 50 = .ok (.aload_n 1, 1) := by decide +kernel
theorem dAD_find_51 : decode cAD_find 51 = .ok (.iload 4, 2) := by decide +kernel
theorem dAD_find_53 : decode cAD_find 53 = .ok (.invokevirtual 48, 3) := by decide +kernel
theorem dAD_find_56 : decode cAD_find 56 = .ok (.ifCond .eq 5, 3) := by decide +kernel
theorem dAD_find_59 : decode cAD_find 59 = .ok (.iconst 1, 1) := by decide +kernel
theorem dAD_find_60 : decode cAD_find 60 = .ok (.istore_n 2, 1) := by decide +kernel
theorem dAD_find_61 : decode cAD_find 61 = .ok (.iinc 4 1, 3) := by decide +kernel
theorem dAD_find_64 : decode cAD_find 64 = .ok (.goto (-24), 3) := by decide +kernel
theorem dAD_find_67 : decode cAD_find 67 = .ok (.iinc 3 1, 3) := by decide +kernel
theorem dAD_find_70 : decode cAD_find 70 = .ok (.goto (-45), 3) := by decide +kernel
theorem dAD_find_73 : decode cAD_find 73 = .ok (.aload_n 0, 1) := by decide +kernel
theorem dAD_find_74 : decode cAD_find 74 = .ok (.invokevirtual 52, 3) := by decide +kernel
theorem dAD_find_77 : decode cAD_find 77 = .ok (.aload_n 0, 1) := by decide +kernel
theorem dAD_find_78 : decode cAD_find 78 = .ok (.aload_n 1, 1) := by decide +kernel
theorem dAD_find_79 : decode cAD_find 79 = .ok (.invokevirtual 55, 3) := by decide +kernel
theorem dAD_find_82 : decode cAD_find 82 = .ok (.return_, 1) := by decide +kernel
theorem dAD_mayBe_0 : decode cAD_mayBe 0 = .ok (.aload_n 0, 1) := by decide +kernel
theorem dAD_mayBe_1 : decode cAD_mayBe 1 = .ok (.getfield 11, 3) := by decide +kernel
theorem dAD_mayBe_4 : decode cAD_mayBe 4 = .ok (.iload_n 1, 1) := by decide +kernel
theorem dAD_mayBe_5 : decode cAD_mayBe 5 = .ok (.iload_n 2, 1) := by decide +kernel
theorem dAD_mayBe_6 : decode cAD_mayBe 6 = .ok (.invokestatic 58, 3) := by decide +kernel
theorem dAD_mayBe_9 : decode cAD_mayBe 9 = .ok (.ireturn, 1) := by decide +kernel
theorem dAD_mayHold_0 : decode cAD_mayHold 0 = .ok (.aload_n 0, 1) := by decide +kernel
theorem dAD_mayHold_1 : decode cAD_mayHold 1 = .ok (.getfield 15, 3) := by decide +kernel
theorem dAD_mayHold_4 : decode cAD_mayHold 4 = .ok (.iload_n 1, 1) := by decide +kernel
theorem dAD_mayHold_5 : decode cAD_mayHold 5 = .ok (.iload_n 2, 1) := by decide +kernel
theorem dAD_mayHold_6 : decode cAD_mayHold 6 = .ok (.invokestatic 58, 3) := by decide +kernel
theorem dAD_mayHold_9 : decode cAD_mayHold 9 = .ok (.ireturn, 1) := by decide +kernel
