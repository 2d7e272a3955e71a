theorem dMO_moreMay_0 : decode cMO_moreMay 0 = .ok (.iconst 0, 1) := by decide +kernel
theorem dMO_moreMay_1 : decode cMO_moreMay 1 = .ok (.istore_n 3, 1) := by decide +kernel
theorem dMO_moreMay_2 : decode cMO_moreMay 2 = .ok (.iconst 0, 1) := by decide +kernel
theorem dMO_moreMay_3 : decode cMO_moreMay 3 = .ok (.istore 4, 2) := by decide +kernel
theorem dMO_moreMay_5 : decode cMO_moreMay 5 = .ok (.iload 4, 2) := by decide +kernel
theorem dMO_moreMay_7 : decode cMO_moreMay 7 = .ok (.aload_n 0, 1) := by decide +kernel
theorem dMO_moreMay_8 : decode cMO_moreMay 8 = .ok (.getfield 94, 3) := by decide +kernel
theorem dMO_moreMay_11 : decode cMO_moreMay 11 = .ok (.if_icmp .ge 101, 3) := by decide +kernel
theorem dMO_moreMay_14 : decode cMO_moreMay 14 = .ok (.iload_n 3, 1) := by decide +kernel
theorem dMO_moreMay_15 : decode cMO_moreMay 15 = .ok (.ifCond .ne 35, 3) := by decide +kernel
theorem dMO_moreMay_18 : decode cMO_moreMay 18 = .ok (.aload_n 0, 1) := by decide +kernel
theorem dMO_moreMay_19 : decode cMO_moreMay 19 = .ok (.getfield 25, 3) := by decide +kernel
theorem dMO_moreMay_22 : decode cMO_moreMay 22 = .ok (.sipush 200, 3) := by decide +kernel
theorem dMO_moreMay_25 : decode cMO_moreMay 25 = .ok (.iload_n 1, 1) := by decide +kernel
theorem dMO_moreMay_26 : decode cMO_moreMay 26 = .ok (.imul, 1) := by decide +kernel
theorem dMO_moreMay_27 : decode cMO_moreMay 27 = .ok (.iload 4, 2) := by decide +kernel
theorem dMO_moreMay_29 : decode cMO_moreMay 29 = .ok (.iadd, 1) := by decide +kernel
theorem dMO_moreMay_30 : decode cMO_moreMay 30 = .ok (.baload, 1) := by decide +kernel
theorem dMO_moreMay_31 : decode cMO_moreMay 31 = .ok (.ifCond .eq 23, 3) := by decide +kernel
theorem dMO_moreMay_34 : decode cMO_moreMay 34 = .ok (.aload_n 0, 1) := by decide +kernel
theorem dMO_moreMay_35 : decode cMO_moreMay 35 = .ok (.getfield 25, 3) := by decide +kernel
theorem dMO_moreMay_38 : decode cMO_moreMay 38 = .ok (.sipush 200, 3) := by decide +kernel
theorem dMO_moreMay_41 : decode cMO_moreMay 41 = .ok (.iload_n 2, 1) := by decide +kernel
theorem dMO_moreMay_42 : decode cMO_moreMay 42 = .ok (.imul, 1) := by decide +kernel
theorem dMO_moreMay_43 : decode cMO_moreMay 43 = .ok (.iload 4, 2) := by decide +kernel
theorem dMO_moreMay_45 : decode cMO_moreMay 45 = .ok (.iadd, 1) := by decide +kernel
theorem dMO_moreMay_46 : decode cMO_moreMay 46 = .ok (.baload, 1) := by decide +kernel
theorem dMO_moreMay_47 : decode cMO_moreMay 47 = .ok (.ifCond .ne 7, 3) := by decide +kernel
theorem dMO_moreMay_50 : decode cMO_moreMay 50 = .ok (.iconst 1, 1) := by decide +kernel
theorem dMO_moreMay_51 : decode cMO_moreMay 51 = .ok (.goto 4, 3) := by decide +kernel
theorem dMO_moreMay_54 : decode cMO_moreMay 54 = .ok (.iconst 0, 1) := by decide +kernel
theorem dMO_moreMay_55 : decode cMO_moreMay 55 = .ok (.istore_n 3, 1) := by decide +kernel
theorem dMO_moreMay_56 : decode cMO_moreMay 56 = .ok (.aload_n 0, 1) := by decide +kernel
theorem dMO_moreMay_57 : decode cMO_moreMay 57 = .ok (.getfield 25, 3) := by decide +kernel
theorem dMO_moreMay_60 : decode cMO_moreMay 60 = .ok (.sipush 200, 3) := by decide +kernel
theorem dMO_moreMay_63 : decode cMO_moreMay 63 = .ok (.iload_n 2, 1) := by decide +kernel
theorem dMO_moreMay_64 : decode cMO_moreMay 64 = .ok (.imul, 1) := by decide +kernel
theorem dMO_moreMay_65 : decode cMO_moreMay 65 = .ok (.iload 4, 2) := by decide +kernel
theorem dMO_moreMay_67 : decode cMO_moreMay 67 = .ok (.iadd, 1) := by decide +kernel
theorem dMO_moreMay_68 : decode cMO_moreMay 68 = .ok (.aload_n 0, 1) := by decide +kernel
theorem dMO_moreMay_69 : decode cMO_moreMay 69 = .ok (.getfield 25, 3) := by decide +kernel
theorem dMO_moreMay_72 : decode cMO_moreMay 72 = .ok (.sipush 200, 3) := by decide +kernel
theorem dMO_moreMay_75 : decode cMO_moreMay 75 = .ok (.iload_n 2, 1) := by decide +kernel
theorem dMO_moreMay_76 : decode cMO_moreMay 76 = .ok (.imul, 1) := by decide +kernel
theorem dMO_moreMay_77 : decode cMO_moreMay 77 = .ok (.iload 4, 2) := by decide +kernel
theorem dMO_moreMay_79 : decode cMO_moreMay 79 = .ok (.iadd, 1) := by decide +kernel
theorem dMO_moreMay_80 : decode cMO_moreMay 80 = .ok (.baload, 1) := by decide +kernel
theorem dMO_moreMay_81 : decode cMO_moreMay 81 = .ok (.ifCond .ne 19, 3) := by decide +kernel
theorem dMO_moreMay_84 : decode cMO_moreMay 84 = .ok (.aload_n 0, 1) := by decide +kernel
theorem dMO_moreMay_85 : decode cMO_moreMay 85 = .ok (.getfield 25, 3) := by decide +kernel
theorem dMO_moreMay_88 : decode cMO_moreMay 88 = .ok (.sipush 200, 3) := by decide +kernel
theorem dMO_moreMay_91 : decode cMO_moreMay 91 = .ok (.iload_n 1, 1) := by decide +kernel
theorem dMO_moreMay_92 : decode cMO_moreMay 92 = .ok (.imul, 1) := by decide +kernel
theorem dMO_moreMay_93 : decode cMO_moreMay 93 = .ok (.iload 4, 2) := by decide +kernel
theorem dMO_moreMay_95 : decode cMO_moreMay 95 = .ok (.iadd, 1) := by decide +kernel
theorem dMO_moreMay_96 : decode cMO_moreMay 96 = .ok (.baload, 1) := by decide +kernel
theorem dMO_moreMay_97 : decode cMO_moreMay 97 = .ok (.ifCond .eq 7, 3) := by decide +kernel
theorem dMO_moreMay_100 : decode cMO_moreMay 100 = .ok (.iconst 1, 1) := by decide +kernel
theorem dMO_moreMay_101 : decode cMO_moreMay 101 = .ok (.goto 4, 3) := by decide +kernel
theorem dMO_moreMay_104 : decode cMO_moreMay 104 = .ok (.iconst 0, 1) := by decide +kernel
theorem dMO_moreMay_105 : decode cMO_moreMay 105 = .ok (.bastore, 1) := by decide +kernel
theorem dMO_moreMay_106 : decode cMO_moreMay 106 = .ok (.iinc 4 1, 3) := by decide +kernel
theorem dMO_moreMay_109 : decode cMO_moreMay 109 = .ok (.goto (-104), 3) := by decide +kernel
theorem dMO_moreMay_112 : decode cMO_moreMay 112 = .ok (.iload_n 3, 1) := by decide +kernel
theorem dMO_moreMay_113 : decode cMO_moreMay 113 = .ok (.ireturn, 1) := by decide +kernel
theorem dMO_moreFromCells_0 : decode cMO_moreFromCells 0 = .ok (.iconst 0, 1) := by decide +kernel
theorem dMO_moreFromCells_1 : decode cMO_moreFromCells 1 = .ok (.istore_n 3, 1) := by decide +kernel
theorem dMO_moreFromCells_2 : decode cMO_moreFromCells 2 = .ok (.iconst 0, 1) := by decide +kernel
theorem dMO_moreFromCells_3 : decode cMO_moreFromCells 3 = .ok (.istore 4, 2) := by decide +kernel
theorem dMO_moreFromCells_5 : decode cMO_moreFromCells 5 = .ok (.iload 4, 2) := by decide +kernel
theorem dMO_moreFromCells_7 : decode cMO_moreFromCells 7 = .ok (.aload_n 0, 1) := by decide +kernel
theorem dMO_moreFromCells_8 : decode cMO_moreFromCells 8 = .ok (.getfield 94, 3) := by decide +kernel
theorem dMO_moreFromCells_11 : decode cMO_moreFromCells 11 = .ok (.if_icmp .ge 101, 3) := by decide +kernel
theorem dMO_moreFromCells_14 : decode cMO_moreFromCells 14 = .ok (.iload_n 3, 1) := by decide +kernel
theorem dMO_moreFromCells_15 : decode cMO_moreFromCells 15 = .ok (.ifCond .ne 35, 3) := by decide +kernel
theorem dMO_moreFromCells_18 : decode cMO_moreFromCells 18 = .ok (.aload_n 0, 1) := by decide +kernel
theorem dMO_moreFromCells_19 : decode cMO_moreFromCells 19 = .ok (.getfield 30, 3) := by decide +kernel
theorem dMO_moreFromCells_22 : decode cMO_moreFromCells 22 = .ok (.sipush 200, 3) := by decide +kernel
theorem dMO_moreFromCells_25 : decode cMO_moreFromCells 25 = .ok (.iload_n 1, 1) := by decide +kernel
theorem dMO_moreFromCells_26 : decode cMO_moreFromCells 26 = .ok (.imul, 1) := by decide +kernel
theorem dMO_moreFromCells_27 : decode cMO_moreFromCells 27 = .ok (.iload 4, 2) := by decide +kernel
theorem dMO_moreFromCells_29 : decode cMO_moreFromCells 29 = .ok (.iadd, 1) := by decide +kernel
theorem dMO_moreFromCells_30 : decode cMO_moreFromCells 30 = .ok (.baload, 1) := by decide +kernel
theorem dMO_moreFromCells_31 : decode cMO_moreFromCells 31 = .ok (.ifCond .eq 23, 3) := by decide +kernel
theorem dMO_moreFromCells_34 : decode cMO_moreFromCells 34 = .ok (.aload_n 0, 1) := by decide +kernel
theorem dMO_moreFromCells_35 : decode cMO_moreFromCells 35 = .ok (.getfield 25, 3) := by decide +kernel
theorem dMO_moreFromCells_38 : decode cMO_moreFromCells 38 = .ok (.sipush 200, 3) := by decide +kernel
theorem dMO_moreFromCells_41 : decode cMO_moreFromCells 41 = .ok (.iload_n 2, 1) := by decide +kernel
theorem dMO_moreFromCells_42 : decode cMO_moreFromCells 42 = .ok (.imul, 1) := by decide +kernel
theorem dMO_moreFromCells_43 : decode cMO_moreFromCells 43 = .ok (.iload 4, 2) := by decide +kernel
theorem dMO_moreFromCells_45 : decode cMO_moreFromCells 45 = .ok (.iadd, 1) := by decide +kernel
theorem dMO_moreFromCells_46 : decode cMO_moreFromCells 46 = .ok (.baload, 1) := by decide +kernel
theorem dMO_moreFromCells_47 : decode cMO_moreFromCells 47 = .ok (.ifCond .ne 7, 3) := by decide +kernel
theorem dMO_moreFromCells_50 : decode cMO_moreFromCells 50 = .ok (.iconst 1, 1) := by decide +kernel
theorem dMO_moreFromCells_51 : decode cMO_moreFromCells 51 = .ok (.goto 4, 3) := by decide +kernel
theorem dMO_moreFromCells_54 : decode cMO_moreFromCells 54 = .ok (.iconst 0, 1) := by decide +kernel
theorem dMO_moreFromCells_55 : decode cMO_moreFromCells 55 = .ok (.istore_n 3, 1) := by decide +kernel
theorem dMO_moreFromCells_56 : decode cMO_moreFromCells 56 = .ok (.aload_n 0, 1) := by decide +kernel
theorem dMO_moreFromCells_57 : decode cMO_moreFromCells 57 = .ok (.getfield 25, 3) := by decide +kernel
theorem dMO_moreFromCells_60 : decode cMO_moreFromCells 60 = .ok (.sipush 200, 3) := by decide +kernel
theorem dMO_moreFromCells_63 : decode cMO_moreFromCells 63 = .ok (.iload_n 2, 1) := by decide +kernel
theorem dMO_moreFromCells_64 : decode cMO_moreFromCells 64 = .ok (.imul, 1) := by decide +kernel
theorem dMO_moreFromCells_65 : decode cMO_moreFromCells 65 = .ok (.iload 4, 2) := by decide +kernel
theorem dMO_moreFromCells_67 : decode cMO_moreFromCells 67 = .ok (.iadd, 1) := by decide +kernel
theorem dMO_moreFromCells_68 : decode cMO_moreFromCells 68 = .ok (.aload_n 0, 1) := by decide +kernel
theorem dMO_moreFromCells_69 : decode cMO_moreFromCells 69 = .ok (.getfield 25, 3) := by decide +kernel
theorem dMO_moreFromCells_72 : decode cMO_moreFromCells 72 = .ok (.sipush 200, 3) := by decide +kernel
theorem dMO_moreFromCells_75 : decode cMO_moreFromCells 75 = .ok (.iload_n 2, 1) := by decide +kernel
theorem dMO_moreFromCells_76 : decode cMO_moreFromCells 76 = .ok (.imul, 1) := by decide +kernel
theorem dMO_moreFromCells_77 : decode cMO_moreFromCells 77 = .ok (.iload 4, 2) := by decide +kernel
theorem dMO_moreFromCells_79 : decode cMO_moreFromCells 79 = .ok (.iadd, 1) := by decide +kernel
theorem dMO_moreFromCells_80 : decode cMO_moreFromCells 80 = .ok (.baload, 1) := by decide +kernel
theorem dMO_moreFromCells_81 : decode cMO_moreFromCells 81 = .ok (.ifCond .ne 19, 3) := by decide +kernel
theorem dMO_moreFromCells_84 : decode cMO_moreFromCells 84 = .ok (.aload_n 0, 1) := by decide +kernel
theorem dMO_moreFromCells_85 : decode cMO_moreFromCells 85 = .ok (.getfield 30, 3) := by decide +kernel
theorem dMO_moreFromCells_88 : decode cMO_moreFromCells 88 = .ok (.sipush 200, 3) := by decide +kernel
theorem dMO_moreFromCells_91 : decode cMO_moreFromCells 91 = .ok (.iload_n 1, 1) := by decide +kernel
theorem dMO_moreFromCells_92 : decode cMO_moreFromCells 92 = .ok (.imul, 1) := by decide +kernel
theorem dMO_moreFromCells_93 : decode cMO_moreFromCells 93 = .ok (.iload 4, 2) := by decide +kernel
theorem dMO_moreFromCells_95 : decode cMO_moreFromCells 95 = .ok (.iadd, 1) := by decide +kernel
theorem dMO_moreFromCells_96 : decode cMO_moreFromCells 96 = .ok (.baload, 1) := by decide +kernel
theorem dMO_moreFromCells_97 : decode cMO_moreFromCells 97 = .ok (.ifCond .eq 7, 3) := by decide +kernel
theorem dMO_moreFromCells_100 : decode cMO_moreFromCells 100 = .ok (.iconst 1, 1) := by decide +kernel
theorem dMO_moreFromCells_101 : decode cMO_moreFromCells 101 = .ok (.goto 4, 3) := by decide +kernel
theorem dMO_moreFromCells_104 : decode cMO_moreFromCells 104 = .ok (.iconst 0, 1) := by decide +kernel
theorem dMO_moreFromCells_105 : decode cMO_moreFromCells 105 = .ok (.bastore, 1) := by decide +kernel
theorem dMO_moreFromCells_106 : decode cMO_moreFromCells 106 = .ok (.iinc 4 1, 3) := by decide +kernel
theorem dMO_moreFromCells_109 : decode cMO_moreFromCells 109 = .ok (.goto (-104), 3) := by decide +kernel
theorem dMO_moreFromCells_112 : decode cMO_moreFromCells 112 = .ok (.iload_n 3, 1) := by decide +kernel
theorem dMO_moreFromCells_113 : decode cMO_moreFromCells 113 = .ok (.ireturn, 1) := by decide +kernel
theorem dMO_moreToCells_0 : decode cMO_moreToCells 0 = .ok (.iconst 0, 1) := by decide +kernel
theorem dMO_moreToCells_1 : decode cMO_moreToCells 1 = .ok (.istore_n 3, 1) := by decide +kernel
theorem dMO_moreToCells_2 : decode cMO_moreToCells 2 = .ok (.iconst 0, 1) := by decide +kernel
theorem dMO_moreToCells_3 : decode cMO_moreToCells 3 = .ok (.istore 4, 2) := by decide +kernel
theorem dMO_moreToCells_5 : decode cMO_moreToCells 5 = .ok (.iload 4, 2) := by decide +kernel
theorem dMO_moreToCells_7 : decode cMO_moreToCells 7 = .ok (.aload_n 0, 1) := by decide +kernel
theorem dMO_moreToCells_8 : decode cMO_moreToCells 8 = .ok (.getfield 94, 3) := by decide +kernel
theorem dMO_moreToCells_11 : decode cMO_moreToCells 11 = .ok (.if_icmp .ge 101, 3) := by decide +kernel
theorem dMO_moreToCells_14 : decode cMO_moreToCells 14 = .ok (.iload_n 3, 1) := by decide +kernel
theorem dMO_moreToCells_15 : decode cMO_moreToCells 15 = .ok (.ifCond .ne 35, 3) := by decide +kernel
theorem dMO_moreToCells_18 : decode cMO_moreToCells 18 = .ok (.aload_n 0, 1) := by decide +kernel
theorem dMO_moreToCells_19 : decode cMO_moreToCells 19 = .ok (.getfield 25, 3) := by decide +kernel
theorem dMO_moreToCells_22 : decode cMO_moreToCells 22 = .ok (.sipush 200, 3) := by decide +kernel
theorem dMO_moreToCells_25 : decode cMO_moreToCells 25 = .ok (.iload_n 1, 1) := by decide +kernel
theorem dMO_moreToCells_26 : decode cMO_moreToCells 26 = .ok (.imul, 1) := by decide +kernel
theorem dMO_moreToCells_27 : decode cMO_moreToCells 27 = .ok (.iload 4, 2) := by decide +kernel
theorem dMO_moreToCells_29 : decode cMO_moreToCells 29 = .ok (.iadd, 1) := by decide +kernel
theorem dMO_moreToCells_30 : decode cMO_moreToCells 30 = .ok (.baload, 1) := by decide +kernel
theorem dMO_moreToCells_31 : decode cMO_moreToCells 31 = .ok (.ifCond .eq 23, 3) := by decide +kernel
theorem dMO_moreToCells_34 : decode cMO_moreToCells 34 = .ok (.aload_n 0, 1) := by decide +kernel
theorem dMO_moreToCells_35 : decode cMO_moreToCells 35 = .ok (.getfield 30, 3) := by decide +kernel
theorem dMO_moreToCells_38 : decode cMO_moreToCells 38 = .ok (.sipush 200, 3) := by decide +kernel
theorem dMO_moreToCells_41 : decode cMO_moreToCells 41 = .ok (.iload_n 2, 1) := by decide +kernel
theorem dMO_moreToCells_42 : decode cMO_moreToCells 42 = .ok (.imul, 1) := by decide +kernel
theorem dMO_moreToCells_43 : decode cMO_moreToCells 43 = .ok (.iload 4, 2) := by decide +kernel
theorem dMO_moreToCells_45 : decode cMO_moreToCells 45 = .ok (.iadd, 1) := by decide +kernel
theorem dMO_moreToCells_46 : decode cMO_moreToCells 46 = .ok (.baload, 1) := by decide +kernel
theorem dMO_moreToCells_47 : decode cMO_moreToCells 47 = .ok (.ifCond .ne 7, 3) := by decide +kernel
theorem dMO_moreToCells_50 : decode cMO_moreToCells 50 = .ok (.iconst 1, 1) := by decide +kernel
theorem dMO_moreToCells_51 : decode cMO_moreToCells 51 = .ok (.goto 4, 3) := by decide +kernel
theorem dMO_moreToCells_54 : decode cMO_moreToCells 54 = .ok (.iconst 0, 1) := by decide +kernel
theorem dMO_moreToCells_55 : decode cMO_moreToCells 55 = .ok (.istore_n 3, 1) := by decide +kernel
theorem dMO_moreToCells_56 : decode cMO_moreToCells 56 = .ok (.aload_n 0, 1) := by decide +kernel
theorem dMO_moreToCells_57 : decode cMO_moreToCells 57 = .ok (.getfield 30, 3) := by decide +kernel
theorem dMO_moreToCells_60 : decode cMO_moreToCells 60 = .ok (.sipush 200, 3) := by decide +kernel
theorem dMO_moreToCells_63 : decode cMO_moreToCells 63 = .ok (.iload_n 2, 1) := by decide +kernel
theorem dMO_moreToCells_64 : decode cMO_moreToCells 64 = .ok (.imul, 1) := by decide +kernel
theorem dMO_moreToCells_65 : decode cMO_moreToCells 65 = .ok (.iload 4, 2) := by decide +kernel
theorem dMO_moreToCells_67 : decode cMO_moreToCells 67 = .ok (.iadd, 1) := by decide +kernel
theorem dMO_moreToCells_68 : decode cMO_moreToCells 68 = .ok (.aload_n 0, 1) := by decide +kernel
theorem dMO_moreToCells_69 : decode cMO_moreToCells 69 = .ok (.getfield 30, 3) := by decide +kernel
theorem dMO_moreToCells_72 : decode cMO_moreToCells 72 = .ok (.sipush 200, 3) := by decide +kernel
theorem dMO_moreToCells_75 : decode cMO_moreToCells 75 = .ok (.iload_n 2, 1) := by decide +kernel
theorem dMO_moreToCells_76 : decode cMO_moreToCells 76 = .ok (.imul, 1) := by decide +kernel
theorem dMO_moreToCells_77 : decode cMO_moreToCells 77 = .ok (.iload 4, 2) := by decide +kernel
theorem dMO_moreToCells_79 : decode cMO_moreToCells 79 = .ok (.iadd, 1) := by decide +kernel
theorem dMO_moreToCells_80 : decode cMO_moreToCells 80 = .ok (.baload, 1) := by decide +kernel
theorem dMO_moreToCells_81 : decode cMO_moreToCells 81 = .ok (.ifCond .ne 19, 3) := by decide +kernel
theorem dMO_moreToCells_84 : decode cMO_moreToCells 84 = .ok (.aload_n 0, 1) := by decide +kernel
theorem dMO_moreToCells_85 : decode cMO_moreToCells 85 = .ok (.getfield 25, 3) := by decide +kernel
theorem dMO_moreToCells_88 : decode cMO_moreToCells 88 = .ok (.sipush 200, 3) := by decide +kernel
theorem dMO_moreToCells_91 : decode cMO_moreToCells 91 = .ok (.iload_n 1, 1) := by decide +kernel
theorem dMO_moreToCells_92 : decode cMO_moreToCells 92 = .ok (.imul, 1) := by decide +kernel
theorem dMO_moreToCells_93 : decode cMO_moreToCells 93 = .ok (.iload 4, 2) := by decide +kernel
theorem dMO_moreToCells_95 : decode cMO_moreToCells 95 = .ok (.iadd, 1) := by decide +kernel
theorem dMO_moreToCells_96 : decode cMO_moreToCells 96 = .ok (.baload, 1) := by decide +kernel
theorem dMO_moreToCells_97 : decode cMO_moreToCells 97 = .ok (.ifCond .eq 7, 3) := by decide +kernel
theorem dMO_moreToCells_100 : decode cMO_moreToCells 100 = .ok (.iconst 1, 1) := by decide +kernel
theorem dMO_moreToCells_101 : decode cMO_moreToCells 101 = .ok (.goto 4, 3) := by decide +kernel
theorem dMO_moreToCells_104 : decode cMO_moreToCells 104 = .ok (.iconst 0, 1) := by decide +kernel
theorem dMO_moreToCells_105 : decode cMO_moreToCells 105 = .ok (.bastore, 1) := by decide +kernel
theorem dMO_moreToCells_106 : decode cMO_moreToCells 106 = .ok (.iinc 4 1, 3) := by decide +kernel
theorem dMO_moreToCells_109 : decode cMO_moreToCells 109 = .ok (.goto (-104), 3) := by decide +kernel
theorem dMO_moreToCells_112 : decode cMO_moreToCells 112 = .ok (.iload_n 3, 1) := by decide +kernel
theorem dMO_moreToCells_113 : decode cMO_moreToCells 113 = .ok (.ireturn, 1) := by decide +kernel
theorem dMO_findSets_0 : decode cMO_findSets 0 = .ok (.iconst 0, 1) := by decide +kernel
theorem dMO_findSets_1 : decode cMO_findSets 1 = .ok (.istore_n 1, 1) := by decide +kernel
theorem dMO_findSets_2 : decode cMO_findSets 2 = .ok (.iload_n 1, 1) := by decide +kernel
theorem dMO_findSets_3 : decode cMO_findSets 3 = .ok (.sipush 3200, 3) := by decide +kernel
theorem dMO_findSets_6 : decode cMO_findSets 6 = .ok (.if_icmp .ge 16, 3) := by decide +kernel
theorem dMO_findSets_9 : decode cMO_findSets 9 = .ok (.aload_n 0, 1) := by decide +kernel
theorem dMO_findSets_10 : decode cMO_findSets 10 = .ok (.getfield 25, 3) := by decide +kernel
theorem dMO_findSets_13 : decode cMO_findSets 13 = .ok (.iload_n 1, 1) := by decide +kernel
theorem dMO_findSets_14 : decode cMO_findSets 14 = .ok (.iconst 0, 1) := by decide +kernel
theorem dMO_findSets_15 : decode cMO_findSets 15 = .ok (.bastore, 1) := by decide +kernel
theorem dMO_findSets_16 : decode cMO_findSets 16 = .ok (.iinc 1 1, 3) := by decide +kernel
theorem dMO_findSets_19 : decode cMO_findSets 19 = .ok (.goto (-17), 3) := by decide +kernel
theorem dMO_findSets_22 : decode cMO_findSets 22 = .ok (.iconst 0, 1) := by decide +kernel
theorem dMO_findSets_23 : decode cMO_findSets 23 = .ok (.istore_n 1, 1) := by decide +kernel
theorem dMO_findSets_24 : decode cMO_findSets 24 = .ok (.iload_n 1, 1) := by decide +kernel
theorem dMO_findSets_25 : decode cMO_findSets 25 = .ok (.ldc 29, 2) := by decide +kernel
theorem dMO_findSets_27 : decode cMO_findSets 27 = .ok (.if_icmp .ge 16, 3) := by decide +kernel
theorem dMO_findSets_30 : decode cMO_findSets 30 = .ok (.aload_n 0, 1) := by decide +kernel
theorem dMO_findSets_31 : decode cMO_findSets 31 = .ok (.getfield 30, 3) := by decide +kernel
theorem dMO_findSets_34 : decode cMO_findSets 34 = .ok (.iload_n 1, 1) := by decide +kernel
theorem dMO_findSets_35 : decode cMO_findSets 35 = .ok (.iconst 0, 1) := by decide +kernel
theorem dMO_findSets_36 : decode cMO_findSets 36 = .ok (.bastore, 1) := by decide +kernel
theorem dMO_findSets_37 : decode cMO_findSets 37 = .ok (.iinc 1 1, 3) := by decide +kernel
theorem dMO_findSets_40 : decode cMO_findSets 40 = .ok (.goto (-16), 3) := by decide +kernel
theorem dMO_findSets_43 : decode cMO_findSets 43 = .ok (.iconst 1, 1) := by decide +kernel
theorem dMO_findSets_44 : decode cMO_findSets 44 = .ok (.istore_n 1, 1) := by decide +kernel
theorem dMO_findSets_45 : decode cMO_findSets 45 = .ok (.iload_n 1, 1) := by decide +kernel
theorem dMO_findSets_46 : decode cMO_findSets 46 = .ok (.ifCond .eq 246, 3) := by decide +kernel
theorem dMO_findSets_49 : decode cMO_findSets 49 = .ok (.iconst 0, 1) := by decide +kernel
theorem dMO_findSets_50 : decode cMO_findSets 50 = .ok (.istore_n 1, 1) := by decide +kernel
theorem dMO_findSets_51 : decode cMO_findSets 51 = .ok (.iconst 0, 1) := by decide +kernel
theorem dMO_findSets_52 : decode cMO_findSets 52 = .ok (.istore_n 2, 1) := by decide +kernel
theorem dMO_findSets_53 : decode cMO_findSets 53 = .ok (.iload_n 2, 1) := by decide +kernel
theorem dMO_findSets_54 : decode cMO_findSets 54 = .ok (.aload_n 0, 1) := by decide +kernel
theorem dMO_findSets_55 : decode cMO_findSets 55 = .ok (.getfield 94, 3) := by decide +kernel
theorem dMO_findSets_58 : decode cMO_findSets 58 = .ok (.if_icmp .ge 231, 3) := by decide +kernel
theorem dMO_findSets_61 : decode cMO_findSets 61 = .ok (.aload_n 0, 1) := by decide +kernel
theorem dMO_findSets_62 : decode cMO_findSets 62 = .ok (.getfield 7, 3) := by decide +kernel
theorem dMO_findSets_65 : decode cMO_findSets 65 = .ok (.aload_n 0, 1) := by decide +kernel
theorem dMO_findSets_66 : decode cMO_findSets 66 = .ok (.getfield 101, 3) := by decide +kernel
theorem dMO_findSets_69 : decode cMO_findSets 69 = .ok (.iload_n 2, 1) := by decide +kernel
theorem dMO_findSets_70 : decode cMO_findSets 70 = .ok (.iadd, 1) := by decide +kernel
theorem dMO_findSets_71 : decode cMO_findSets 71 = .ok (.iaload, 1) := by decide +kernel
theorem dMO_findSets_72 : decode cMO_findSets 72 = .ok (.istore_n 3, 1) := by decide +kernel
theorem dMO_findSets_73 : decode cMO_findSets 73 = .ok (.aload_n 0, 1) := by decide +kernel
theorem dMO_findSets_74 : decode cMO_findSets 74 = .ok (.getfield 13, 3) := by decide +kernel
theorem dMO_findSets_77 : decode cMO_findSets 77 = .ok (.aload_n 0, 1) := by decide +kernel
theorem dMO_findSets_78 : decode cMO_findSets 78 = .ok (.getfield 101, 3) := by decide +kernel
theorem dMO_findSets_81 : decode cMO_findSets 81 = .ok (.iload_n 2, 1) := by decide +kernel
theorem dMO_findSets_82 : decode cMO_findSets 82 = .ok (.iadd, 1) := by decide +kernel
theorem dMO_findSets_83 : decode cMO_findSets 83 = .ok (.iaload, 1) := by decide +kernel
theorem dMO_findSets_84 : decode cMO_findSets 84 = .ok (.istore 4, 2) := by decide +kernel
theorem dMO_findSets_86 : decode cMO_findSets 86 = .ok (.aload_n 0, 1) := by decide +kernel
theorem dMO_findSets_87 : decode cMO_findSets 87 = .ok (.getfield 16, 3) := by decide +kernel
theorem dMO_findSets_90 : decode cMO_findSets 90 = .ok (.aload_n 0, 1) := by decide +kernel
theorem dMO_findSets_91 : decode cMO_findSets 91 = .ok (.getfield 101, 3) := by decide +kernel
theorem dMO_findSets_94 : decode cMO_findSets 94 = .ok (.iload_n 2, 1) := by decide +kernel
theorem dMO_findSets_95 : decode cMO_findSets 95 = .ok (.iadd, 1) := by decide +kernel
theorem dMO_findSets_96 : decode cMO_findSets 96 = .ok (.iaload, 1) := by decide +kernel
theorem dMO_findSets_97 : decode cMO_findSets 97 = .ok (.istore 5, 2) := by decide +kernel
theorem dMO_findSets_99 : decode cMO_findSets 99 = .ok (.iload_n 3, 1) := by decide +kernel
theorem dMO_findSets_100 : decode cMO_findSets 100 = .ok (.bipush 8, 2) := by decide +kernel
theorem dMO_findSets_102 : decode cMO_findSets 102 = .ok (.if_icmp .ne 43, 3) := by decide +kernel
theorem dMO_findSets_105 : decode cMO_findSets 105 = .ok (.iload_n 1, 1) := by decide +kernel
theorem dMO_findSets_106 : decode cMO_findSets 106 = .ok (.ifCond .ne 19, 3) := by decide +kernel
theorem dMO_findSets_109 : decode cMO_findSets 109 = .ok (.aload_n 0, 1) := by decide +kernel
theorem dMO_findSets_110 : decode cMO_findSets 110 = .ok (.getfield 25, 3) := by decide +kernel
theorem dMO_findSets_113 : decode cMO_findSets 113 = .ok (.sipush 200, 3) := by decide +kernel
theorem dMO_findSets_116 : decode cMO_findSets 116 = .ok (.iload 4, 2) := by decide +kernel
theorem dMO_findSets_118 : decode cMO_findSets 118 = .ok (.imul, 1) := by decide +kernel
theorem dMO_findSets_119 : decode cMO_findSets 119 = .ok (.iload_n 2, 1) := by decide +kernel
theorem dMO_findSets_120 : decode cMO_findSets 120 = .ok (.iadd, 1) := by decide +kernel
theorem dMO_findSets_121 : decode cMO_findSets 121 = .ok (.baload, 1) := by decide +kernel
theorem dMO_findSets_122 : decode cMO_findSets 122 = .ok (.ifCond .ne 7, 3) := by decide +kernel
theorem dMO_findSets_125 : decode cMO_findSets 125 = .ok (.iconst 1, 1) := by decide +kernel
theorem dMO_findSets_126 : decode cMO_findSets 126 = .ok (.goto 4, 3) := by decide +kernel
theorem dMO_findSets_129 : decode cMO_findSets 129 = .ok (.iconst 0, 1) := by decide +kernel
theorem dMO_findSets_130 : decode cMO_findSets 130 = .ok (.istore_n 1, 1) := by decide +kernel
theorem dMO_findSets_131 : decode cMO_findSets 131 = .ok (.aload_n 0, 1) := by decide +kernel
theorem dMO_findSets_132 : decode cMO_findSets 132 = .ok (.getfield 25, 3) := by decide +kernel
theorem dMO_findSets_135 : decode cMO_findSets 135 = .ok (.sipush 200, 3) := by decide +kernel
theorem dMO_findSets_138 : decode cMO_findSets 138 = .ok (.iload 4, 2) := by decide +kernel
theorem dMO_findSets_140 : decode cMO_findSets 140 = .ok (.imul, 1) := by decide +kernel
theorem dMO_findSets_141 : decode cMO_findSets 141 = .ok (.iload_n 2, 1) := by decide +kernel
theorem dMO_findSets_142 : decode cMO_findSets 142 = .ok (.iadd, 1) := by decide +kernel
theorem dMO_findSets_143 : decode cMO_findSets 143 = .ok (.iconst 1, 1) := by decide +kernel
theorem dMO_findSets_144 : decode cMO_findSets 144 = .ok (.bastore, 1) := by decide +kernel
theorem dMO_findSets_145 : decode cMO_findSets 145 = .ok (.iload_n 3, 1) := by decide +kernel
theorem dMO_findSets_146 : decode cMO_findSets 146 = .ok (.iconst 1, 1) := by decide +kernel
theorem dMO_findSets_147 : decode cMO_findSets 147 = .ok (.if_icmp .eq 9, 3) := by decide +kernel
theorem dMO_findSets_150 : decode cMO_findSets 150 = .ok (.iload_n 3, 1) := by decide +kernel
theorem dMO_findSets_151 : decode cMO_findSets 151 = .ok (.bipush 7, 2) := by decide +kernel
theorem dMO_findSets_153 : decode cMO_findSets 153 = .ok (.if_icmp .ne 24, 3) := by decide +kernel
theorem dMO_findSets_156 : decode cMO_findSets 156 = .ok (.aload_n 0, 1) := by decide +kernel
theorem dMO_findSets_157 : decode cMO_findSets 157 = .ok (.iload 5, 2) := by decide +kernel
theorem dMO_findSets_159 : decode cMO_findSets 159 = .ok (.iload 4, 2) := by decide +kernel
theorem dMO_findSets_161 : decode cMO_findSets 161 = .ok (.invokevirtual 104, 3) := by decide +kernel
theorem dMO_findSets_164 : decode cMO_findSets 164 = .ok (.ifCond .ne 7, 3) := by decide +kernel
theorem dMO_findSets_167 : decode cMO_findSets 167 = .ok (.iload_n 1, 1) := by decide +kernel
theorem dMO_findSets_168 : decode cMO_findSets 168 = .ok (.ifCond .eq 7, 3) := by decide +kernel
theorem dMO_findSets_171 : decode cMO_findSets 171 = .ok (.iconst 1, 1) := by decide +kernel
theorem dMO_findSets_172 : decode cMO_findSets 172 = .ok (.goto 4, 3) := by decide +kernel
theorem dMO_findSets_175 : decode cMO_findSets 175 = .ok (.iconst 0, 1) := by decide +kernel
theorem dMO_findSets_176 : decode cMO_findSets 176 = .ok (.istore_n 1, 1) := by decide +kernel
theorem dMO_findSets_177 : decode cMO_findSets 177 = .ok (.iconst 0, 1) := by decide +kernel
theorem dMO_findSets_178 : decode cMO_findSets 178 = .ok (.istore 6, 2) := by decide +kernel
theorem dMO_findSets_180 : decode cMO_findSets 180 = .ok (.iload 6, 2) := by decide +kernel
theorem dMO_findSets_182 : decode cMO_findSets 182 = .ok (.aload_n 0, 1) := by decide +kernel
theorem dMO_findSets_183 : decode cMO_findSets 183 = .ok (.getfield 94, 3) := by decide +kernel
theorem dMO_findSets_186 : decode cMO_findSets 186 = .ok (.if_icmp .ge 97, 3) := by decide +kernel
theorem dMO_findSets_189 : decode cMO_findSets 189 = .ok (.iload_n 3, 1) := by decide +kernel
theorem dMO_findSets_190 : decode cMO_findSets 190 = .ok (.bipush 9, 2) := by decide +kernel
theorem dMO_findSets_192 : decode cMO_findSets 192 = .ok (.if_icmp .ne 41, 3) := by decide +kernel
theorem dMO_findSets_195 : decode cMO_findSets 195 = .ok (.aload_n 0, 1) := by decide +kernel
theorem dMO_findSets_196 : decode cMO_findSets 196 = .ok (.getfield 25, 3) := by decide +kernel
theorem dMO_findSets_199 : decode cMO_findSets 199 = .ok (.sipush 200, 3) := by decide +kernel
theorem dMO_findSets_202 : decode cMO_findSets 202 = .ok (.iload 5, 2) := by decide +kernel
theorem dMO_findSets_204 : decode cMO_findSets 204 = .ok (.imul, 1) := by decide +kernel
theorem dMO_findSets_205 : decode cMO_findSets 205 = .ok (.iload 6, 2) := by decide +kernel
theorem dMO_findSets_207 : decode cMO_findSets 207 = .ok (.iadd, 1) := by decide +kernel
theorem dMO_findSets_208 : decode cMO_findSets 208 = .ok (.baload, 1) := by decide +kernel
theorem dMO_findSets_209 : decode cMO_findSets 209 = .ok (.ifCond .eq 24, 3) := by decide +kernel
theorem dMO_findSets_212 : decode cMO_findSets 212 = .ok (.aload_n 0, 1) := by decide +kernel
theorem dMO_findSets_213 : decode cMO_findSets 213 = .ok (.iload 6, 2) := by decide +kernel
theorem dMO_findSets_215 : decode cMO_findSets 215 = .ok (.iload 4, 2) := by decide +kernel
theorem dMO_findSets_217 : decode cMO_findSets 217 = .ok (.invokevirtual 108, 3) := by decide +kernel
theorem dMO_findSets_220 : decode cMO_findSets 220 = .ok (.ifCond .ne 7, 3) := by decide +kernel
theorem dMO_findSets_223 : decode cMO_findSets 223 = .ok (.iload_n 1, 1) := by decide +kernel
theorem dMO_findSets_224 : decode cMO_findSets 224 = .ok (.ifCond .eq 7, 3) := by decide +kernel
theorem dMO_findSets_227 : decode cMO_findSets 227 = .ok (.iconst 1, 1) := by decide +kernel
theorem dMO_findSets_228 : decode cMO_findSets 228 = .ok (.goto 4, 3) := by decide +kernel
theorem dMO_findSets_231 : decode cMO_findSets 231 = .ok (.iconst 0, 1) := by decide +kernel
theorem dMO_findSets_232 : decode cMO_findSets 232 = .ok (.istore_n 1, 1) := by decide +kernel
theorem dMO_findSets_233 : decode cMO_findSets 233 = .ok (.iload_n 3, 1) := by decide +kernel
theorem dMO_findSets_234 : decode cMO_findSets 234 = .ok (.bipush 10, 2) := by decide +kernel
theorem dMO_findSets_236 : decode cMO_findSets 236 = .ok (.if_icmp .ne 41, 3) := by decide +kernel
theorem dMO_findSets_239 : decode cMO_findSets 239 = .ok (.aload_n 0, 1) := by decide +kernel
theorem dMO_findSets_240 : decode cMO_findSets 240 = .ok (.getfield 25, 3) := by decide +kernel
theorem dMO_findSets_243 : decode cMO_findSets 243 = .ok (.sipush 200, 3) := by decide +kernel
theorem dMO_findSets_246 : decode cMO_findSets 246 = .ok (.iload 4, 2) := by decide +kernel
theorem dMO_findSets_248 : decode cMO_findSets 248 = .ok (.imul, 1) := by decide +kernel
theorem dMO_findSets_249 : decode cMO_findSets 249 = .ok (.iload 6, 2) := by decide +kernel
theorem dMO_findSets_251 : decode cMO_findSets 251 = .ok (.iadd, 1) := by decide +kernel
theorem dMO_findSets_252 : decode cMO_findSets 252 = .ok (.baload, 1) := by decide +kernel
theorem dMO_findSets_253 : decode cMO_findSets 253 = .ok (.ifCond .eq 24, 3) := by decide +kernel
theorem dMO_findSets_256 : decode cMO_findSets 256 = .ok (.aload_n 0, 1) := by decide +kernel
theorem dMO_findSets_257 : decode cMO_findSets 257 = .ok (.iload 5, 2) := by decide +kernel
theorem dMO_findSets_259 : decode cMO_findSets 259 = .ok (.iload 6, 2) := by decide +kernel
theorem dMO_findSets_261 : decode cMO_findSets 261 = .ok (.invokevirtual 111, 3) := by decide +kernel
theorem dMO_findSets_264 : decode cMO_findSets 264 = .ok (.ifCond .ne 7, 3) := by decide +kernel
theorem dMO_findSets_267 : decode cMO_findSets 267 = .ok (.iload_n 1, 1) := by decide +kernel
theorem dMO_findSets_268 : decode cMO_findSets 268 = .ok (.ifCond .eq 7, 3) := by decide +kernel
theorem dMO_findSets_271 : decode cMO_findSets 271 = .ok (.iconst 1, 1) := by decide +kernel
theorem dMO_findSets_272 : decode cMO_findSets 272 = .ok (.goto 4, 3) := by decide +kernel
theorem dMO_findSets_275 : decode cMO_findSets 275 = .ok (.iconst 0, 1) := by decide +kernel
theorem dMO_findSets_276 : decode cMO_findSets 276 = .ok (.istore_n 1, 1) := by decide +kernel
theorem dMO_findSets_277 : decode cMO_findSets 277 = .ok (.iinc 6 1, 3) := by decide +kernel
theorem dMO_findSets_280 : decode cMO_findSets 280 = .ok (.goto (-100), 3) := by decide +kernel
theorem dMO_findSets_283 : decode cMO_findSets 283 = .ok (.iinc 2 1, 3) := by decide +kernel
theorem dMO_findSets_286 : decode cMO_findSets 286 = .ok (.goto (-233), 3) := by decide +kernel
theorem dMO_findSets_289 : decode cMO_findSets 289 = .ok (.goto (-244), 3) := by decide +kernel
theorem dMO_findSets_292 : decode cMO_findSets 292 = .ok (.return_, 1) := by decide +kernel
theorem dMO_meet_0 : decode cMO_meet 0 = .ok (.iconst 0, 1) := by decide +kernel
theorem dMO_meet_1 : decode cMO_meet 1 = .ok (.istore_n 3, 1) := by decide +kernel
theorem dMO_meet_2 : decode cMO_meet 2 = .ok (.iconst 0, 1) := by decide +kernel
theorem dMO_meet_3 : decode cMO_meet 3 = .ok (.istore 4, 2) := by decide +kernel
theorem dMO_meet_5 : decode cMO_meet 5 = .ok (.iload 4, 2) := by decide +kernel
theorem dMO_meet_7 : decode cMO_meet 7 = .ok (.aload_n 0, 1) := by decide +kernel
theorem dMO_meet_8 : decode cMO_meet 8 = .ok (.getfield 94, 3) := by decide +kernel
theorem dMO_meet_11 : decode cMO_meet 11 = .ok (.if_icmp .ge 51, 3) := by decide +kernel
theorem dMO_meet_14 : decode cMO_meet 14 = .ok (.iload_n 3, 1) := by decide +kernel
theorem dMO_meet_15 : decode cMO_meet 15 = .ok (.ifCond .ne 35, 3) := by decide +kernel
theorem dMO_meet_18 : decode cMO_meet 18 = .ok (.aload_n 0, 1) := by decide +kernel
theorem dMO_meet_19 : decode cMO_meet 19 = .ok (.getfield 25, 3) := by decide +kernel
theorem dMO_meet_22 : decode cMO_meet 22 = .ok (.sipush 200, 3) := by decide +kernel
theorem dMO_meet_25 : decode cMO_meet 25 = .ok (.iload_n 1, 1) := by decide +kernel
theorem dMO_meet_26 : decode cMO_meet 26 = .ok (.imul, 1) := by decide +kernel
theorem dMO_meet_27 : decode cMO_meet 27 = .ok (.iload 4, 2) := by decide +kernel
theorem dMO_meet_29 : decode cMO_meet 29 = .ok (.iadd, 1) := by decide +kernel
theorem dMO_meet_30 : decode cMO_meet 30 = .ok (.baload, 1) := by decide +kernel
theorem dMO_meet_31 : decode cMO_meet 31 = .ok (.ifCond .eq 23, 3) := by decide +kernel
theorem dMO_meet_34 : decode cMO_meet 34 = .ok (.aload_n 0, 1) := by decide +kernel
theorem dMO_meet_35 : decode cMO_meet 35 = .ok (.getfield 25, 3) := by decide +kernel
theorem dMO_meet_38 : decode cMO_meet 38 = .ok (.sipush 200, 3) := by decide +kernel
theorem dMO_meet_41 : decode cMO_meet 41 = .ok (.iload_n 2, 1) := by decide +kernel
theorem dMO_meet_42 : decode cMO_meet 42 = .ok (.imul, 1) := by decide +kernel
theorem dMO_meet_43 : decode cMO_meet 43 = .ok (.iload 4, 2) := by decide +kernel
theorem dMO_meet_45 : decode cMO_meet 45 = .ok (.iadd, 1) := by decide +kernel
theorem dMO_meet_46 : decode cMO_meet 46 = .ok (.baload, 1) := by decide +kernel
theorem dMO_meet_47 : decode cMO_meet 47 = .ok (.ifCond .eq 7, 3) := by decide +kernel
theorem dMO_meet_50 : decode cMO_meet 50 = .ok (.iconst 1, 1) := by decide +kernel
theorem dMO_meet_51 : decode cMO_meet 51 = .ok (.goto 4, 3) := by decide +kernel
theorem dMO_meet_54 : decode cMO_meet 54 = .ok (.iconst 0, 1) := by decide +kernel
theorem dMO_meet_55 : decode cMO_meet 55 = .ok (.istore_n 3, 1) := by decide +kernel
theorem dMO_meet_56 : decode cMO_meet 56 = .ok (.iinc 4 1, 3) := by decide +kernel
theorem dMO_meet_59 : decode cMO_meet 59 = .ok (.goto (-54), 3) := by decide +kernel
theorem dMO_meet_62 : decode cMO_meet 62 = .ok (.iload_n 3, 1) := by decide +kernel
theorem dMO_meet_63 : decode cMO_meet 63 = .ok (.ireturn, 1) := by decide +kernel
theorem dMO_findReached_0 : decode cMO_findReached 0 = .ok (.iconst 0, 1) := by decide +kernel
theorem dMO_findReached_1 : decode cMO_findReached 1 = .ok (.istore_n 1, 1) := by decide +kernel
theorem dMO_findReached_2 : decode cMO_findReached 2 = .ok (.iload_n 1, 1) := by decide +kernel
theorem dMO_findReached_3 : decode cMO_findReached 3 = .ok (.sipush 200, 3) := by decide +kernel
theorem dMO_findReached_6 : decode cMO_findReached 6 = .ok (.if_icmp .gt 24, 3) := by decide +kernel
theorem dMO_findReached_9 : decode cMO_findReached 9 = .ok (.aload_n 0, 1) := by decide +kernel
theorem dMO_findReached_10 : decode cMO_findReached 10 = .ok (.getfield 33, 3) := by decide +kernel
theorem dMO_findReached_13 : decode cMO_findReached 13 = .ok (.iload_n 1, 1) := by decide +kernel
theorem dMO_findReached_14 : decode cMO_findReached 14 = .ok (.iload_n 1, 1) := by decide +kernel
theorem dMO_findReached_15 : decode cMO_findReached 15 = .ok (.ifCond .ne 7, 3) := by decide +kernel
theorem dMO_findReached_18 : decode cMO_findReached 18 = .ok (.iconst 1, 1) := by decide +kernel
theorem dMO_findReached_19 : decode cMO_findReached 19 = .ok (.goto 4, 3) := by decide +kernel
theorem dMO_findReached_22 : decode cMO_findReached 22 = .ok (.iconst 0, 1) := by decide +kernel
theorem dMO_findReached_23 : decode cMO_findReached 23 = .ok (.bastore, 1) := by decide +kernel
theorem dMO_findReached_24 : decode cMO_findReached 24 = .ok (.iinc 1 1, 3) := by decide +kernel
theorem dMO_findReached_27 : decode cMO_findReached 27 = .ok (.goto (-25), 3) := by decide +kernel
theorem dMO_findReached_30 : decode cMO_findReached 30 = .ok (.iconst 1, 1) := by decide +kernel
theorem dMO_findReached_31 : decode cMO_findReached 31 = .ok (.istore_n 1, 1) := by decide +kernel
theorem dMO_findReached_32 : decode cMO_findReached 32 = .ok (.iload_n 1, 1) := by decide +kernel
theorem dMO_findReached_33 : decode cMO_findReached 33 = .ok (.ifCond .eq 80, 3) := by decide +kernel
theorem dMO_findReached_36 : decode cMO_findReached 36 = .ok (.iconst 0, 1) := by decide +kernel
theorem dMO_findReached_37 : decode cMO_findReached 37 = .ok (.istore_n 1, 1) := by decide +kernel
theorem dMO_findReached_38 : decode cMO_findReached 38 = .ok (.iconst 0, 1) := by decide +kernel
theorem dMO_findReached_39 : decode cMO_findReached 39 = .ok (.istore_n 2, 1) := by decide +kernel
theorem dMO_findReached_40 : decode cMO_findReached 40 = .ok (.iload_n 2, 1) := by decide +kernel
theorem dMO_findReached_41 : decode cMO_findReached 41 = .ok (.aload_n 0, 1) := by decide +kernel
theorem dMO_findReached_42 : decode cMO_findReached 42 = .ok (.getfield 94, 3) := by decide +kernel
theorem dMO_findReached_45 : decode cMO_findReached 45 = .ok (.if_icmp .ge 65, 3) := by decide +kernel
theorem dMO_findReached_48 : decode cMO_findReached 48 = .ok (.iconst 0, 1) := by decide +kernel
theorem dMO_findReached_49 : decode cMO_findReached 49 = .ok (.istore_n 3, 1) := by decide +kernel
theorem dMO_findReached_50 : decode cMO_findReached 50 = .ok (.iload_n 3, 1) := by decide +kernel
theorem dMO_findReached_51 : decode cMO_findReached 51 = .ok (.iconst 2, 1) := by decide +kernel
theorem dMO_findReached_52 : decode cMO_findReached 52 = .ok (.if_icmp .ge 52, 3) := by decide +kernel
theorem dMO_findReached_55 : decode cMO_findReached 55 = .ok (.aload_n 0, 1) := by decide +kernel
theorem dMO_findReached_56 : decode cMO_findReached 56 = .ok (.iload_n 2, 1) := by decide +kernel
theorem dMO_findReached_57 : decode cMO_findReached 57 = .ok (.iload_n 3, 1) := by decide +kernel
theorem dMO_findReached_58 : decode cMO_findReached 58 = .ok (.invokevirtual 114, 3) := by decide +kernel
theorem dMO_findReached_61 : decode cMO_findReached 61 = .ok (.istore 4, 2) := by decide +kernel
theorem dMO_findReached_63 : decode cMO_findReached 63 = .ok (.aload_n 0, 1) := by decide +kernel
theorem dMO_findReached_64 : decode cMO_findReached 64 = .ok (.getfield 33, 3) := by decide +kernel
theorem dMO_findReached_67 : decode cMO_findReached 67 = .ok (.iload_n 2, 1) := by decide +kernel
theorem dMO_findReached_68 : decode cMO_findReached 68 = .ok (.baload, 1) := by decide +kernel
theorem dMO_findReached_69 : decode cMO_findReached 69 = .ok (.ifCond .eq 29, 3) := by decide +kernel
theorem dMO_findReached_72 : decode cMO_findReached 72 = .ok (.iload 4, 2) := by decide +kernel
theorem dMO_findReached_74 : decode cMO_findReached 74 = .ok (.iconst (-1), 1) := by decide +kernel
theorem dMO_findReached_75 : decode cMO_findReached 75 = .ok (.if_icmp .eq 23, 3) := by decide +kernel
theorem dMO_findReached_78 : decode cMO_findReached 78 = .ok (.aload_n 0, 1) := by decide +kernel
theorem dMO_findReached_79 : decode cMO_findReached 79 = .ok (.getfield 33, 3) := by decide +kernel
theorem dMO_findReached_82 : decode cMO_findReached 82 = .ok (.iload 4, 2) := by decide +kernel
theorem dMO_findReached_84 : decode cMO_findReached 84 = .ok (.baload, 1) := by decide +kernel
theorem dMO_findReached_85 : decode cMO_findReached 85 = .ok (.ifCond .ne 13, 3) := by decide +kernel
theorem dMO_findReached_88 : decode cMO_findReached 88 = .ok (.aload_n 0, 1) := by decide +kernel
theorem dMO_findReached_89 : decode cMO_findReached 89 = .ok (.getfield 33, 3) := by decide +kernel
theorem dMO_findReached_92 : decode cMO_findReached 92 = .ok (.iload 4, 2) := by decide +kernel
theorem dMO_findReached_94 : decode cMO_findReached 94 = .ok (.iconst 1, 1) := by decide +kernel
theorem dMO_findReached_95 : decode cMO_findReached 95 = .ok (.bastore, 1) := by decide +kernel
theorem dMO_findReached_96 : decode cMO_findReached 96 = .ok (.iconst 1, 1) := by decide +kernel
theorem dMO_findReached_97 : decode cMO_findReached 97 = .ok (.istore_n 1, 1) := by decide +kernel
theorem dMO_findReached_98 : decode cMO_findReached 98 = .ok (.iinc 3 1, 3) := by decide +kernel
theorem dMO_findReached_101 : decode cMO_findReached 101 = .ok (.goto (-51), 3) := by decide +kernel
theorem dMO_findReached_104 : decode cMO_findReached 104 = .ok (.iinc 2 1, 3) := by decide +kernel
theorem dMO_findReached_107 : decode cMO_findReached 107 = .ok (.goto (-67), 3) := by decide +kernel
theorem dMO_findReached_110 : decode cMO_findReached 110 = .ok (.goto (-78), 3) := by decide +kernel
theorem dMO_findReached_113 : decode cMO_findReached 113 = .ok (.return_, 1) := by decide +kernel
