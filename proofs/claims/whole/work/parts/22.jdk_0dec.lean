theorem dAR_fill_AIIV_0 : decode cAR_fill_AIIV 0 = .ok (.iconst 0, 1) := by decide +kernel
theorem dAR_fill_AIIV_1 : decode cAR_fill_AIIV 1 = .ok (.istore_n 2, 1) := by decide +kernel
theorem dAR_fill_AIIV_2 : decode cAR_fill_AIIV 2 = .ok (.aload_n 0, 1) := by decide +kernel
theorem dAR_fill_AIIV_3 : decode cAR_fill_AIIV 3 = .ok (.arraylength, 1) := by decide +kernel
theorem dAR_fill_AIIV_4 : decode cAR_fill_AIIV 4 = .ok (.istore_n 3, 1) := by decide +kernel
theorem dAR_fill_AIIV_5 : decode cAR_fill_AIIV 5 = .ok (.iload_n 2, 1) := by decide +kernel
theorem dAR_fill_AIIV_6 : decode cAR_fill_AIIV 6 = .ok (.iload_n 3, 1) := by decide +kernel
theorem dAR_fill_AIIV_7 : decode cAR_fill_AIIV 7 = .ok (.if_icmp .ge 13, 3) := by decide +kernel
theorem dAR_fill_AIIV_10 : decode cAR_fill_AIIV 10 = .ok (.aload_n 0, 1) := by decide +kernel
theorem dAR_fill_AIIV_11 : decode cAR_fill_AIIV 11 = .ok (.iload_n 2, 1) := by decide +kernel
theorem dAR_fill_AIIV_12 : decode cAR_fill_AIIV 12 = .ok (.iload_n 1, 1) := by decide +kernel
theorem dAR_fill_AIIV_13 : decode cAR_fill_AIIV 13 = .ok (.iastore, 1) := by decide +kernel
theorem dAR_fill_AIIV_14 : decode cAR_fill_AIIV 14 = .ok (.iinc 2 1, 3) := by decide +kernel
theorem dAR_fill_AIIV_17 : decode cAR_fill_AIIV 17 = .ok (.goto (-12), 3) := by decide +kernel
theorem dAR_fill_AIIV_20 : decode cAR_fill_AIIV 20 = .ok (.return_, 1) := by decide +kernel
theorem dAR_fill_AJJV_0 : decode cAR_fill_AJJV 0 = .ok (.iconst 0, 1) := by decide +kernel
theorem dAR_fill_AJJV_1 : decode cAR_fill_AJJV 1 = .ok (.istore_n 3, 1) := by decide +kernel
theorem dAR_fill_AJJV_2 : decode cAR_fill_AJJV 2 = .ok (.aload_n 0, 1) := by decide +kernel
theorem dAR_fill_AJJV_3 : decode cAR_fill_AJJV 3 = .ok (.arraylength, 1) := by decide +kernel
theorem dAR_fill_AJJV_4 : decode cAR_fill_AJJV 4 = .ok (.istore 4, 2) := by decide +kernel
theorem dAR_fill_AJJV_6 : decode cAR_fill_AJJV 6 = .ok (.iload_n 3, 1) := by decide +kernel
theorem dAR_fill_AJJV_7 : decode cAR_fill_AJJV 7 = .ok (.iload 4, 2) := by decide +kernel
theorem dAR_fill_AJJV_9 : decode cAR_fill_AJJV 9 = .ok (.if_icmp .ge 13, 3) := by decide +kernel
theorem dAR_fill_AJJV_12 : decode cAR_fill_AJJV 12 = .ok (.aload_n 0, 1) := by decide +kernel
theorem dAR_fill_AJJV_13 : decode cAR_fill_AJJV 13 = .ok (.iload_n 3, 1) := by decide +kernel
theorem dAR_fill_AJJV_14 : decode cAR_fill_AJJV 14 = .ok (.lload_n 1, 1) := by decide +kernel
theorem dAR_fill_AJJV_15 : decode cAR_fill_AJJV 15 = .ok (.lastore, 1) := by decide +kernel
theorem dAR_fill_AJJV_16 : decode cAR_fill_AJJV 16 = .ok (.iinc 3 1, 3) := by decide +kernel
theorem dAR_fill_AJJV_19 : decode cAR_fill_AJJV 19 = .ok (.goto (-13), 3) := by decide +kernel
theorem dAR_fill_AJJV_22 : decode cAR_fill_AJJV 22 = .ok (.return_, 1) := by decide +kernel
theorem dIN_numberOfTrailingZeros_II_0 : decode cIN_numberOfTrailingZeros_II 0 = .ok (.iload_n 0, 1) := by decide +kernel
theorem dIN_numberOfTrailingZeros_II_1 : decode cIN_numberOfTrailingZeros_II 1 = .ok (.iconst (-1), 1) := by decide +kernel
theorem dIN_numberOfTrailingZeros_II_2 : decode cIN_numberOfTrailingZeros_II 2 = .ok (.ixor, 1) := by decide +kernel
theorem dIN_numberOfTrailingZeros_II_3 : decode cIN_numberOfTrailingZeros_II 3 = .ok (.iload_n 0, 1) := by decide +kernel
theorem dIN_numberOfTrailingZeros_II_4 : decode cIN_numberOfTrailingZeros_II 4 = .ok (.iconst 1, 1) := by decide +kernel
theorem dIN_numberOfTrailingZeros_II_5 : decode cIN_numberOfTrailingZeros_II 5 = .ok (.isub, 1) := by decide +kernel
theorem dIN_numberOfTrailingZeros_II_6 : decode cIN_numberOfTrailingZeros_II 6 = .ok (.iand, 1) := by decide +kernel
theorem dIN_numberOfTrailingZeros_II_7 : decode cIN_numberOfTrailingZeros_II 7 = .ok (.istore_n 0, 1) := by decide +kernel
theorem dIN_numberOfTrailingZeros_II_8 : decode cIN_numberOfTrailingZeros_II 8 = .ok (.iload_n 0, 1) := by decide +kernel
theorem dIN_numberOfTrailingZeros_II_9 : decode cIN_numberOfTrailingZeros_II 9 = .ok (.ifCond .gt 8, 3) := by decide +kernel
theorem dIN_numberOfTrailingZeros_II_12 : decode cIN_numberOfTrailingZeros_II 12 = .ok (.iload_n 0, 1) := by decide +kernel
theorem dIN_numberOfTrailingZeros_II_13 : decode cIN_numberOfTrailingZeros_II 13 = .ok (.bipush 32, 2) := by decide +kernel
theorem dIN_numberOfTrailingZeros_II_15 : decode cIN_numberOfTrailingZeros_II 15 = .ok (.iand, 1) := by decide +kernel
theorem dIN_numberOfTrailingZeros_II_16 : decode cIN_numberOfTrailingZeros_II 16 = .ok (.ireturn, 1) := by decide +kernel
theorem dIN_numberOfTrailingZeros_II_17 : decode cIN_numberOfTrailingZeros_II 17 = .ok (.iconst 1, 1) := by decide +kernel
theorem dIN_numberOfTrailingZeros_II_18 : decode cIN_numberOfTrailingZeros_II 18 = .ok (.istore_n 1, 1) := by decide +kernel
theorem dIN_numberOfTrailingZeros_II_19 : decode cIN_numberOfTrailingZeros_II 19 = .ok (.iload_n 0, 1) := by decide +kernel
theorem dIN_numberOfTrailingZeros_II_20 : decode cIN_numberOfTrailingZeros_II 20 = .ok (.ldc_w 264, 3) := by decide +kernel
theorem dIN_numberOfTrailingZeros_II_23 : decode cIN_numberOfTrailingZeros_II 23 = .ok (.if_icmp .le 11, 3) := by decide +kernel
theorem dIN_numberOfTrailingZeros_II_26 : decode cIN_numberOfTrailingZeros_II 26 = .ok (.iinc 1 16, 3) := by decide +kernel
theorem dIN_numberOfTrailingZeros_II_29 : decode cIN_numberOfTrailingZeros_II 29 = .ok (.iload_n 0, 1) := by decide +kernel
theorem dIN_numberOfTrailingZeros_II_30 : decode cIN_numberOfTrailingZeros_II 30 = .ok (.bipush 16, 2) := by decide +kernel
theorem dIN_numberOfTrailingZeros_II_32 : decode cIN_numberOfTrailingZeros_II 32 = .ok (.iushr, 1) := by decide +kernel
theorem dIN_numberOfTrailingZeros_II_33 : decode cIN_numberOfTrailingZeros_II 33 = .ok (.istore_n 0, 1) := by decide +kernel
theorem dIN_numberOfTrailingZeros_II_34 : decode cIN_numberOfTrailingZeros_II 34 = .ok (.iload_n 0, 1) := by decide +kernel
theorem dIN_numberOfTrailingZeros_II_35 : decode cIN_numberOfTrailingZeros_II 35 = .ok (.sipush 256, 3) := by decide +kernel
theorem dIN_numberOfTrailingZeros_II_38 : decode cIN_numberOfTrailingZeros_II 38 = .ok (.if_icmp .le 11, 3) := by decide +kernel
theorem dIN_numberOfTrailingZeros_II_41 : decode cIN_numberOfTrailingZeros_II 41 = .ok (.iinc 1 8, 3) := by decide +kernel
theorem dIN_numberOfTrailingZeros_II_44 : decode cIN_numberOfTrailingZeros_II 44 = .ok (.iload_n 0, 1) := by decide +kernel
theorem dIN_numberOfTrailingZeros_II_45 : decode cIN_numberOfTrailingZeros_II 45 = .ok (.bipush 8, 2) := by decide +kernel
theorem dIN_numberOfTrailingZeros_II_47 : decode cIN_numberOfTrailingZeros_II 47 = .ok (.iushr, 1) := by decide +kernel
theorem dIN_numberOfTrailingZeros_II_48 : decode cIN_numberOfTrailingZeros_II 48 = .ok (.istore_n 0, 1) := by decide +kernel
theorem dIN_numberOfTrailingZeros_II_49 : decode cIN_numberOfTrailingZeros_II 49 = .ok (.iload_n 0, 1) := by decide +kernel
theorem dIN_numberOfTrailingZeros_II_50 : decode cIN_numberOfTrailingZeros_II 50 = .ok (.bipush 16, 2) := by decide +kernel
theorem dIN_numberOfTrailingZeros_II_52 : decode cIN_numberOfTrailingZeros_II 52 = .ok (.if_icmp .le 10, 3) := by decide +kernel
theorem dIN_numberOfTrailingZeros_II_55 : decode cIN_numberOfTrailingZeros_II 55 = .ok (.iinc 1 4, 3) := by decide +kernel
theorem dIN_numberOfTrailingZeros_II_58 : decode cIN_numberOfTrailingZeros_II 58 = .ok (.iload_n 0, 1) := by decide +kernel
theorem dIN_numberOfTrailingZeros_II_59 : decode cIN_numberOfTrailingZeros_II 59 = .ok (.iconst 4, 1) := by decide +kernel
theorem dIN_numberOfTrailingZeros_II_60 : decode cIN_numberOfTrailingZeros_II 60 = .ok (.iushr, 1) := by decide +kernel
theorem dIN_numberOfTrailingZeros_II_61 : decode cIN_numberOfTrailingZeros_II 61 = .ok (.istore_n 0, 1) := by decide +kernel
theorem dIN_numberOfTrailingZeros_II_62 : decode cIN_numberOfTrailingZeros_II 62 = .ok (.iload_n 0, 1) := by decide +kernel
theorem dIN_numberOfTrailingZeros_II_63 : decode cIN_numberOfTrailingZeros_II 63 = .ok (.iconst 4, 1) := by decide +kernel
theorem dIN_numberOfTrailingZeros_II_64 : decode cIN_numberOfTrailingZeros_II 64 = .ok (.if_icmp .le 10, 3) := by decide +kernel
theorem dIN_numberOfTrailingZeros_II_67 : decode cIN_numberOfTrailingZeros_II 67 = .ok (.iinc 1 2, 3) := by decide +kernel
theorem dIN_numberOfTrailingZeros_II_70 : decode cIN_numberOfTrailingZeros_II 70 = .ok (.iload_n 0, 1) := by decide +kernel
theorem dIN_numberOfTrailingZeros_II_71 : decode cIN_numberOfTrailingZeros_II 71 = .ok (.iconst 2, 1) := by decide +kernel
theorem dIN_numberOfTrailingZeros_II_72 : decode cIN_numberOfTrailingZeros_II 72 = .ok (.iushr, 1) := by decide +kernel
theorem dIN_numberOfTrailingZeros_II_73 : decode cIN_numberOfTrailingZeros_II 73 = .ok (.istore_n 0, 1) := by decide +kernel
theorem dIN_numberOfTrailingZeros_II_74 : decode cIN_numberOfTrailingZeros_II 74 = .ok (.iload_n 1, 1) := by decide +kernel
theorem dIN_numberOfTrailingZeros_II_75 : decode cIN_numberOfTrailingZeros_II 75 = .ok (.iload_n 0, 1) := by decide +kernel
theorem dIN_numberOfTrailingZeros_II_76 : decode cIN_numberOfTrailingZeros_II 76 = .ok (.iconst 1, 1) := by decide +kernel
theorem dIN_numberOfTrailingZeros_II_77 : decode cIN_numberOfTrailingZeros_II 77 = .ok (.iushr, 1) := by decide +kernel
theorem dIN_numberOfTrailingZeros_II_78 : decode cIN_numberOfTrailingZeros_II 78 = .ok (.iadd, 1) := by decide +kernel
theorem dIN_numberOfTrailingZeros_II_79 : decode cIN_numberOfTrailingZeros_II 79 = .ok (.ireturn, 1) := by decide +kernel
