theorem dMA_number_0 : decode cMA_number 0 = .ok (.iload_n 0, 1) := by decide +kernel
theorem dMA_number_1 : decode cMA_number 1 = .ok (.i2l, 1) := by decide +kernel
theorem dMA_number_2 : decode cMA_number 2 = .ok (.ldc2_w 126, 3) := by decide +kernel
theorem dMA_number_5 : decode cMA_number 5 = .ok (.land, 1) := by decide +kernel
theorem dMA_number_6 : decode cMA_number 6 = .ok (.lreturn, 1) := by decide +kernel
theorem dMA_address_0 : decode cMA_address 0 = .ok (.iload_n 0, 1) := by decide +kernel
theorem dMA_address_1 : decode cMA_address 1 = .ok (.iconst 1, 1) := by decide +kernel
theorem dMA_address_2 : decode cMA_address 2 = .ok (.iadd, 1) := by decide +kernel
theorem dMA_address_3 : decode cMA_address 3 = .ok (.i2l, 1) := by decide +kernel
theorem dMA_address_4 : decode cMA_address 4 = .ok (.bipush 32, 2) := by decide +kernel
theorem dMA_address_6 : decode cMA_address 6 = .ok (.lshl, 1) := by decide +kernel
theorem dMA_address_7 : decode cMA_address 7 = .ok (.iload_n 1, 1) := by decide +kernel
theorem dMA_address_8 : decode cMA_address 8 = .ok (.i2l, 1) := by decide +kernel
theorem dMA_address_9 : decode cMA_address 9 = .ok (.lor, 1) := by decide +kernel
theorem dMA_address_10 : decode cMA_address 10 = .ok (.lreturn, 1) := by decide +kernel
theorem dMA_isAddress_0 : decode cMA_isAddress 0 = .ok (.lload_n 0, 1) := by decide +kernel
theorem dMA_isAddress_1 : decode cMA_isAddress 1 = .ok (.bipush 32, 2) := by decide +kernel
theorem dMA_isAddress_3 : decode cMA_isAddress 3 = .ok (.lushr, 1) := by decide +kernel
theorem dMA_isAddress_4 : decode cMA_isAddress 4 = .ok (.lconst 0, 1) := by decide +kernel
theorem dMA_isAddress_5 : decode cMA_isAddress 5 = .ok (.lcmp, 1) := by decide +kernel
theorem dMA_isAddress_6 : decode cMA_isAddress 6 = .ok (.ifCond .eq 7, 3) := by decide +kernel
theorem dMA_isAddress_9 : decode cMA_isAddress 9 = .ok (.iconst 1, 1) := by decide +kernel
theorem dMA_isAddress_10 : decode cMA_isAddress 10 = .ok (.goto 4, 3) := by decide +kernel
theorem dMA_isAddress_13 : decode cMA_isAddress 13 = .ok (.iconst 0, 1) := by decide +kernel
theorem dMA_isAddress_14 : decode cMA_isAddress 14 = .ok (.ireturn, 1) := by decide +kernel
theorem dMA_objectOf_0 : decode cMA_objectOf 0 = .ok (.lload_n 0, 1) := by decide +kernel
theorem dMA_objectOf_1 : decode cMA_objectOf 1 = .ok (.bipush 32, 2) := by decide +kernel
theorem dMA_objectOf_3 : decode cMA_objectOf 3 = .ok (.lushr, 1) := by decide +kernel
theorem dMA_objectOf_4 : decode cMA_objectOf 4 = .ok (.l2i, 1) := by decide +kernel
theorem dMA_objectOf_5 : decode cMA_objectOf 5 = .ok (.iconst 1, 1) := by decide +kernel
theorem dMA_objectOf_6 : decode cMA_objectOf 6 = .ok (.isub, 1) := by decide +kernel
theorem dMA_objectOf_7 : decode cMA_objectOf 7 = .ok (.ireturn, 1) := by decide +kernel
theorem dMA_cellOf_0 : decode cMA_cellOf 0 = .ok (.lload_n 0, 1) := by decide +kernel
theorem dMA_cellOf_1 : decode cMA_cellOf 1 = .ok (.invokestatic 70, 3) := by decide +kernel
theorem dMA_cellOf_4 : decode cMA_cellOf 4 = .ok (.bipush 16, 2) := by decide +kernel
theorem dMA_cellOf_6 : decode cMA_cellOf 6 = .ok (.imul, 1) := by decide +kernel
theorem dMA_cellOf_7 : decode cMA_cellOf 7 = .ok (.lload_n 0, 1) := by decide +kernel
theorem dMA_cellOf_8 : decode cMA_cellOf 8 = .ok (.l2i, 1) := by decide +kernel
theorem dMA_cellOf_9 : decode cMA_cellOf 9 = .ok (.iadd, 1) := by decide +kernel
theorem dMA_cellOf_10 : decode cMA_cellOf 10 = .ok (.ireturn, 1) := by decide +kernel
theorem dMA_become_0 : decode cMA_become 0 = .ok (.aload_n 0, 1) := by decide +kernel
theorem dMA_become_1 : decode cMA_become 1 = .ok (.getfield 9, 3) := by decide +kernel
theorem dMA_become_4 : decode cMA_become 4 = .ok (.iload_n 1, 1) := by decide +kernel
theorem dMA_become_5 : decode cMA_become 5 = .ok (.lload_n 2, 1) := by decide +kernel
theorem dMA_become_6 : decode cMA_become 6 = .ok (.lastore, 1) := by decide +kernel
theorem dMA_become_7 : decode cMA_become 7 = .ok (.iconst (-1), 1) := by decide +kernel
theorem dMA_become_8 : decode cMA_become 8 = .ok (.ireturn, 1) := by decide +kernel
theorem dMA_goTo_0 : decode cMA_goTo 0 = .ok (.aload_n 0, 1) := by decide +kernel
theorem dMA_goTo_1 : decode cMA_goTo 1 = .ok (.iload_n 1, 1) := by decide +kernel
theorem dMA_goTo_2 : decode cMA_goTo 2 = .ok (.putfield 35, 3) := by decide +kernel
theorem dMA_goTo_5 : decode cMA_goTo 5 = .ok (.iconst (-1), 1) := by decide +kernel
theorem dMA_goTo_6 : decode cMA_goTo 6 = .ok (.ireturn, 1) := by decide +kernel
theorem dMA_reckon_0 : decode cMA_reckon 0 = .ok (.aload_n 0, 1) := by decide +kernel
theorem dMA_reckon_1 : decode cMA_reckon 1 = .ok (.getfield 9, 3) := by decide +kernel
theorem dMA_reckon_4 : decode cMA_reckon 4 = .ok (.iload_n 3, 1) := by decide +kernel
theorem dMA_reckon_5 : decode cMA_reckon 5 = .ok (.laload, 1) := by decide +kernel
theorem dMA_reckon_6 : decode cMA_reckon 6 = .ok (.invokestatic 66, 3) := by decide +kernel
theorem dMA_reckon_9 : decode cMA_reckon 9 = .ok (.ifCond .ne 16, 3) := by decide +kernel
theorem dMA_reckon_12 : decode cMA_reckon 12 = .ok (.aload_n 0, 1) := by decide +kernel
theorem dMA_reckon_13 : decode cMA_reckon 13 = .ok (.getfield 9, 3) := by decide +kernel
theorem dMA_reckon_16 : decode cMA_reckon 16 = .ok (.iload 4, 2) := by decide +kernel
theorem dMA_reckon_18 : decode cMA_reckon 18 = .ok (.laload, 1) := by decide +kernel
theorem dMA_reckon_19 : decode cMA_reckon 19 = .ok (.invokestatic 66, 3) := by decide +kernel
theorem dMA_reckon_22 : decode cMA_reckon 22 = .ok (.ifCond .eq 5, 3) := by decide +kernel
theorem dMA_reckon_25 : decode cMA_reckon 25 = .ok (.iconst 1, 1) := by decide +kernel
theorem dMA_reckon_26 : decode cMA_reckon 26 = .ok (.ireturn, 1) := by decide +kernel
theorem dMA_reckon_27 : decode cMA_reckon 27 = .ok (.aload_n 0, 1) := by decide +kernel
theorem dMA_reckon_28 : decode cMA_reckon 28 = .ok (.getfield 9, 3) := by decide +kernel
theorem dMA_reckon_31 : decode cMA_reckon 31 = .ok (.iload_n 3, 1) := by decide +kernel
theorem dMA_reckon_32 : decode cMA_reckon 32 = .ok (.laload, 1) := by decide +kernel
theorem dMA_reckon_33 : decode cMA_reckon 33 = .ok (.l2i, 1) := by decide +kernel
theorem dMA_reckon_34 : decode cMA_reckon 34 = .ok (.istore 5, 2) := by decide +kernel
theorem dMA_reckon_36 : decode cMA_reckon 36 = .ok (.aload_n 0, 1) := by decide +kernel
theorem dMA_reckon_37 : decode cMA_reckon 37 = .ok (.getfield 9, 3) := by decide +kernel
theorem dMA_reckon_40 : decode cMA_reckon 40 = .ok (.iload 4, 2) := by decide +kernel
theorem dMA_reckon_42 : decode cMA_reckon 42 = .ok (.laload, 1) := by decide +kernel
theorem dMA_reckon_43 : decode cMA_reckon 43 = .ok (.l2i, 1) := by decide +kernel
theorem dMA_reckon_44 : decode cMA_reckon 44 = .ok (.istore 6, 2) := by decide +kernel
theorem dMA_reckon_46 : decode cMA_reckon 46 = .ok (.iload_n 1, 1) := by decide +kernel
theorem dMA_reckon_47 : decode cMA_reckon 47 = .ok (.tableswitch 67 2 4 #[25, 39, 53], 25) := by decide +kernel
theorem dMA_reckon_72 : decode cMA_reckon 72 = .ok (.aload_n 0, 1) := by decide +kernel
theorem dMA_reckon_73 : decode cMA_reckon 73 = .ok (.iload_n 2, 1) := by decide +kernel
theorem dMA_reckon_74 : decode cMA_reckon 74 = .ok (.iload 5, 2) := by decide +kernel
theorem dMA_reckon_76 : decode cMA_reckon 76 = .ok (.iload 6, 2) := by decide +kernel
theorem dMA_reckon_78 : decode cMA_reckon 78 = .ok (.iadd, 1) := by decide +kernel
theorem dMA_reckon_79 : decode cMA_reckon 79 = .ok (.invokestatic 86, 3) := by decide +kernel
theorem dMA_reckon_82 : decode cMA_reckon 82 = .ok (.invokevirtual 90, 3) := by decide +kernel
theorem dMA_reckon_85 : decode cMA_reckon 85 = .ok (.ireturn, 1) := by decide +kernel
theorem dMA_reckon_86 : decode cMA_reckon 86 = .ok (.aload_n 0, 1) := by decide +kernel
theorem dMA_reckon_87 : decode cMA_reckon 87 = .ok (.iload_n 2, 1) := by decide +kernel
theorem dMA_reckon_88 : decode cMA_reckon 88 = .ok (.iload 5, 2) := by decide +kernel
theorem dMA_reckon_90 : decode cMA_reckon 90 = .ok (.iload 6, 2) := by decide +kernel
theorem dMA_reckon_92 : decode cMA_reckon 92 = .ok (.isub, 1) := by decide +kernel
theorem dMA_reckon_93 : decode cMA_reckon 93 = .ok (.invokestatic 86, 3) := by decide +kernel
theorem dMA_reckon_96 : decode cMA_reckon 96 = .ok (.invokevirtual 90, 3) := by decide +kernel
theorem dMA_reckon_99 : decode cMA_reckon 99 = .ok (.ireturn, 1) := by decide +kernel
theorem dMA_reckon_100 : decode cMA_reckon 100 = .ok (.aload_n 0, 1) := by decide +kernel
theorem dMA_reckon_101 : decode cMA_reckon 101 = .ok (.iload_n 2, 1) := by decide +kernel
theorem dMA_reckon_102 : decode cMA_reckon 102 = .ok (.iload 5, 2) := by decide +kernel
theorem dMA_reckon_104 : decode cMA_reckon 104 = .ok (.iload 6, 2) := by decide +kernel
theorem dMA_reckon_106 : decode cMA_reckon 106 = .ok (.imul, 1) := by decide +kernel
theorem dMA_reckon_107 : decode cMA_reckon 107 = .ok (.invokestatic 86, 3) := by decide +kernel
theorem dMA_reckon_110 : decode cMA_reckon 110 = .ok (.invokevirtual 90, 3) := by decide +kernel
theorem dMA_reckon_113 : decode cMA_reckon 113 = .ok (.ireturn, 1) := by decide +kernel
theorem dMA_reckon_114 : decode cMA_reckon 114 = .ok (.aload_n 0, 1) := by decide +kernel
theorem dMA_reckon_115 : decode cMA_reckon 115 = .ok (.iload_n 2, 1) := by decide +kernel
theorem dMA_reckon_116 : decode cMA_reckon 116 = .ok (.iload 5, 2) := by decide +kernel
theorem dMA_reckon_118 : decode cMA_reckon 118 = .ok (.iload 6, 2) := by decide +kernel
theorem dMA_reckon_120 : decode cMA_reckon 120 = .ok (.if_icmp .ge 7, 3) := by decide +kernel
theorem dMA_reckon_123 : decode cMA_reckon 123 = .ok (.lconst 1, 1) := by decide +kernel
theorem dMA_reckon_124 : decode cMA_reckon 124 = .ok (.goto 4, 3) := by decide +kernel
theorem dMA_reckon_127 : decode cMA_reckon 127 = .ok (.lconst 0, 1) := by decide +kernel
theorem dMA_reckon_128 : decode cMA_reckon 128 = .ok (.invokevirtual 90, 3) := by decide +kernel
theorem dMA_reckon_131 : decode cMA_reckon 131 = .ok (.ireturn, 1) := by decide +kernel
theorem dMA_shift_0 : decode cMA_shift 0 = .ok (.aload_n 0, 1) := by decide +kernel
theorem dMA_shift_1 : decode cMA_shift 1 = .ok (.getfield 9, 3) := by decide +kernel
theorem dMA_shift_4 : decode cMA_shift 4 = .ok (.iload_n 2, 1) := by decide +kernel
theorem dMA_shift_5 : decode cMA_shift 5 = .ok (.laload, 1) := by decide +kernel
theorem dMA_shift_6 : decode cMA_shift 6 = .ok (.lstore 4, 2) := by decide +kernel
theorem dMA_shift_8 : decode cMA_shift 8 = .ok (.lload 4, 2) := by decide +kernel
theorem dMA_shift_10 : decode cMA_shift 10 = .ok (.invokestatic 66, 3) := by decide +kernel
theorem dMA_shift_13 : decode cMA_shift 13 = .ok (.ifCond .eq 15, 3) := by decide +kernel
theorem dMA_shift_16 : decode cMA_shift 16 = .ok (.aload_n 0, 1) := by decide +kernel
theorem dMA_shift_17 : decode cMA_shift 17 = .ok (.getfield 9, 3) := by decide +kernel
theorem dMA_shift_20 : decode cMA_shift 20 = .ok (.iload_n 3, 1) := by decide +kernel
theorem dMA_shift_21 : decode cMA_shift 21 = .ok (.laload, 1) := by decide +kernel
theorem dMA_shift_22 : decode cMA_shift 22 = .ok (.invokestatic 66, 3) := by decide +kernel
theorem dMA_shift_25 : decode cMA_shift 25 = .ok (.ifCond .eq 5, 3) := by decide +kernel
theorem dMA_shift_28 : decode cMA_shift 28 = .ok (.iconst 1, 1) := by decide +kernel
theorem dMA_shift_29 : decode cMA_shift 29 = .ok (.ireturn, 1) := by decide +kernel
theorem dMA_shift_30 : decode cMA_shift 30 = .ok (.lload 4, 2) := by decide +kernel
theorem dMA_shift_32 : decode cMA_shift 32 = .ok (.l2i, 1) := by decide +kernel
theorem dMA_shift_33 : decode cMA_shift 33 = .ok (.i2l, 1) := by decide +kernel
theorem dMA_shift_34 : decode cMA_shift 34 = .ok (.aload_n 0, 1) := by decide +kernel
theorem dMA_shift_35 : decode cMA_shift 35 = .ok (.getfield 9, 3) := by decide +kernel
theorem dMA_shift_38 : decode cMA_shift 38 = .ok (.iload_n 3, 1) := by decide +kernel
theorem dMA_shift_39 : decode cMA_shift 39 = .ok (.laload, 1) := by decide +kernel
theorem dMA_shift_40 : decode cMA_shift 40 = .ok (.l2i, 1) := by decide +kernel
theorem dMA_shift_41 : decode cMA_shift 41 = .ok (.i2l, 1) := by decide +kernel
theorem dMA_shift_42 : decode cMA_shift 42 = .ok (.ladd, 1) := by decide +kernel
theorem dMA_shift_43 : decode cMA_shift 43 = .ok (.lstore 6, 2) := by decide +kernel
theorem dMA_shift_45 : decode cMA_shift 45 = .ok (.lload 6, 2) := by decide +kernel
theorem dMA_shift_47 : decode cMA_shift 47 = .ok (.lconst 0, 1) := by decide +kernel
theorem dMA_shift_48 : decode cMA_shift 48 = .ok (.lcmp, 1) := by decide +kernel
theorem dMA_shift_49 : decode cMA_shift 49 = .ok (.ifCond .lt 20, 3) := by decide +kernel
theorem dMA_shift_52 : decode cMA_shift 52 = .ok (.lload 6, 2) := by decide +kernel
theorem dMA_shift_54 : decode cMA_shift 54 = .ok (.aload_n 0, 1) := by decide +kernel
theorem dMA_shift_55 : decode cMA_shift 55 = .ok (.getfield 18, 3) := by decide +kernel
theorem dMA_shift_58 : decode cMA_shift 58 = .ok (.lload 4, 2) := by decide +kernel
theorem dMA_shift_60 : decode cMA_shift 60 = .ok (.invokestatic 70, 3) := by decide +kernel
theorem dMA_shift_63 : decode cMA_shift 63 = .ok (.iaload, 1) := by decide +kernel
theorem dMA_shift_64 : decode cMA_shift 64 = .ok (.i2l, 1) := by decide +kernel
theorem dMA_shift_65 : decode cMA_shift 65 = .ok (.lcmp, 1) := by decide +kernel
theorem dMA_shift_66 : decode cMA_shift 66 = .ok (.ifCond .lt 5, 3) := by decide +kernel
theorem dMA_shift_69 : decode cMA_shift 69 = .ok (.iconst 1, 1) := by decide +kernel
theorem dMA_shift_70 : decode cMA_shift 70 = .ok (.ireturn, 1) := by decide +kernel
theorem dMA_shift_71 : decode cMA_shift 71 = .ok (.aload_n 0, 1) := by decide +kernel
theorem dMA_shift_72 : decode cMA_shift 72 = .ok (.iload_n 1, 1) := by decide +kernel
theorem dMA_shift_73 : decode cMA_shift 73 = .ok (.lload 4, 2) := by decide +kernel
theorem dMA_shift_75 : decode cMA_shift 75 = .ok (.invokestatic 70, 3) := by decide +kernel
theorem dMA_shift_78 : decode cMA_shift 78 = .ok (.lload 6, 2) := by decide +kernel
theorem dMA_shift_80 : decode cMA_shift 80 = .ok (.l2i, 1) := by decide +kernel
theorem dMA_shift_81 : decode cMA_shift 81 = .ok (.invokestatic 122, 3) := by decide +kernel
theorem dMA_shift_84 : decode cMA_shift 84 = .ok (.invokevirtual 90, 3) := by decide +kernel
theorem dMA_shift_87 : decode cMA_shift 87 = .ok (.ireturn, 1) := by decide +kernel
theorem dMA_make_0 : decode cMA_make 0 = .ok (.aload_n 0, 1) := by decide +kernel
theorem dMA_make_1 : decode cMA_make 1 = .ok (.getfield 25, 3) := by decide +kernel
theorem dMA_make_4 : decode cMA_make 4 = .ok (.sipush 300, 3) := by decide +kernel
theorem dMA_make_7 : decode cMA_make 7 = .ok (.if_icmp .ne 5, 3) := by decide +kernel
theorem dMA_make_10 : decode cMA_make 10 = .ok (.iconst 3, 1) := by decide +kernel
theorem dMA_make_11 : decode cMA_make 11 = .ok (.ireturn, 1) := by decide +kernel
theorem dMA_make_12 : decode cMA_make 12 = .ok (.aload_n 0, 1) := by decide +kernel
theorem dMA_make_13 : decode cMA_make 13 = .ok (.getfield 25, 3) := by decide +kernel
theorem dMA_make_16 : decode cMA_make 16 = .ok (.istore 4, 2) := by decide +kernel
theorem dMA_make_18 : decode cMA_make 18 = .ok (.aload_n 0, 1) := by decide +kernel
theorem dMA_make_19 : decode cMA_make 19 = .ok (.dup, 1) := by decide +kernel
theorem dMA_make_20 : decode cMA_make 20 = .ok (.getfield 25, 3) := by decide +kernel
theorem dMA_make_23 : decode cMA_make 23 = .ok (.iconst 1, 1) := by decide +kernel
theorem dMA_make_24 : decode cMA_make 24 = .ok (.iadd, 1) := by decide +kernel
theorem dMA_make_25 : decode cMA_make 25 = .ok (.putfield 25, 3) := by decide +kernel
theorem dMA_make_28 : decode cMA_make 28 = .ok (.aload_n 0, 1) := by decide +kernel
theorem dMA_make_29 : decode cMA_make 29 = .ok (.getfield 18, 3) := by decide +kernel
theorem dMA_make_32 : decode cMA_make 32 = .ok (.iload 4, 2) := by decide +kernel
theorem dMA_make_34 : decode cMA_make 34 = .ok (.iload_n 2, 1) := by decide +kernel
theorem dMA_make_35 : decode cMA_make 35 = .ok (.iastore, 1) := by decide +kernel
theorem dMA_make_36 : decode cMA_make 36 = .ok (.iconst 0, 1) := by decide +kernel
theorem dMA_make_37 : decode cMA_make 37 = .ok (.istore 5, 2) := by decide +kernel
theorem dMA_make_39 : decode cMA_make 39 = .ok (.iload 5, 2) := by decide +kernel
theorem dMA_make_41 : decode cMA_make 41 = .ok (.iload_n 2, 1) := by decide +kernel
theorem dMA_make_42 : decode cMA_make 42 = .ok (.if_icmp .ge 23, 3) := by decide +kernel
theorem dMA_make_45 : decode cMA_make 45 = .ok (.aload_n 0, 1) := by decide +kernel
theorem dMA_make_46 : decode cMA_make 46 = .ok (.getfield 15, 3) := by decide +kernel
theorem dMA_make_49 : decode cMA_make 49 = .ok (.iload 4, 2) := by decide +kernel
theorem dMA_make_51 : decode cMA_make 51 = .ok (.bipush 16, 2) := by decide +kernel
theorem dMA_make_53 : decode cMA_make 53 = .ok (.imul, 1) := by decide +kernel
theorem dMA_make_54 : decode cMA_make 54 = .ok (.iload 5, 2) := by decide +kernel
theorem dMA_make_56 : decode cMA_make 56 = .ok (.iadd, 1) := by decide +kernel
theorem dMA_make_57 : decode cMA_make 57 = .ok (.lconst 0, 1) := by decide +kernel
theorem dMA_make_58 : decode cMA_make 58 = .ok (.lastore, 1) := by decide +kernel
theorem dMA_make_59 : decode cMA_make 59 = .ok (.iinc 5 1, 3) := by decide +kernel
theorem dMA_make_62 : decode cMA_make 62 = .ok (.goto (-23), 3) := by decide +kernel
theorem dMA_make_65 : decode cMA_make 65 = .ok (.iload_n 3, 1) := by decide +kernel
theorem dMA_make_66 : decode cMA_make 66 = .ok (.iconst 1, 1) := by decide +kernel
theorem dMA_make_67 : decode cMA_make 67 = .ok (.if_icmp .ne 24, 3) := by decide +kernel
theorem dMA_make_70 : decode cMA_make 70 = .ok (.aload_n 0, 1) := by decide +kernel
theorem dMA_make_71 : decode cMA_make 71 = .ok (.getfield 22, 3) := by decide +kernel
theorem dMA_make_74 : decode cMA_make 74 = .ok (.aload_n 0, 1) := by decide +kernel
theorem dMA_make_75 : decode cMA_make 75 = .ok (.getfield 29, 3) := by decide +kernel
theorem dMA_make_78 : decode cMA_make 78 = .ok (.iload 4, 2) := by decide +kernel
theorem dMA_make_80 : decode cMA_make 80 = .ok (.iastore, 1) := by decide +kernel
theorem dMA_make_81 : decode cMA_make 81 = .ok (.aload_n 0, 1) := by decide +kernel
theorem dMA_make_82 : decode cMA_make 82 = .ok (.dup, 1) := by decide +kernel
theorem dMA_make_83 : decode cMA_make 83 = .ok (.getfield 29, 3) := by decide +kernel
theorem dMA_make_86 : decode cMA_make 86 = .ok (.iconst 1, 1) := by decide +kernel
theorem dMA_make_87 : decode cMA_make 87 = .ok (.iadd, 1) := by decide +kernel
theorem dMA_make_88 : decode cMA_make 88 = .ok (.putfield 29, 3) := by decide +kernel
theorem dMA_make_91 : decode cMA_make 91 = .ok (.aload_n 0, 1) := by decide +kernel
theorem dMA_make_92 : decode cMA_make 92 = .ok (.iload_n 1, 1) := by decide +kernel
theorem dMA_make_93 : decode cMA_make 93 = .ok (.iload 4, 2) := by decide +kernel
theorem dMA_make_95 : decode cMA_make 95 = .ok (.iconst 0, 1) := by decide +kernel
theorem dMA_make_96 : decode cMA_make 96 = .ok (.invokestatic 122, 3) := by decide +kernel
theorem dMA_make_99 : decode cMA_make 99 = .ok (.invokevirtual 90, 3) := by decide +kernel
theorem dMA_make_102 : decode cMA_make 102 = .ok (.ireturn, 1) := by decide +kernel
theorem dMA_store_0 : decode cMA_store 0 = .ok (.aload_n 0, 1) := by decide +kernel
theorem dMA_store_1 : decode cMA_store 1 = .ok (.getfield 9, 3) := by decide +kernel
theorem dMA_store_4 : decode cMA_store 4 = .ok (.iload_n 1, 1) := by decide +kernel
theorem dMA_store_5 : decode cMA_store 5 = .ok (.laload, 1) := by decide +kernel
theorem dMA_store_6 : decode cMA_store 6 = .ok (.invokestatic 66, 3) := by decide +kernel
theorem dMA_store_9 : decode cMA_store 9 = .ok (.ifCond .ne 5, 3) := by decide +kernel
theorem dMA_store_12 : decode cMA_store 12 = .ok (.iconst 1, 1) := by decide +kernel
theorem dMA_store_13 : decode cMA_store 13 = .ok (.ireturn, 1) := by decide +kernel
theorem dMA_store_14 : decode cMA_store 14 = .ok (.aload_n 0, 1) := by decide +kernel
theorem dMA_store_15 : decode cMA_store 15 = .ok (.getfield 15, 3) := by decide +kernel
theorem dMA_store_18 : decode cMA_store 18 = .ok (.aload_n 0, 1) := by decide +kernel
theorem dMA_store_19 : decode cMA_store 19 = .ok (.getfield 9, 3) := by decide +kernel
theorem dMA_store_22 : decode cMA_store 22 = .ok (.iload_n 1, 1) := by decide +kernel
theorem dMA_store_23 : decode cMA_store 23 = .ok (.laload, 1) := by decide +kernel
theorem dMA_store_24 : decode cMA_store 24 = .ok (.invokestatic 105, 3) := by decide +kernel
theorem dMA_store_27 : decode cMA_store 27 = .ok (.aload_n 0, 1) := by decide +kernel
theorem dMA_store_28 : decode cMA_store 28 = .ok (.getfield 9, 3) := by decide +kernel
theorem dMA_store_31 : decode cMA_store 31 = .ok (.iload_n 2, 1) := by decide +kernel
theorem dMA_store_32 : decode cMA_store 32 = .ok (.laload, 1) := by decide +kernel
theorem dMA_store_33 : decode cMA_store 33 = .ok (.lastore, 1) := by decide +kernel
theorem dMA_store_34 : decode cMA_store 34 = .ok (.iconst (-1), 1) := by decide +kernel
theorem dMA_store_35 : decode cMA_store 35 = .ok (.ireturn, 1) := by decide +kernel
theorem dMA_tell_0 : decode cMA_tell 0 = .ok (.aload_n 0, 1) := by decide +kernel
theorem dMA_tell_1 : decode cMA_tell 1 = .ok (.getfield 9, 3) := by decide +kernel
theorem dMA_tell_4 : decode cMA_tell 4 = .ok (.iload_n 1, 1) := by decide +kernel
theorem dMA_tell_5 : decode cMA_tell 5 = .ok (.laload, 1) := by decide +kernel
theorem dMA_tell_6 : decode cMA_tell 6 = .ok (.invokestatic 66, 3) := by decide +kernel
theorem dMA_tell_9 : decode cMA_tell 9 = .ok (.ifCond .eq 5, 3) := by decide +kernel
theorem dMA_tell_12 : decode cMA_tell 12 = .ok (.iconst 1, 1) := by decide +kernel
theorem dMA_tell_13 : decode cMA_tell 13 = .ok (.ireturn, 1) := by decide +kernel
theorem dMA_tell_14 : decode cMA_tell 14 = .ok (.aload_n 0, 1) := by decide +kernel
theorem dMA_tell_15 : decode cMA_tell 15 = .ok (.getfield 41, 3) := by decide +kernel
theorem dMA_tell_18 : decode cMA_tell 18 = .ok (.sipush 200, 3) := by decide +kernel
theorem dMA_tell_21 : decode cMA_tell 21 = .ok (.if_icmp .ne 5, 3) := by decide +kernel
theorem dMA_tell_24 : decode cMA_tell 24 = .ok (.iconst 3, 1) := by decide +kernel
theorem dMA_tell_25 : decode cMA_tell 25 = .ok (.ireturn, 1) := by decide +kernel
theorem dMA_tell_26 : decode cMA_tell 26 = .ok (.aload_n 0, 1) := by decide +kernel
theorem dMA_tell_27 : decode cMA_tell 27 = .ok (.getfield 38, 3) := by decide +kernel
theorem dMA_tell_30 : decode cMA_tell 30 = .ok (.aload_n 0, 1) := by decide +kernel
theorem dMA_tell_31 : decode cMA_tell 31 = .ok (.getfield 41, 3) := by decide +kernel
theorem dMA_tell_34 : decode cMA_tell 34 = .ok (.aload_n 0, 1) := by decide +kernel
theorem dMA_tell_35 : decode cMA_tell 35 = .ok (.getfield 9, 3) := by decide +kernel
theorem dMA_tell_38 : decode cMA_tell 38 = .ok (.iload_n 1, 1) := by decide +kernel
theorem dMA_tell_39 : decode cMA_tell 39 = .ok (.laload, 1) := by decide +kernel
theorem dMA_tell_40 : decode cMA_tell 40 = .ok (.l2i, 1) := by decide +kernel
theorem dMA_tell_41 : decode cMA_tell 41 = .ok (.iastore, 1) := by decide +kernel
theorem dMA_tell_42 : decode cMA_tell 42 = .ok (.aload_n 0, 1) := by decide +kernel
theorem dMA_tell_43 : decode cMA_tell 43 = .ok (.dup, 1) := by decide +kernel
theorem dMA_tell_44 : decode cMA_tell 44 = .ok (.getfield 41, 3) := by decide +kernel
theorem dMA_tell_47 : decode cMA_tell 47 = .ok (.iconst 1, 1) := by decide +kernel
theorem dMA_tell_48 : decode cMA_tell 48 = .ok (.iadd, 1) := by decide +kernel
theorem dMA_tell_49 : decode cMA_tell 49 = .ok (.putfield 41, 3) := by decide +kernel
theorem dMA_tell_52 : decode cMA_tell 52 = .ok (.iconst (-1), 1) := by decide +kernel
theorem dMA_tell_53 : decode cMA_tell 53 = .ok (.ireturn, 1) := by decide +kernel
theorem dMA_decide_0 : decode cMA_decide 0 = .ok (.aload_n 0, 1) := by decide +kernel
theorem dMA_decide_1 : decode cMA_decide 1 = .ok (.getfield 9, 3) := by decide +kernel
theorem dMA_decide_4 : decode cMA_decide 4 = .ok (.iload_n 1, 1) := by decide +kernel
theorem dMA_decide_5 : decode cMA_decide 5 = .ok (.laload, 1) := by decide +kernel
theorem dMA_decide_6 : decode cMA_decide 6 = .ok (.invokestatic 66, 3) := by decide +kernel
theorem dMA_decide_9 : decode cMA_decide 9 = .ok (.ifCond .eq 5, 3) := by decide +kernel
theorem dMA_decide_12 : decode cMA_decide 12 = .ok (.iconst 1, 1) := by decide +kernel
theorem dMA_decide_13 : decode cMA_decide 13 = .ok (.ireturn, 1) := by decide +kernel
theorem dMA_decide_14 : decode cMA_decide 14 = .ok (.aload_n 0, 1) := by decide +kernel
theorem dMA_decide_15 : decode cMA_decide 15 = .ok (.getfield 9, 3) := by decide +kernel
theorem dMA_decide_18 : decode cMA_decide 18 = .ok (.iload_n 1, 1) := by decide +kernel
theorem dMA_decide_19 : decode cMA_decide 19 = .ok (.laload, 1) := by decide +kernel
theorem dMA_decide_20 : decode cMA_decide 20 = .ok (.lconst 0, 1) := by decide +kernel
theorem dMA_decide_21 : decode cMA_decide 21 = .ok (.lcmp, 1) := by decide +kernel
theorem dMA_decide_22 : decode cMA_decide 22 = .ok (.ifCond .eq 11, 3) := by decide +kernel
theorem dMA_decide_25 : decode cMA_decide 25 = .ok (.aload_n 0, 1) := by decide +kernel
theorem dMA_decide_26 : decode cMA_decide 26 = .ok (.iload_n 2, 1) := by decide +kernel
theorem dMA_decide_27 : decode cMA_decide 27 = .ok (.invokevirtual 116, 3) := by decide +kernel
theorem dMA_decide_30 : decode cMA_decide 30 = .ok (.goto 4, 3) := by decide +kernel
theorem dMA_decide_33 : decode cMA_decide 33 = .ok (.iconst (-1), 1) := by decide +kernel
theorem dMA_decide_34 : decode cMA_decide 34 = .ok (.ireturn, 1) := by decide +kernel
theorem dMA_step_0 : decode cMA_step 0 = .ok (.aload_n 1, 1) := by decide +kernel
theorem dMA_step_1 : decode cMA_step 1 = .ok (.getfield 74, 3) := by decide +kernel
theorem dMA_step_4 : decode cMA_step 4 = .ok (.iload_n 2, 1) := by decide +kernel
theorem dMA_step_5 : decode cMA_step 5 = .ok (.iaload, 1) := by decide +kernel
theorem dMA_step_6 : decode cMA_step 6 = .ok (.istore_n 3, 1) := by decide +kernel
theorem dMA_step_7 : decode cMA_step 7 = .ok (.aload_n 1, 1) := by decide +kernel
theorem dMA_step_8 : decode cMA_step 8 = .ok (.getfield 77, 3) := by decide +kernel
theorem dMA_step_11 : decode cMA_step 11 = .ok (.iload_n 2, 1) := by decide +kernel
theorem dMA_step_12 : decode cMA_step 12 = .ok (.iaload, 1) := by decide +kernel
theorem dMA_step_13 : decode cMA_step 13 = .ok (.istore 4, 2) := by decide +kernel
theorem dMA_step_15 : decode cMA_step 15 = .ok (.aload_n 1, 1) := by decide +kernel
theorem dMA_step_16 : decode cMA_step 16 = .ok (.getfield 80, 3) := by decide +kernel
theorem dMA_step_19 : decode cMA_step 19 = .ok (.iload_n 2, 1) := by decide +kernel
theorem dMA_step_20 : decode cMA_step 20 = .ok (.iaload, 1) := by decide +kernel
theorem dMA_step_21 : decode cMA_step 21 = .ok (.istore 5, 2) := by decide +kernel
theorem dMA_step_23 : decode cMA_step 23 = .ok (.aload_n 1, 1) := by decide +kernel
theorem dMA_step_24 : decode cMA_step 24 = .ok (.getfield 83, 3) := by decide +kernel
theorem dMA_step_27 : decode cMA_step 27 = .ok (.iload_n 2, 1) := by decide +kernel
theorem dMA_step_28 : decode cMA_step 28 = .ok (.iaload, 1) := by decide +kernel
theorem dMA_step_29 : decode cMA_step 29 = .ok (.istore 6, 2) := by decide +kernel
theorem dMA_step_31 : decode cMA_step 31 = .ok (.aload_n 0, 1) := by decide +kernel
theorem dMA_step_32 : decode cMA_step 32 = .ok (.iload_n 2, 1) := by decide +kernel
theorem dMA_step_33 : decode cMA_step 33 = .ok (.iconst 1, 1) := by decide +kernel
theorem dMA_step_34 : decode cMA_step 34 = .ok (.iadd, 1) := by decide +kernel
theorem dMA_step_35 : decode cMA_step 35 = .ok (.putfield 35, 3) := by decide +kernel
theorem dMA_step_38 : decode cMA_step 38 = .ok (.iload_n 3, 1) := by decide +kernel
theorem dMA_step_39 : decode cMA_step 39 = .ok (.tableswitch 236 0 14 #[73, 85, 99, 99, 99, 99, 111, 141, 152, 163, 202, 211, 218, 225, 234], 73) := by decide +kernel
theorem dMA_step_112 : decode cMA_step 112 = .ok (.aload_n 0, 1) := by decide +kernel
theorem dMA_step_113 : decode cMA_step 113 = .ok (.iload 4, 2) := by decide +kernel
theorem dMA_step_115 : decode cMA_step 115 = .ok (.iload 5, 2) := by decide +kernel
theorem dMA_step_117 : decode cMA_step 117 = .ok (.invokestatic 86, 3) := by decide +kernel
theorem dMA_step_120 : decode cMA_step 120 = .ok (.invokevirtual 90, 3) := by decide +kernel
theorem dMA_step_123 : decode cMA_step 123 = .ok (.ireturn, 1) := by decide +kernel
theorem dMA_step_124 : decode cMA_step 124 = .ok (.aload_n 0, 1) := by decide +kernel
theorem dMA_step_125 : decode cMA_step 125 = .ok (.iload 4, 2) := by decide +kernel
theorem dMA_step_127 : decode cMA_step 127 = .ok (.aload_n 0, 1) := by decide +kernel
theorem dMA_step_128 : decode cMA_step 128 = .ok (.getfield 9, 3) := by decide +kernel
theorem dMA_step_131 : decode cMA_step 131 = .ok (.iload 5, 2) := by decide +kernel
theorem dMA_step_133 : decode cMA_step 133 = .ok (.laload, 1) := by decide +kernel
theorem dMA_step_134 : decode cMA_step 134 = .ok (.invokevirtual 90, 3) := by decide +kernel
theorem dMA_step_137 : decode cMA_step 137 = .ok (.ireturn, 1) := by decide +kernel
theorem dMA_step_138 : decode cMA_step 138 = .ok (.aload_n 0, 1) := by decide +kernel
theorem dMA_step_139 : decode cMA_step 139 = .ok (.iload_n 3, 1) := by decide +kernel
theorem dMA_step_140 : decode cMA_step 140 = .ok (.iload 4, 2) := by decide +kernel
theorem dMA_step_142 : decode cMA_step 142 = .ok (.iload 5, 2) := by decide +kernel
theorem dMA_step_144 : decode cMA_step 144 = .ok (.iload 6, 2) := by decide +kernel
theorem dMA_step_146 : decode cMA_step 146 = .ok (.invokevirtual 94, 3) := by decide +kernel
theorem dMA_step_149 : decode cMA_step 149 = .ok (.ireturn, 1) := by decide +kernel
theorem dMA_step_150 : decode cMA_step 150 = .ok (.aload_n 0, 1) := by decide +kernel
theorem dMA_step_151 : decode cMA_step 151 = .ok (.iload 4, 2) := by decide +kernel
theorem dMA_step_153 : decode cMA_step 153 = .ok (.aload_n 0, 1) := by decide +kernel
theorem dMA_step_154 : decode cMA_step 154 = .ok (.getfield 9, 3) := by decide +kernel
theorem dMA_step_157 : decode cMA_step 157 = .ok (.iload 5, 2) := by decide +kernel
theorem dMA_step_159 : decode cMA_step 159 = .ok (.laload, 1) := by decide +kernel
theorem dMA_step_160 : decode cMA_step 160 = .ok (.aload_n 0, 1) := by decide +kernel
theorem dMA_step_161 : decode cMA_step 161 = .ok (.getfield 9, 3) := by decide +kernel
theorem dMA_step_164 : decode cMA_step 164 = .ok (.iload 6, 2) := by decide +kernel
theorem dMA_step_166 : decode cMA_step 166 = .ok (.laload, 1) := by decide +kernel
theorem dMA_step_167 : decode cMA_step 167 = .ok (.lcmp, 1) := by decide +kernel
theorem dMA_step_168 : decode cMA_step 168 = .ok (.ifCond .ne 7, 3) := by decide +kernel
theorem dMA_step_171 : decode cMA_step 171 = .ok (.lconst 1, 1) := by decide +kernel
theorem dMA_step_172 : decode cMA_step 172 = .ok (.goto 4, 3) := by decide +kernel
theorem dMA_step_175 : decode cMA_step 175 = .ok (.lconst 0, 1) := by decide +kernel
theorem dMA_step_176 : decode cMA_step 176 = .ok (.invokevirtual 90, 3) := by decide +kernel
theorem dMA_step_179 : decode cMA_step 179 = .ok (.ireturn, 1) := by decide +kernel
theorem dMA_step_180 : decode cMA_step 180 = .ok (.aload_n 0, 1) := by decide +kernel
theorem dMA_step_181 : decode cMA_step 181 = .ok (.iload 4, 2) := by decide +kernel
theorem dMA_step_183 : decode cMA_step 183 = .ok (.iload 5, 2) := by decide +kernel
theorem dMA_step_185 : decode cMA_step 185 = .ok (.iload 6, 2) := by decide +kernel
theorem dMA_step_187 : decode cMA_step 187 = .ok (.invokevirtual 98, 3) := by decide +kernel
theorem dMA_step_190 : decode cMA_step 190 = .ok (.ireturn, 1) := by decide +kernel
theorem dMA_step_191 : decode cMA_step 191 = .ok (.aload_n 0, 1) := by decide +kernel
theorem dMA_step_192 : decode cMA_step 192 = .ok (.iload 4, 2) := by decide +kernel
theorem dMA_step_194 : decode cMA_step 194 = .ok (.iload 5, 2) := by decide +kernel
theorem dMA_step_196 : decode cMA_step 196 = .ok (.iload 6, 2) := by decide +kernel
theorem dMA_step_198 : decode cMA_step 198 = .ok (.invokevirtual 102, 3) := by decide +kernel
theorem dMA_step_201 : decode cMA_step 201 = .ok (.ireturn, 1) := by decide +kernel
theorem dMA_step_202 : decode cMA_step 202 = .ok (.aload_n 0, 1) := by decide +kernel
theorem dMA_step_203 : decode cMA_step 203 = .ok (.getfield 9, 3) := by decide +kernel
theorem dMA_step_206 : decode cMA_step 206 = .ok (.iload 5, 2) := by decide +kernel
theorem dMA_step_208 : decode cMA_step 208 = .ok (.laload, 1) := by decide +kernel
theorem dMA_step_209 : decode cMA_step 209 = .ok (.invokestatic 66, 3) := by decide +kernel
theorem dMA_step_212 : decode cMA_step 212 = .ok (.ifCond .eq 27, 3) := by decide +kernel
theorem dMA_step_215 : decode cMA_step 215 = .ok (.aload_n 0, 1) := by decide +kernel
theorem dMA_step_216 : decode cMA_step 216 = .ok (.iload 4, 2) := by decide +kernel
theorem dMA_step_218 : decode cMA_step 218 = .ok (.aload_n 0, 1) := by decide +kernel
theorem dMA_step_219 : decode cMA_step 219 = .ok (.getfield 15, 3) := by decide +kernel
theorem dMA_step_222 : decode cMA_step 222 = .ok (.aload_n 0, 1) := by decide +kernel
theorem dMA_step_223 : decode cMA_step 223 = .ok (.getfield 9, 3) := by decide +kernel
theorem dMA_step_226 : decode cMA_step 226 = .ok (.iload 5, 2) := by decide +kernel
theorem dMA_step_228 : decode cMA_step 228 = .ok (.laload, 1) := by decide +kernel
theorem dMA_step_229 : decode cMA_step 229 = .ok (.invokestatic 105, 3) := by decide +kernel
theorem dMA_step_232 : decode cMA_step 232 = .ok (.laload, 1) := by decide +kernel
theorem dMA_step_233 : decode cMA_step 233 = .ok (.invokevirtual 90, 3) := by decide +kernel
theorem dMA_step_236 : decode cMA_step 236 = .ok (.goto 4, 3) := by decide +kernel
theorem dMA_step_239 : decode cMA_step 239 = .ok (.iconst 1, 1) := by decide +kernel
theorem dMA_step_240 : decode cMA_step 240 = .ok (.ireturn, 1) := by decide +kernel
theorem dMA_step_241 : decode cMA_step 241 = .ok (.aload_n 0, 1) := by decide +kernel
theorem dMA_step_242 : decode cMA_step 242 = .ok (.iload 4, 2) := by decide +kernel
theorem dMA_step_244 : decode cMA_step 244 = .ok (.iload 5, 2) := by decide +kernel
theorem dMA_step_246 : decode cMA_step 246 = .ok (.invokevirtual 108, 3) := by decide +kernel
theorem dMA_step_249 : decode cMA_step 249 = .ok (.ireturn, 1) := by decide +kernel
theorem dMA_step_250 : decode cMA_step 250 = .ok (.aload_n 0, 1) := by decide +kernel
theorem dMA_step_251 : decode cMA_step 251 = .ok (.iload 4, 2) := by decide +kernel
theorem dMA_step_253 : decode cMA_step 253 = .ok (.invokevirtual 112, 3) := by decide +kernel
theorem dMA_step_256 : decode cMA_step 256 = .ok (.ireturn, 1) := by decide +kernel
theorem dMA_step_257 : decode cMA_step 257 = .ok (.aload_n 0, 1) := by decide +kernel
theorem dMA_step_258 : decode cMA_step 258 = .ok (.iload 4, 2) := by decide +kernel
theorem dMA_step_260 : decode cMA_step 260 = .ok (.invokevirtual 116, 3) := by decide +kernel
theorem dMA_step_263 : decode cMA_step 263 = .ok (.ireturn, 1) := by decide +kernel
theorem dMA_step_264 : decode cMA_step 264 = .ok (.aload_n 0, 1) := by decide +kernel
theorem dMA_step_265 : decode cMA_step 265 = .ok (.iload 4, 2) := by decide +kernel
theorem dMA_step_267 : decode cMA_step 267 = .ok (.iload 5, 2) := by decide +kernel
theorem dMA_step_269 : decode cMA_step 269 = .ok (.invokevirtual 119, 3) := by decide +kernel
theorem dMA_step_272 : decode cMA_step 272 = .ok (.ireturn, 1) := by decide +kernel
theorem dMA_step_273 : decode cMA_step 273 = .ok (.iconst 0, 1) := by decide +kernel
theorem dMA_step_274 : decode cMA_step 274 = .ok (.ireturn, 1) := by decide +kernel
theorem dMA_step_275 : decode cMA_step 275 = .ok (.iconst (-1), 1) := by decide +kernel
theorem dMA_step_276 : decode cMA_step 276 = .ok (.ireturn, 1) := by decide +kernel
theorem dMA_perform_0 : decode cMA_perform 0 = .ok (.aload_n 0, 1) := by decide +kernel
theorem dMA_perform_1 : decode cMA_perform 1 = .ok (.getfield 9, 3) := by decide +kernel
theorem dMA_perform_4 : decode cMA_perform 4 = .ok (.lconst 0, 1) := by decide +kernel
theorem dMA_perform_5 : decode cMA_perform 5 = .ok (.invokestatic 47, 3) := by decide +kernel
theorem dMA_perform_8 : decode cMA_perform 8 = .ok (.aload_n 0, 1) := by decide +kernel
theorem dMA_perform_9 : decode cMA_perform 9 = .ok (.iconst 0, 1) := by decide +kernel
theorem dMA_perform_10 : decode cMA_perform 10 = .ok (.putfield 25, 3) := by decide +kernel
theorem dMA_perform_13 : decode cMA_perform 13 = .ok (.aload_n 0, 1) := by decide +kernel
theorem dMA_perform_14 : decode cMA_perform 14 = .ok (.iconst 0, 1) := by decide +kernel
theorem dMA_perform_15 : decode cMA_perform 15 = .ok (.putfield 29, 3) := by decide +kernel
theorem dMA_perform_18 : decode cMA_perform 18 = .ok (.aload_n 0, 1) := by decide +kernel
theorem dMA_perform_19 : decode cMA_perform 19 = .ok (.iconst 0, 1) := by decide +kernel
theorem dMA_perform_20 : decode cMA_perform 20 = .ok (.putfield 41, 3) := by decide +kernel
theorem dMA_perform_23 : decode cMA_perform 23 = .ok (.aload_n 0, 1) := by decide +kernel
theorem dMA_perform_24 : decode cMA_perform 24 = .ok (.iconst 0, 1) := by decide +kernel
theorem dMA_perform_25 : decode cMA_perform 25 = .ok (.putfield 35, 3) := by decide +kernel
theorem dMA_perform_28 : decode cMA_perform 28 = .ok (.aload_n 0, 1) := by decide +kernel
theorem dMA_perform_29 : decode cMA_perform 29 = .ok (.iconst (-1), 1) := by decide +kernel
theorem dMA_perform_30 : decode cMA_perform 30 = .ok (.putfield 32, 3) := by decide +kernel
theorem dMA_perform_33 : decode cMA_perform 33 = .ok (.aload_n 0, 1) := by decide +kernel
theorem dMA_perform_34 : decode cMA_perform 34 = .ok (.iconst 0, 1) := by decide +kernel
theorem dMA_perform_35 : decode cMA_perform 35 = .ok (.putfield 44, 3) := by decide +kernel
theorem dMA_perform_38 : decode cMA_perform 38 = .ok (.aload_n 0, 1) := by decide +kernel
theorem dMA_perform_39 : decode cMA_perform 39 = .ok (.getfield 32, 3) := by decide +kernel
theorem dMA_perform_42 : decode cMA_perform 42 = .ok (.iconst (-1), 1) := by decide +kernel
theorem dMA_perform_43 : decode cMA_perform 43 = .ok (.if_icmp .ne 48, 3) := by decide +kernel
theorem dMA_perform_46 : decode cMA_perform 46 = .ok (.aload_n 0, 1) := by decide +kernel
theorem dMA_perform_47 : decode cMA_perform 47 = .ok (.getfield 35, 3) := by decide +kernel
theorem dMA_perform_50 : decode cMA_perform 50 = .ok (.aload_n 1, 1) := by decide +kernel
theorem dMA_perform_51 : decode cMA_perform 51 = .ok (.getfield 53, 3) := by decide +kernel
theorem dMA_perform_54 : decode cMA_perform 54 = .ok (.if_icmp .ge 37, 3) := by decide +kernel
theorem dMA_perform_57 : decode cMA_perform 57 = .ok (.aload_n 0, 1) := by decide +kernel
theorem dMA_perform_58 : decode cMA_perform 58 = .ok (.getfield 44, 3) := by decide +kernel
theorem dMA_perform_61 : decode cMA_perform 61 = .ok (.iload_n 2, 1) := by decide +kernel
theorem dMA_perform_62 : decode cMA_perform 62 = .ok (.if_icmp .ge 29, 3) := by decide +kernel
theorem dMA_perform_65 : decode cMA_perform 65 = .ok (.aload_n 0, 1) := by decide +kernel
theorem dMA_perform_66 : decode cMA_perform 66 = .ok (.aload_n 0, 1) := by decide +kernel
theorem dMA_perform_67 : decode cMA_perform 67 = .ok (.aload_n 1, 1) := by decide +kernel
theorem dMA_perform_68 : decode cMA_perform 68 = .ok (.aload_n 0, 1) := by decide +kernel
theorem dMA_perform_69 : decode cMA_perform 69 = .ok (.getfield 35, 3) := by decide +kernel
theorem dMA_perform_72 : decode cMA_perform 72 = .ok (.invokevirtual 58, 3) := by decide +kernel
theorem dMA_perform_75 : decode cMA_perform 75 = .ok (.putfield 32, 3) := by decide +kernel
theorem dMA_perform_78 : decode cMA_perform 78 = .ok (.aload_n 0, 1) := by decide +kernel
theorem dMA_perform_79 : decode cMA_perform 79 = .ok (.dup, 1) := by decide +kernel
theorem dMA_perform_80 : decode cMA_perform 80 = .ok (.getfield 44, 3) := by decide +kernel
theorem dMA_perform_83 : decode cMA_perform 83 = .ok (.iconst 1, 1) := by decide +kernel
theorem dMA_perform_84 : decode cMA_perform 84 = .ok (.iadd, 1) := by decide +kernel
theorem dMA_perform_85 : decode cMA_perform 85 = .ok (.putfield 44, 3) := by decide +kernel
theorem dMA_perform_88 : decode cMA_perform 88 = .ok (.goto (-50), 3) := by decide +kernel
theorem dMA_perform_91 : decode cMA_perform 91 = .ok (.aload_n 0, 1) := by decide +kernel
theorem dMA_perform_92 : decode cMA_perform 92 = .ok (.getfield 32, 3) := by decide +kernel
theorem dMA_perform_95 : decode cMA_perform 95 = .ok (.iconst (-1), 1) := by decide +kernel
theorem dMA_perform_96 : decode cMA_perform 96 = .ok (.if_icmp .ne 23, 3) := by decide +kernel
theorem dMA_perform_99 : decode cMA_perform 99 = .ok (.aload_n 0, 1) := by decide +kernel
theorem dMA_perform_100 : decode cMA_perform 100 = .ok (.aload_n 0, 1) := by decide +kernel
theorem dMA_perform_101 : decode cMA_perform 101 = .ok (.getfield 35, 3) := by decide +kernel
theorem dMA_perform_104 : decode cMA_perform 104 = .ok (.aload_n 1, 1) := by decide +kernel
theorem dMA_perform_105 : decode cMA_perform 105 = .ok (.getfield 53, 3) := by decide +kernel
theorem dMA_perform_108 : decode cMA_perform 108 = .ok (.if_icmp .ge 7, 3) := by decide +kernel
theorem dMA_perform_111 : decode cMA_perform 111 = .ok (.iconst 2, 1) := by decide +kernel
theorem dMA_perform_112 : decode cMA_perform 112 = .ok (.goto 4, 3) := by decide +kernel
theorem dMA_perform_115 : decode cMA_perform 115 = .ok (.iconst 0, 1) := by decide +kernel
theorem dMA_perform_116 : decode cMA_perform 116 = .ok (.putfield 32, 3) := by decide +kernel
theorem dMA_perform_119 : decode cMA_perform 119 = .ok (.aload_n 0, 1) := by decide +kernel
theorem dMA_perform_120 : decode cMA_perform 120 = .ok (.getfield 32, 3) := by decide +kernel
theorem dMA_perform_123 : decode cMA_perform 123 = .ok (.ireturn, 1) := by decide +kernel
theorem dMA_objectsKept_0 : decode cMA_objectsKept 0 = .ok (.aload_n 0, 1) := by decide +kernel
theorem dMA_objectsKept_1 : decode cMA_objectsKept 1 = .ok (.getfield 32, 3) := by decide +kernel
theorem dMA_objectsKept_4 : decode cMA_objectsKept 4 = .ok (.ifCond .ne 10, 3) := by decide +kernel
theorem dMA_objectsKept_7 : decode cMA_objectsKept 7 = .ok (.aload_n 0, 1) := by decide +kernel
theorem dMA_objectsKept_8 : decode cMA_objectsKept 8 = .ok (.getfield 29, 3) := by decide +kernel
theorem dMA_objectsKept_11 : decode cMA_objectsKept 11 = .ok (.goto 4, 3) := by decide +kernel
theorem dMA_objectsKept_14 : decode cMA_objectsKept 14 = .ok (.iconst 0, 1) := by decide +kernel
theorem dMA_objectsKept_15 : decode cMA_objectsKept 15 = .ok (.ireturn, 1) := by decide +kernel
theorem dMA_hasKeptCell_0 : decode cMA_hasKeptCell 0 = .ok (.iload_n 1, 1) := by decide +kernel
theorem dMA_hasKeptCell_1 : decode cMA_hasKeptCell 1 = .ok (.ifCond .lt 34, 3) := by decide +kernel
theorem dMA_hasKeptCell_4 : decode cMA_hasKeptCell 4 = .ok (.iload_n 1, 1) := by decide +kernel
theorem dMA_hasKeptCell_5 : decode cMA_hasKeptCell 5 = .ok (.aload_n 0, 1) := by decide +kernel
theorem dMA_hasKeptCell_6 : decode cMA_hasKeptCell 6 = .ok (.invokevirtual 62, 3) := by decide +kernel
theorem dMA_hasKeptCell_9 : decode cMA_hasKeptCell 9 = .ok (.if_icmp .ge 26, 3) := by decide +kernel
theorem dMA_hasKeptCell_12 : decode cMA_hasKeptCell 12 = .ok (.iload_n 2, 1) := by decide +kernel
theorem dMA_hasKeptCell_13 : decode cMA_hasKeptCell 13 = .ok (.ifCond .lt 22, 3) := by decide +kernel
theorem dMA_hasKeptCell_16 : decode cMA_hasKeptCell 16 = .ok (.iload_n 2, 1) := by decide +kernel
theorem dMA_hasKeptCell_17 : decode cMA_hasKeptCell 17 = .ok (.aload_n 0, 1) := by decide +kernel
theorem dMA_hasKeptCell_18 : decode cMA_hasKeptCell 18 = .ok (.getfield 18, 3) := by decide +kernel
theorem dMA_hasKeptCell_21 : decode cMA_hasKeptCell 21 = .ok (.aload_n 0, 1) := by decide +kernel
theorem dMA_hasKeptCell_22 : decode cMA_hasKeptCell 22 = .ok (.getfield 22, 3) := by decide +kernel
theorem dMA_hasKeptCell_25 : decode cMA_hasKeptCell 25 = .ok (.iload_n 1, 1) := by decide +kernel
theorem dMA_hasKeptCell_26 : decode cMA_hasKeptCell 26 = .ok (.iaload, 1) := by decide +kernel
theorem dMA_hasKeptCell_27 : decode cMA_hasKeptCell 27 = .ok (.iaload, 1) := by decide +kernel
theorem dMA_hasKeptCell_28 : decode cMA_hasKeptCell 28 = .ok (.if_icmp .ge 7, 3) := by decide +kernel
theorem dMA_hasKeptCell_31 : decode cMA_hasKeptCell 31 = .ok (.iconst 1, 1) := by decide +kernel
theorem dMA_hasKeptCell_32 : decode cMA_hasKeptCell 32 = .ok (.goto 4, 3) := by decide +kernel
theorem dMA_hasKeptCell_35 : decode cMA_hasKeptCell 35 = .ok (.iconst 0, 1) := by decide +kernel
theorem dMA_hasKeptCell_36 : decode cMA_hasKeptCell 36 = .ok (.ireturn, 1) := by decide +kernel
theorem dMA_partOfCell_0 : decode cMA_partOfCell 0 = .ok (.aload_n 0, 1) := by decide +kernel
theorem dMA_partOfCell_1 : decode cMA_partOfCell 1 = .ok (.getfield 15, 3) := by decide +kernel
theorem dMA_partOfCell_4 : decode cMA_partOfCell 4 = .ok (.aload_n 0, 1) := by decide +kernel
theorem dMA_partOfCell_5 : decode cMA_partOfCell 5 = .ok (.getfield 22, 3) := by decide +kernel
theorem dMA_partOfCell_8 : decode cMA_partOfCell 8 = .ok (.iload_n 1, 1) := by decide +kernel
theorem dMA_partOfCell_9 : decode cMA_partOfCell 9 = .ok (.iaload, 1) := by decide +kernel
theorem dMA_partOfCell_10 : decode cMA_partOfCell 10 = .ok (.bipush 16, 2) := by decide +kernel
theorem dMA_partOfCell_12 : decode cMA_partOfCell 12 = .ok (.imul, 1) := by decide +kernel
theorem dMA_partOfCell_13 : decode cMA_partOfCell 13 = .ok (.iload_n 2, 1) := by decide +kernel
theorem dMA_partOfCell_14 : decode cMA_partOfCell 14 = .ok (.iadd, 1) := by decide +kernel
theorem dMA_partOfCell_15 : decode cMA_partOfCell 15 = .ok (.laload, 1) := by decide +kernel
theorem dMA_partOfCell_16 : decode cMA_partOfCell 16 = .ok (.lstore 4, 2) := by decide +kernel
theorem dMA_partOfCell_18 : decode cMA_partOfCell 18 = .ok (.lload 4, 2) := by decide +kernel
theorem dMA_partOfCell_20 : decode cMA_partOfCell 20 = .ok (.invokestatic 66, 3) := by decide +kernel
theorem dMA_partOfCell_23 : decode cMA_partOfCell 23 = .ok (.istore 6, 2) := by decide +kernel
theorem dMA_partOfCell_25 : decode cMA_partOfCell 25 = .ok (.iload_n 3, 1) := by decide +kernel
theorem dMA_partOfCell_26 : decode cMA_partOfCell 26 = .ok (.lookupswitch 54 #[(0, 26), (1, 37)], 26) := by decide +kernel
theorem dMA_partOfCell_52 : decode cMA_partOfCell 52 = .ok (.iload 6, 2) := by decide +kernel
theorem dMA_partOfCell_54 : decode cMA_partOfCell 54 = .ok (.ifCond .eq 7, 3) := by decide +kernel
theorem dMA_partOfCell_57 : decode cMA_partOfCell 57 = .ok (.iconst 1, 1) := by decide +kernel
theorem dMA_partOfCell_58 : decode cMA_partOfCell 58 = .ok (.goto 4, 3) := by decide +kernel
theorem dMA_partOfCell_61 : decode cMA_partOfCell 61 = .ok (.iconst 0, 1) := by decide +kernel
theorem dMA_partOfCell_62 : decode cMA_partOfCell 62 = .ok (.ireturn, 1) := by decide +kernel
theorem dMA_partOfCell_63 : decode cMA_partOfCell 63 = .ok (.iload 6, 2) := by decide +kernel
theorem dMA_partOfCell_65 : decode cMA_partOfCell 65 = .ok (.ifCond .eq 11, 3) := by decide +kernel
theorem dMA_partOfCell_68 : decode cMA_partOfCell 68 = .ok (.lload 4, 2) := by decide +kernel
theorem dMA_partOfCell_70 : decode cMA_partOfCell 70 = .ok (.invokestatic 70, 3) := by decide +kernel
theorem dMA_partOfCell_73 : decode cMA_partOfCell 73 = .ok (.goto 6, 3) := by decide +kernel
theorem dMA_partOfCell_76 : decode cMA_partOfCell 76 = .ok (.lload 4, 2) := by decide +kernel
theorem dMA_partOfCell_78 : decode cMA_partOfCell 78 = .ok (.l2i, 1) := by decide +kernel
theorem dMA_partOfCell_79 : decode cMA_partOfCell 79 = .ok (.ireturn, 1) := by decide +kernel
theorem dMA_partOfCell_80 : decode cMA_partOfCell 80 = .ok (.iload 6, 2) := by decide +kernel
theorem dMA_partOfCell_82 : decode cMA_partOfCell 82 = .ok (.ifCond .eq 9, 3) := by decide +kernel
theorem dMA_partOfCell_85 : decode cMA_partOfCell 85 = .ok (.lload 4, 2) := by decide +kernel
theorem dMA_partOfCell_87 : decode cMA_partOfCell 87 = .ok (.l2i, 1) := by decide +kernel
theorem dMA_partOfCell_88 : decode cMA_partOfCell 88 = .ok (.goto 4, 3) := by decide +kernel
theorem dMA_partOfCell_91 : decode cMA_partOfCell 91 = .ok (.iconst 0, 1) := by decide +kernel
theorem dMA_partOfCell_92 : decode cMA_partOfCell 92 = .ok (.ireturn, 1) := by decide +kernel
