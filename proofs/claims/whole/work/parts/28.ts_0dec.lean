theorem dTS_isInstruction_0 : decode cTS_isInstruction 0 = .ok (.iload_n 1, 1) := by decide +kernel
theorem dTS_isInstruction_1 : decode cTS_isInstruction 1 = .ok (.ifCond .lt 18, 3) := by decide +kernel
theorem dTS_isInstruction_4 : decode cTS_isInstruction 4 = .ok (.iload_n 1, 1) := by decide +kernel
theorem dTS_isInstruction_5 : decode cTS_isInstruction 5 = .ok (.aload_n 0, 1) := by decide +kernel
theorem dTS_isInstruction_6 : decode cTS_isInstruction 6 = .ok (.getfield 12, 3) := by decide +kernel
theorem dTS_isInstruction_9 : decode cTS_isInstruction 9 = .ok (.getfield 70, 3) := by decide +kernel
theorem dTS_isInstruction_12 : decode cTS_isInstruction 12 = .ok (.if_icmp .ge 7, 3) := by decide +kernel
theorem dTS_isInstruction_15 : decode cTS_isInstruction 15 = .ok (.iconst 1, 1) := by decide +kernel
theorem dTS_isInstruction_16 : decode cTS_isInstruction 16 = .ok (.goto 4, 3) := by decide +kernel
theorem dTS_isInstruction_19 : decode cTS_isInstruction 19 = .ok (.iconst 0, 1) := by decide +kernel
theorem dTS_isInstruction_20 : decode cTS_isInstruction 20 = .ok (.ireturn, 1) := by decide +kernel
theorem dTS_isPoint_0 : decode cTS_isPoint 0 = .ok (.iload_n 1, 1) := by decide +kernel
theorem dTS_isPoint_1 : decode cTS_isPoint 1 = .ok (.ifCond .lt 18, 3) := by decide +kernel
theorem dTS_isPoint_4 : decode cTS_isPoint 4 = .ok (.iload_n 1, 1) := by decide +kernel
theorem dTS_isPoint_5 : decode cTS_isPoint 5 = .ok (.aload_n 0, 1) := by decide +kernel
theorem dTS_isPoint_6 : decode cTS_isPoint 6 = .ok (.getfield 12, 3) := by decide +kernel
theorem dTS_isPoint_9 : decode cTS_isPoint 9 = .ok (.getfield 70, 3) := by decide +kernel
theorem dTS_isPoint_12 : decode cTS_isPoint 12 = .ok (.if_icmp .gt 7, 3) := by decide +kernel
theorem dTS_isPoint_15 : decode cTS_isPoint 15 = .ok (.iconst 1, 1) := by decide +kernel
theorem dTS_isPoint_16 : decode cTS_isPoint 16 = .ok (.goto 4, 3) := by decide +kernel
theorem dTS_isPoint_19 : decode cTS_isPoint 19 = .ok (.iconst 0, 1) := by decide +kernel
theorem dTS_isPoint_20 : decode cTS_isPoint 20 = .ok (.ireturn, 1) := by decide +kernel
theorem dTS_clear_0 : decode cTS_clear 0 = .ok (.aload_n 0, 1) := by decide +kernel
theorem dTS_clear_1 : decode cTS_clear 1 = .ok (.getfield 12, 3) := by decide +kernel
theorem dTS_clear_4 : decode cTS_clear 4 = .ok (.getfield 70, 3) := by decide +kernel
theorem dTS_clear_7 : decode cTS_clear 7 = .ok (.istore_n 1, 1) := by decide +kernel
theorem dTS_clear_8 : decode cTS_clear 8 = .ok (.aload_n 0, 1) := by decide +kernel
theorem dTS_clear_9 : decode cTS_clear 9 = .ok (.getfield 12, 3) := by decide +kernel
theorem dTS_clear_12 : decode cTS_clear 12 = .ok (.iconst 0, 1) := by decide +kernel
theorem dTS_clear_13 : decode cTS_clear 13 = .ok (.putfield 70, 3) := by decide +kernel
theorem dTS_clear_16 : decode cTS_clear 16 = .ok (.aload_n 0, 1) := by decide +kernel
theorem dTS_clear_17 : decode cTS_clear 17 = .ok (.iconst 0, 1) := by decide +kernel
theorem dTS_clear_18 : decode cTS_clear 18 = .ok (.putfield 51, 3) := by decide +kernel
theorem dTS_clear_21 : decode cTS_clear 21 = .ok (.iload_n 1, 1) := by decide +kernel
theorem dTS_clear_22 : decode cTS_clear 22 = .ok (.ireturn, 1) := by decide +kernel
theorem dTS_size_0 : decode cTS_size 0 = .ok (.aload_n 0, 1) := by decide +kernel
theorem dTS_size_1 : decode cTS_size 1 = .ok (.getfield 12, 3) := by decide +kernel
theorem dTS_size_4 : decode cTS_size 4 = .ok (.getfield 70, 3) := by decide +kernel
theorem dTS_size_7 : decode cTS_size 7 = .ok (.ireturn, 1) := by decide +kernel
theorem dTS_steps_0 : decode cTS_steps 0 = .ok (.aload_n 0, 1) := by decide +kernel
theorem dTS_steps_1 : decode cTS_steps 1 = .ok (.getfield 47, 3) := by decide +kernel
theorem dTS_steps_4 : decode cTS_steps 4 = .ok (.getfield 142, 3) := by decide +kernel
theorem dTS_steps_7 : decode cTS_steps 7 = .ok (.ireturn, 1) := by decide +kernel
theorem dTS_printed_0 : decode cTS_printed 0 = .ok (.aload_n 0, 1) := by decide +kernel
theorem dTS_printed_1 : decode cTS_printed 1 = .ok (.getfield 47, 3) := by decide +kernel
theorem dTS_printed_4 : decode cTS_printed 4 = .ok (.getfield 145, 3) := by decide +kernel
theorem dTS_printed_7 : decode cTS_printed 7 = .ok (.ireturn, 1) := by decide +kernel
theorem dTS_kept_0 : decode cTS_kept 0 = .ok (.aload_n 0, 1) := by decide +kernel
theorem dTS_kept_1 : decode cTS_kept 1 = .ok (.getfield 47, 3) := by decide +kernel
theorem dTS_kept_4 : decode cTS_kept 4 = .ok (.invokevirtual 151, 3) := by decide +kernel
theorem dTS_kept_7 : decode cTS_kept 7 = .ok (.ireturn, 1) := by decide +kernel
theorem dTS_lookThrough_0 : decode cTS_lookThrough 0 = .ok (.aload_n 0, 1) := by decide +kernel
theorem dTS_lookThrough_1 : decode cTS_lookThrough 1 = .ok (.getfield 26, 3) := by decide +kernel
theorem dTS_lookThrough_4 : decode cTS_lookThrough 4 = .ok (.aload_n 1, 1) := by decide +kernel
theorem dTS_lookThrough_5 : decode cTS_lookThrough 5 = .ok (.invokevirtual 170, 3) := by decide +kernel
theorem dTS_lookThrough_8 : decode cTS_lookThrough 8 = .ok (.aload_n 0, 1) := by decide +kernel
theorem dTS_lookThrough_9 : decode cTS_lookThrough 9 = .ok (.getfield 33, 3) := by decide +kernel
theorem dTS_lookThrough_12 : decode cTS_lookThrough 12 = .ok (.aload_n 1, 1) := by decide +kernel
theorem dTS_lookThrough_13 : decode cTS_lookThrough 13 = .ok (.aload_n 0, 1) := by decide +kernel
theorem dTS_lookThrough_14 : decode cTS_lookThrough 14 = .ok (.getfield 26, 3) := by decide +kernel
theorem dTS_lookThrough_17 : decode cTS_lookThrough 17 = .ok (.invokevirtual 173, 3) := by decide +kernel
theorem dTS_lookThrough_20 : decode cTS_lookThrough 20 = .ok (.aload_n 0, 1) := by decide +kernel
theorem dTS_lookThrough_21 : decode cTS_lookThrough 21 = .ok (.getfield 40, 3) := by decide +kernel
theorem dTS_lookThrough_24 : decode cTS_lookThrough 24 = .ok (.aload_n 1, 1) := by decide +kernel
theorem dTS_lookThrough_25 : decode cTS_lookThrough 25 = .ok (.aload_n 0, 1) := by decide +kernel
theorem dTS_lookThrough_26 : decode cTS_lookThrough 26 = .ok (.getfield 26, 3) := by decide +kernel
theorem dTS_lookThrough_29 : decode cTS_lookThrough 29 = .ok (.aload_n 0, 1) := by decide +kernel
theorem dTS_lookThrough_30 : decode cTS_lookThrough 30 = .ok (.getfield 33, 3) := by decide +kernel
theorem dTS_lookThrough_33 : decode cTS_lookThrough 33 = .ok (.invokevirtual 176, 3) := by decide +kernel
theorem dTS_lookThrough_36 : decode cTS_lookThrough 36 = .ok (.return_, 1) := by decide +kernel
theorem dTS_dropWhatIsKnown_0 : decode cTS_dropWhatIsKnown 0 = .ok (.iconst 0, 1) := by decide +kernel
theorem dTS_dropWhatIsKnown_1 : decode cTS_dropWhatIsKnown 1 = .ok (.istore_n 1, 1) := by decide +kernel
theorem dTS_dropWhatIsKnown_2 : decode cTS_dropWhatIsKnown 2 = .ok (.iconst 0, 1) := by decide +kernel
theorem dTS_dropWhatIsKnown_3 : decode cTS_dropWhatIsKnown 3 = .ok (.istore_n 2, 1) := by decide +kernel
theorem dTS_dropWhatIsKnown_4 : decode cTS_dropWhatIsKnown 4 = .ok (.iload_n 2, 1) := by decide +kernel
theorem dTS_dropWhatIsKnown_5 : decode cTS_dropWhatIsKnown 5 = .ok (.aload_n 0, 1) := by decide +kernel
theorem dTS_dropWhatIsKnown_6 : decode cTS_dropWhatIsKnown 6 = .ok (.getfield 16, 3) := by decide +kernel
theorem dTS_dropWhatIsKnown_9 : decode cTS_dropWhatIsKnown 9 = .ok (.getfield 70, 3) := by decide +kernel
theorem dTS_dropWhatIsKnown_12 : decode cTS_dropWhatIsKnown 12 = .ok (.if_icmp .ge 157, 3) := by decide +kernel
theorem dTS_dropWhatIsKnown_15 : decode cTS_dropWhatIsKnown 15 = .ok (.aload_n 0, 1) := by decide +kernel
theorem dTS_dropWhatIsKnown_16 : decode cTS_dropWhatIsKnown 16 = .ok (.getfield 33, 3) := by decide +kernel
theorem dTS_dropWhatIsKnown_19 : decode cTS_dropWhatIsKnown 19 = .ok (.getfield 185, 3) := by decide +kernel
theorem dTS_dropWhatIsKnown_22 : decode cTS_dropWhatIsKnown 22 = .ok (.iload_n 2, 1) := by decide +kernel
theorem dTS_dropWhatIsKnown_23 : decode cTS_dropWhatIsKnown 23 = .ok (.baload, 1) := by decide +kernel
theorem dTS_dropWhatIsKnown_24 : decode cTS_dropWhatIsKnown 24 = .ok (.ifCond .ne 6, 3) := by decide +kernel
theorem dTS_dropWhatIsKnown_27 : decode cTS_dropWhatIsKnown 27 = .ok (.goto 136, 3) := by decide +kernel
theorem dTS_dropWhatIsKnown_30 : decode cTS_dropWhatIsKnown 30 = .ok (.aload_n 0, 1) := by decide +kernel
theorem dTS_dropWhatIsKnown_31 : decode cTS_dropWhatIsKnown 31 = .ok (.getfield 16, 3) := by decide +kernel
theorem dTS_dropWhatIsKnown_34 : decode cTS_dropWhatIsKnown 34 = .ok (.getfield 189, 3) := by decide +kernel
theorem dTS_dropWhatIsKnown_37 : decode cTS_dropWhatIsKnown 37 = .ok (.iload_n 2, 1) := by decide +kernel
theorem dTS_dropWhatIsKnown_38 : decode cTS_dropWhatIsKnown 38 = .ok (.iaload, 1) := by decide +kernel
theorem dTS_dropWhatIsKnown_39 : decode cTS_dropWhatIsKnown 39 = .ok (.istore_n 3, 1) := by decide +kernel
theorem dTS_dropWhatIsKnown_40 : decode cTS_dropWhatIsKnown 40 = .ok (.aload_n 0, 1) := by decide +kernel
theorem dTS_dropWhatIsKnown_41 : decode cTS_dropWhatIsKnown 41 = .ok (.getfield 16, 3) := by decide +kernel
theorem dTS_dropWhatIsKnown_44 : decode cTS_dropWhatIsKnown 44 = .ok (.getfield 192, 3) := by decide +kernel
theorem dTS_dropWhatIsKnown_47 : decode cTS_dropWhatIsKnown 47 = .ok (.iload_n 2, 1) := by decide +kernel
theorem dTS_dropWhatIsKnown_48 : decode cTS_dropWhatIsKnown 48 = .ok (.iaload, 1) := by decide +kernel
theorem dTS_dropWhatIsKnown_49 : decode cTS_dropWhatIsKnown 49 = .ok (.istore 4, 2) := by decide +kernel
theorem dTS_dropWhatIsKnown_51 : decode cTS_dropWhatIsKnown 51 = .ok (.aload_n 0, 1) := by decide +kernel
theorem dTS_dropWhatIsKnown_52 : decode cTS_dropWhatIsKnown 52 = .ok (.getfield 16, 3) := by decide +kernel
theorem dTS_dropWhatIsKnown_55 : decode cTS_dropWhatIsKnown 55 = .ok (.getfield 195, 3) := by decide +kernel
theorem dTS_dropWhatIsKnown_58 : decode cTS_dropWhatIsKnown 58 = .ok (.iload_n 2, 1) := by decide +kernel
theorem dTS_dropWhatIsKnown_59 : decode cTS_dropWhatIsKnown 59 = .ok (.iaload, 1) := by decide +kernel
theorem dTS_dropWhatIsKnown_60 : decode cTS_dropWhatIsKnown 60 = .ok (.istore 5, 2) := by decide +kernel
theorem dTS_dropWhatIsKnown_62 : decode cTS_dropWhatIsKnown 62 = .ok (.aload_n 0, 1) := by decide +kernel
theorem dTS_dropWhatIsKnown_63 : decode cTS_dropWhatIsKnown 63 = .ok (.getfield 33, 3) := by decide +kernel
theorem dTS_dropWhatIsKnown_66 : decode cTS_dropWhatIsKnown 66 = .ok (.getfield 198, 3) := by decide +kernel
theorem dTS_dropWhatIsKnown_69 : decode cTS_dropWhatIsKnown 69 = .ok (.iload_n 2, 1) := by decide +kernel
theorem dTS_dropWhatIsKnown_70 : decode cTS_dropWhatIsKnown 70 = .ok (.aaload, 1) := by decide +kernel
theorem dTS_dropWhatIsKnown_71 : decode cTS_dropWhatIsKnown 71 = .ok (.getfield 202, 3) := by decide +kernel
theorem dTS_dropWhatIsKnown_74 : decode cTS_dropWhatIsKnown 74 = .ok (.astore 6, 2) := by decide +kernel
theorem dTS_dropWhatIsKnown_76 : decode cTS_dropWhatIsKnown 76 = .ok (.iload_n 3, 1) := by decide +kernel
theorem dTS_dropWhatIsKnown_77 : decode cTS_dropWhatIsKnown 77 = .ok (.bipush 9, 2) := by decide +kernel
theorem dTS_dropWhatIsKnown_79 : decode cTS_dropWhatIsKnown 79 = .ok (.if_icmp .ne 43, 3) := by decide +kernel
theorem dTS_dropWhatIsKnown_82 : decode cTS_dropWhatIsKnown 82 = .ok (.aload 6, 2) := by decide +kernel
theorem dTS_dropWhatIsKnown_84 : decode cTS_dropWhatIsKnown 84 = .ok (.iload 5, 2) := by decide +kernel
theorem dTS_dropWhatIsKnown_86 : decode cTS_dropWhatIsKnown 86 = .ok (.iaload, 1) := by decide +kernel
theorem dTS_dropWhatIsKnown_87 : decode cTS_dropWhatIsKnown 87 = .ok (.ifCond .eq 35, 3) := by decide +kernel
theorem dTS_dropWhatIsKnown_90 : decode cTS_dropWhatIsKnown 90 = .ok (.aload_n 0, 1) := by decide +kernel
theorem dTS_dropWhatIsKnown_91 : decode cTS_dropWhatIsKnown 91 = .ok (.getfield 16, 3) := by decide +kernel
theorem dTS_dropWhatIsKnown_94 : decode cTS_dropWhatIsKnown 94 = .ok (.iload_n 2, 1) := by decide +kernel
theorem dTS_dropWhatIsKnown_95 : decode cTS_dropWhatIsKnown 95 = .ok (.iconst 1, 1) := by decide +kernel
theorem dTS_dropWhatIsKnown_96 : decode cTS_dropWhatIsKnown 96 = .ok (.iload 4, 2) := by decide +kernel
theorem dTS_dropWhatIsKnown_98 : decode cTS_dropWhatIsKnown 98 = .ok (.aload 6, 2) := by decide +kernel
theorem dTS_dropWhatIsKnown_100 : decode cTS_dropWhatIsKnown 100 = .ok (.iload 5, 2) := by decide +kernel
theorem dTS_dropWhatIsKnown_102 : decode cTS_dropWhatIsKnown 102 = .ok (.iaload, 1) := by decide +kernel
theorem dTS_dropWhatIsKnown_103 : decode cTS_dropWhatIsKnown 103 = .ok (.invokestatic 207, 3) := by decide +kernel
theorem dTS_dropWhatIsKnown_106 : decode cTS_dropWhatIsKnown 106 = .ok (.invokevirtual 213, 3) := by decide +kernel
theorem dTS_dropWhatIsKnown_109 : decode cTS_dropWhatIsKnown 109 = .ok (.aload_n 0, 1) := by decide +kernel
theorem dTS_dropWhatIsKnown_110 : decode cTS_dropWhatIsKnown 110 = .ok (.getfield 19, 3) := by decide +kernel
theorem dTS_dropWhatIsKnown_113 : decode cTS_dropWhatIsKnown 113 = .ok (.iload_n 2, 1) := by decide +kernel
theorem dTS_dropWhatIsKnown_114 : decode cTS_dropWhatIsKnown 114 = .ok (.iconst 1, 1) := by decide +kernel
theorem dTS_dropWhatIsKnown_115 : decode cTS_dropWhatIsKnown 115 = .ok (.iastore, 1) := by decide +kernel
theorem dTS_dropWhatIsKnown_116 : decode cTS_dropWhatIsKnown 116 = .ok (.iinc 1 1, 3) := by decide +kernel
theorem dTS_dropWhatIsKnown_119 : decode cTS_dropWhatIsKnown 119 = .ok (.goto 44, 3) := by decide +kernel
theorem dTS_dropWhatIsKnown_122 : decode cTS_dropWhatIsKnown 122 = .ok (.iload_n 3, 1) := by decide +kernel
theorem dTS_dropWhatIsKnown_123 : decode cTS_dropWhatIsKnown 123 = .ok (.bipush 10, 2) := by decide +kernel
theorem dTS_dropWhatIsKnown_125 : decode cTS_dropWhatIsKnown 125 = .ok (.if_icmp .ne 38, 3) := by decide +kernel
theorem dTS_dropWhatIsKnown_128 : decode cTS_dropWhatIsKnown 128 = .ok (.aload 6, 2) := by decide +kernel
theorem dTS_dropWhatIsKnown_130 : decode cTS_dropWhatIsKnown 130 = .ok (.iload 4, 2) := by decide +kernel
theorem dTS_dropWhatIsKnown_132 : decode cTS_dropWhatIsKnown 132 = .ok (.iaload, 1) := by decide +kernel
theorem dTS_dropWhatIsKnown_133 : decode cTS_dropWhatIsKnown 133 = .ok (.iload 5, 2) := by decide +kernel
theorem dTS_dropWhatIsKnown_135 : decode cTS_dropWhatIsKnown 135 = .ok (.ishr, 1) := by decide +kernel
theorem dTS_dropWhatIsKnown_136 : decode cTS_dropWhatIsKnown 136 = .ok (.iconst 1, 1) := by decide +kernel
theorem dTS_dropWhatIsKnown_137 : decode cTS_dropWhatIsKnown 137 = .ok (.iand, 1) := by decide +kernel
theorem dTS_dropWhatIsKnown_138 : decode cTS_dropWhatIsKnown 138 = .ok (.ifCond .eq 25, 3) := by decide +kernel
theorem dTS_dropWhatIsKnown_141 : decode cTS_dropWhatIsKnown 141 = .ok (.aload_n 0, 1) := by decide +kernel
theorem dTS_dropWhatIsKnown_142 : decode cTS_dropWhatIsKnown 142 = .ok (.getfield 16, 3) := by decide +kernel
theorem dTS_dropWhatIsKnown_145 : decode cTS_dropWhatIsKnown 145 = .ok (.iload_n 2, 1) := by decide +kernel
theorem dTS_dropWhatIsKnown_146 : decode cTS_dropWhatIsKnown 146 = .ok (.bipush 15, 2) := by decide +kernel
theorem dTS_dropWhatIsKnown_148 : decode cTS_dropWhatIsKnown 148 = .ok (.iconst 0, 1) := by decide +kernel
theorem dTS_dropWhatIsKnown_149 : decode cTS_dropWhatIsKnown 149 = .ok (.iconst 0, 1) := by decide +kernel
theorem dTS_dropWhatIsKnown_150 : decode cTS_dropWhatIsKnown 150 = .ok (.invokevirtual 213, 3) := by decide +kernel
theorem dTS_dropWhatIsKnown_153 : decode cTS_dropWhatIsKnown 153 = .ok (.aload_n 0, 1) := by decide +kernel
theorem dTS_dropWhatIsKnown_154 : decode cTS_dropWhatIsKnown 154 = .ok (.getfield 19, 3) := by decide +kernel
theorem dTS_dropWhatIsKnown_157 : decode cTS_dropWhatIsKnown 157 = .ok (.iload_n 2, 1) := by decide +kernel
theorem dTS_dropWhatIsKnown_158 : decode cTS_dropWhatIsKnown 158 = .ok (.iconst 2, 1) := by decide +kernel
theorem dTS_dropWhatIsKnown_159 : decode cTS_dropWhatIsKnown 159 = .ok (.iastore, 1) := by decide +kernel
theorem dTS_dropWhatIsKnown_160 : decode cTS_dropWhatIsKnown 160 = .ok (.iinc 1 1, 3) := by decide +kernel
theorem dTS_dropWhatIsKnown_163 : decode cTS_dropWhatIsKnown 163 = .ok (.iinc 2 1, 3) := by decide +kernel
theorem dTS_dropWhatIsKnown_166 : decode cTS_dropWhatIsKnown 166 = .ok (.goto (-162), 3) := by decide +kernel
theorem dTS_dropWhatIsKnown_169 : decode cTS_dropWhatIsKnown 169 = .ok (.iload_n 1, 1) := by decide +kernel
theorem dTS_dropWhatIsKnown_170 : decode cTS_dropWhatIsKnown 170 = .ok (.ireturn, 1) := by decide +kernel
theorem dTS_dropWhatIsDead_0 : decode cTS_dropWhatIsDead 0 = .ok (.iconst 0, 1) := by decide +kernel
theorem dTS_dropWhatIsDead_1 : decode cTS_dropWhatIsDead 1 = .ok (.istore_n 1, 1) := by decide +kernel
theorem dTS_dropWhatIsDead_2 : decode cTS_dropWhatIsDead 2 = .ok (.iconst 0, 1) := by decide +kernel
theorem dTS_dropWhatIsDead_3 : decode cTS_dropWhatIsDead 3 = .ok (.istore_n 2, 1) := by decide +kernel
theorem dTS_dropWhatIsDead_4 : decode cTS_dropWhatIsDead 4 = .ok (.iload_n 2, 1) := by decide +kernel
theorem dTS_dropWhatIsDead_5 : decode cTS_dropWhatIsDead 5 = .ok (.aload_n 0, 1) := by decide +kernel
theorem dTS_dropWhatIsDead_6 : decode cTS_dropWhatIsDead 6 = .ok (.getfield 16, 3) := by decide +kernel
theorem dTS_dropWhatIsDead_9 : decode cTS_dropWhatIsDead 9 = .ok (.getfield 70, 3) := by decide +kernel
theorem dTS_dropWhatIsDead_12 : decode cTS_dropWhatIsDead 12 = .ok (.if_icmp .ge 110, 3) := by decide +kernel
theorem dTS_dropWhatIsDead_15 : decode cTS_dropWhatIsDead 15 = .ok (.aload_n 0, 1) := by decide +kernel
theorem dTS_dropWhatIsDead_16 : decode cTS_dropWhatIsDead 16 = .ok (.getfield 16, 3) := by decide +kernel
theorem dTS_dropWhatIsDead_19 : decode cTS_dropWhatIsDead 19 = .ok (.getfield 189, 3) := by decide +kernel
theorem dTS_dropWhatIsDead_22 : decode cTS_dropWhatIsDead 22 = .ok (.iload_n 2, 1) := by decide +kernel
theorem dTS_dropWhatIsDead_23 : decode cTS_dropWhatIsDead 23 = .ok (.iaload, 1) := by decide +kernel
theorem dTS_dropWhatIsDead_24 : decode cTS_dropWhatIsDead 24 = .ok (.bipush 10, 2) := by decide +kernel
theorem dTS_dropWhatIsDead_26 : decode cTS_dropWhatIsDead 26 = .ok (.if_icmp .ne 90, 3) := by decide +kernel
theorem dTS_dropWhatIsDead_29 : decode cTS_dropWhatIsDead 29 = .ok (.aload_n 0, 1) := by decide +kernel
theorem dTS_dropWhatIsDead_30 : decode cTS_dropWhatIsDead 30 = .ok (.getfield 33, 3) := by decide +kernel
theorem dTS_dropWhatIsDead_33 : decode cTS_dropWhatIsDead 33 = .ok (.getfield 185, 3) := by decide +kernel
theorem dTS_dropWhatIsDead_36 : decode cTS_dropWhatIsDead 36 = .ok (.iload_n 2, 1) := by decide +kernel
theorem dTS_dropWhatIsDead_37 : decode cTS_dropWhatIsDead 37 = .ok (.baload, 1) := by decide +kernel
theorem dTS_dropWhatIsDead_38 : decode cTS_dropWhatIsDead 38 = .ok (.ifCond .eq 78, 3) := by decide +kernel
theorem dTS_dropWhatIsDead_41 : decode cTS_dropWhatIsDead 41 = .ok (.aload_n 0, 1) := by decide +kernel
theorem dTS_dropWhatIsDead_42 : decode cTS_dropWhatIsDead 42 = .ok (.getfield 16, 3) := by decide +kernel
theorem dTS_dropWhatIsDead_45 : decode cTS_dropWhatIsDead 45 = .ok (.getfield 192, 3) := by decide +kernel
theorem dTS_dropWhatIsDead_48 : decode cTS_dropWhatIsDead 48 = .ok (.iload_n 2, 1) := by decide +kernel
theorem dTS_dropWhatIsDead_49 : decode cTS_dropWhatIsDead 49 = .ok (.iaload, 1) := by decide +kernel
theorem dTS_dropWhatIsDead_50 : decode cTS_dropWhatIsDead 50 = .ok (.istore_n 3, 1) := by decide +kernel
theorem dTS_dropWhatIsDead_51 : decode cTS_dropWhatIsDead 51 = .ok (.aload_n 0, 1) := by decide +kernel
theorem dTS_dropWhatIsDead_52 : decode cTS_dropWhatIsDead 52 = .ok (.getfield 33, 3) := by decide +kernel
theorem dTS_dropWhatIsDead_55 : decode cTS_dropWhatIsDead 55 = .ok (.getfield 198, 3) := by decide +kernel
theorem dTS_dropWhatIsDead_58 : decode cTS_dropWhatIsDead 58 = .ok (.iload_n 2, 1) := by decide +kernel
theorem dTS_dropWhatIsDead_59 : decode cTS_dropWhatIsDead 59 = .ok (.aaload, 1) := by decide +kernel
theorem dTS_dropWhatIsDead_60 : decode cTS_dropWhatIsDead 60 = .ok (.getfield 217, 3) := by decide +kernel
theorem dTS_dropWhatIsDead_63 : decode cTS_dropWhatIsDead 63 = .ok (.iload_n 3, 1) := by decide +kernel
theorem dTS_dropWhatIsDead_64 : decode cTS_dropWhatIsDead 64 = .ok (.ishr, 1) := by decide +kernel
theorem dTS_dropWhatIsDead_65 : decode cTS_dropWhatIsDead 65 = .ok (.iconst 1, 1) := by decide +kernel
theorem dTS_dropWhatIsDead_66 : decode cTS_dropWhatIsDead 66 = .ok (.iand, 1) := by decide +kernel
theorem dTS_dropWhatIsDead_67 : decode cTS_dropWhatIsDead 67 = .ok (.ifCond .eq 7, 3) := by decide +kernel
theorem dTS_dropWhatIsDead_70 : decode cTS_dropWhatIsDead 70 = .ok (.iconst 1, 1) := by decide +kernel
theorem dTS_dropWhatIsDead_71 : decode cTS_dropWhatIsDead 71 = .ok (.goto 4, 3) := by decide +kernel
theorem dTS_dropWhatIsDead_74 : decode cTS_dropWhatIsDead 74 = .ok (.iconst 0, 1) := by decide +kernel
theorem dTS_dropWhatIsDead_75 : decode cTS_dropWhatIsDead 75 = .ok (.istore 4, 2) := by decide +kernel
theorem dTS_dropWhatIsDead_77 : decode cTS_dropWhatIsDead 77 = .ok (.iload 4, 2) := by decide +kernel
theorem dTS_dropWhatIsDead_79 : decode cTS_dropWhatIsDead 79 = .ok (.ifCond .eq 37, 3) := by decide +kernel
theorem dTS_dropWhatIsDead_82 : decode cTS_dropWhatIsDead 82 = .ok (.aload_n 0, 1) := by decide +kernel
theorem dTS_dropWhatIsDead_83 : decode cTS_dropWhatIsDead 83 = .ok (.getfield 40, 3) := by decide +kernel
theorem dTS_dropWhatIsDead_86 : decode cTS_dropWhatIsDead 86 = .ok (.iload_n 2, 1) := by decide +kernel
theorem dTS_dropWhatIsDead_87 : decode cTS_dropWhatIsDead 87 = .ok (.iload_n 3, 1) := by decide +kernel
theorem dTS_dropWhatIsDead_88 : decode cTS_dropWhatIsDead 88 = .ok (.invokevirtual 135, 3) := by decide +kernel
theorem dTS_dropWhatIsDead_91 : decode cTS_dropWhatIsDead 91 = .ok (.ifCond .eq 25, 3) := by decide +kernel
theorem dTS_dropWhatIsDead_94 : decode cTS_dropWhatIsDead 94 = .ok (.aload_n 0, 1) := by decide +kernel
theorem dTS_dropWhatIsDead_95 : decode cTS_dropWhatIsDead 95 = .ok (.getfield 16, 3) := by decide +kernel
theorem dTS_dropWhatIsDead_98 : decode cTS_dropWhatIsDead 98 = .ok (.iload_n 2, 1) := by decide +kernel
theorem dTS_dropWhatIsDead_99 : decode cTS_dropWhatIsDead 99 = .ok (.bipush 15, 2) := by decide +kernel
theorem dTS_dropWhatIsDead_101 : decode cTS_dropWhatIsDead 101 = .ok (.iconst 0, 1) := by decide +kernel
theorem dTS_dropWhatIsDead_102 : decode cTS_dropWhatIsDead 102 = .ok (.iconst 0, 1) := by decide +kernel
theorem dTS_dropWhatIsDead_103 : decode cTS_dropWhatIsDead 103 = .ok (.invokevirtual 213, 3) := by decide +kernel
theorem dTS_dropWhatIsDead_106 : decode cTS_dropWhatIsDead 106 = .ok (.aload_n 0, 1) := by decide +kernel
theorem dTS_dropWhatIsDead_107 : decode cTS_dropWhatIsDead 107 = .ok (.getfield 19, 3) := by decide +kernel
theorem dTS_dropWhatIsDead_110 : decode cTS_dropWhatIsDead 110 = .ok (.iload_n 2, 1) := by decide +kernel
theorem dTS_dropWhatIsDead_111 : decode cTS_dropWhatIsDead 111 = .ok (.iconst 3, 1) := by decide +kernel
theorem dTS_dropWhatIsDead_112 : decode cTS_dropWhatIsDead 112 = .ok (.iastore, 1) := by decide +kernel
theorem dTS_dropWhatIsDead_113 : decode cTS_dropWhatIsDead 113 = .ok (.iinc 1 1, 3) := by decide +kernel
theorem dTS_dropWhatIsDead_116 : decode cTS_dropWhatIsDead 116 = .ok (.iinc 2 1, 3) := by decide +kernel
theorem dTS_dropWhatIsDead_119 : decode cTS_dropWhatIsDead 119 = .ok (.goto (-115), 3) := by decide +kernel
theorem dTS_dropWhatIsDead_122 : decode cTS_dropWhatIsDead 122 = .ok (.iload_n 1, 1) := by decide +kernel
theorem dTS_dropWhatIsDead_123 : decode cTS_dropWhatIsDead 123 = .ok (.ireturn, 1) := by decide +kernel
theorem dTS_makeRound_0 : decode cTS_makeRound 0 = .ok (.aload_n 0, 1) := by decide +kernel
theorem dTS_makeRound_1 : decode cTS_makeRound 1 = .ok (.aload_n 0, 1) := by decide +kernel
theorem dTS_makeRound_2 : decode cTS_makeRound 2 = .ok (.getfield 16, 3) := by decide +kernel
theorem dTS_makeRound_5 : decode cTS_makeRound 5 = .ok (.invokevirtual 98, 3) := by decide +kernel
theorem dTS_makeRound_8 : decode cTS_makeRound 8 = .ok (.aload_n 0, 1) := by decide +kernel
theorem dTS_makeRound_9 : decode cTS_makeRound 9 = .ok (.invokevirtual 179, 3) := by decide +kernel
theorem dTS_makeRound_12 : decode cTS_makeRound 12 = .ok (.istore_n 1, 1) := by decide +kernel
theorem dTS_makeRound_13 : decode cTS_makeRound 13 = .ok (.iload_n 1, 1) := by decide +kernel
theorem dTS_makeRound_14 : decode cTS_makeRound 14 = .ok (.ifCond .le 11, 3) := by decide +kernel
theorem dTS_makeRound_17 : decode cTS_makeRound 17 = .ok (.aload_n 0, 1) := by decide +kernel
theorem dTS_makeRound_18 : decode cTS_makeRound 18 = .ok (.aload_n 0, 1) := by decide +kernel
theorem dTS_makeRound_19 : decode cTS_makeRound 19 = .ok (.getfield 16, 3) := by decide +kernel
theorem dTS_makeRound_22 : decode cTS_makeRound 22 = .ok (.invokevirtual 98, 3) := by decide +kernel
theorem dTS_makeRound_25 : decode cTS_makeRound 25 = .ok (.iload_n 1, 1) := by decide +kernel
theorem dTS_makeRound_26 : decode cTS_makeRound 26 = .ok (.aload_n 0, 1) := by decide +kernel
theorem dTS_makeRound_27 : decode cTS_makeRound 27 = .ok (.invokevirtual 182, 3) := by decide +kernel
theorem dTS_makeRound_30 : decode cTS_makeRound 30 = .ok (.iadd, 1) := by decide +kernel
theorem dTS_makeRound_31 : decode cTS_makeRound 31 = .ok (.ireturn, 1) := by decide +kernel
