theorem dLA_add_0 : decode cLA_add 0 = .ok (.aload 5, 2) := by decide +kernel
theorem dLA_add_2 : decode cLA_add 2 = .ok (.iconst 0, 1) := by decide +kernel
theorem dLA_add_3 : decode cLA_add 3 = .ok (.aload_n 0, 1) := by decide +kernel
theorem dLA_add_4 : decode cLA_add 4 = .ok (.iload_n 1, 1) := by decide +kernel
theorem dLA_add_5 : decode cLA_add 5 = .ok (.iload_n 2, 1) := by decide +kernel
theorem dLA_add_6 : decode cLA_add 6 = .ok (.iload_n 3, 1) := by decide +kernel
theorem dLA_add_7 : decode cLA_add 7 = .ok (.iload 4, 2) := by decide +kernel
theorem dLA_add_9 : decode cLA_add 9 = .ok (.invokevirtual 7, 3) := by decide +kernel
theorem dLA_add_12 : decode cLA_add 12 = .ok (.i2l, 1) := by decide +kernel
theorem dLA_add_13 : decode cLA_add 13 = .ok (.lastore, 1) := by decide +kernel
theorem dLA_add_14 : decode cLA_add 14 = .ok (.goto 11, 3) := by decide +kernel
theorem dLA_add_17 : decode cLA_add 17 = .ok (.astore 6, 2) := by decide +kernel
theorem dLA_add_19 : decode cLA_add 19 = .ok (.iconst 1, 1) := by decide +kernel
theorem dLA_add_20 : decode cLA_add 20 = .ok (.ireturn, 1) := by decide +kernel
theorem dLA_add_21 : decode cLA_add 21 = .ok (.astore 6, 2) := by decide +kernel
theorem dLA_add_23 : decode cLA_add 23 = .ok (.iconst 2, 1) := by decide +kernel
theorem dLA_add_24 : decode cLA_add 24 = .ok (.ireturn, 1) := by decide +kernel
theorem dLA_add_25 : decode cLA_add 25 = .ok (.iconst 0, 1) := by decide +kernel
theorem dLA_add_26 : decode cLA_add 26 = .ok (.ireturn, 1) := by decide +kernel
theorem dLA_thrift_0 : decode cLA_thrift 0 = .ok (.aload_n 1, 1) := by decide +kernel
theorem dLA_thrift_1 : decode cLA_thrift 1 = .ok (.iconst 0, 1) := by decide +kernel
theorem dLA_thrift_2 : decode cLA_thrift 2 = .ok (.aload_n 0, 1) := by decide +kernel
theorem dLA_thrift_3 : decode cLA_thrift 3 = .ok (.invokevirtual 17, 3) := by decide +kernel
theorem dLA_thrift_6 : decode cLA_thrift 6 = .ok (.i2l, 1) := by decide +kernel
theorem dLA_thrift_7 : decode cLA_thrift 7 = .ok (.lastore, 1) := by decide +kernel
theorem dLA_thrift_8 : decode cLA_thrift 8 = .ok (.goto 6, 3) := by decide +kernel
theorem dLA_thrift_11 : decode cLA_thrift 11 = .ok (.astore_n 2, 1) := by decide +kernel
theorem dLA_thrift_12 : decode cLA_thrift 12 = .ok (.iconst 1, 1) := by decide +kernel
theorem dLA_thrift_13 : decode cLA_thrift 13 = .ok (.ireturn, 1) := by decide +kernel
theorem dLA_thrift_14 : decode cLA_thrift 14 = .ok (.iconst 0, 1) := by decide +kernel
theorem dLA_thrift_15 : decode cLA_thrift 15 = .ok (.ireturn, 1) := by decide +kernel
theorem dLA_instruction_0 : decode cLA_instruction 0 = .ok (.aload 4, 2) := by decide +kernel
theorem dLA_instruction_2 : decode cLA_instruction 2 = .ok (.iconst 0, 1) := by decide +kernel
theorem dLA_instruction_3 : decode cLA_instruction 3 = .ok (.aload_n 0, 1) := by decide +kernel
theorem dLA_instruction_4 : decode cLA_instruction 4 = .ok (.iload_n 1, 1) := by decide +kernel
theorem dLA_instruction_5 : decode cLA_instruction 5 = .ok (.iload_n 2, 1) := by decide +kernel
theorem dLA_instruction_6 : decode cLA_instruction 6 = .ok (.iload_n 3, 1) := by decide +kernel
theorem dLA_instruction_7 : decode cLA_instruction 7 = .ok (.invokevirtual 21, 3) := by decide +kernel
theorem dLA_instruction_10 : decode cLA_instruction 10 = .ok (.i2l, 1) := by decide +kernel
theorem dLA_instruction_11 : decode cLA_instruction 11 = .ok (.lastore, 1) := by decide +kernel
theorem dLA_instruction_12 : decode cLA_instruction 12 = .ok (.goto 15, 3) := by decide +kernel
theorem dLA_instruction_15 : decode cLA_instruction 15 = .ok (.astore 5, 2) := by decide +kernel
theorem dLA_instruction_17 : decode cLA_instruction 17 = .ok (.iconst 1, 1) := by decide +kernel
theorem dLA_instruction_18 : decode cLA_instruction 18 = .ok (.ireturn, 1) := by decide +kernel
theorem dLA_instruction_19 : decode cLA_instruction 19 = .ok (.astore 5, 2) := by decide +kernel
theorem dLA_instruction_21 : decode cLA_instruction 21 = .ok (.iconst 2, 1) := by decide +kernel
theorem dLA_instruction_22 : decode cLA_instruction 22 = .ok (.ireturn, 1) := by decide +kernel
theorem dLA_instruction_23 : decode cLA_instruction 23 = .ok (.astore 5, 2) := by decide +kernel
theorem dLA_instruction_25 : decode cLA_instruction 25 = .ok (.iconst 3, 1) := by decide +kernel
theorem dLA_instruction_26 : decode cLA_instruction 26 = .ok (.ireturn, 1) := by decide +kernel
theorem dLA_instruction_27 : decode cLA_instruction 27 = .ok (.iconst 0, 1) := by decide +kernel
theorem dLA_instruction_28 : decode cLA_instruction 28 = .ok (.ireturn, 1) := by decide +kernel
theorem dLA_fate_0 : decode cLA_fate 0 = .ok (.aload_n 2, 1) := by decide +kernel
theorem dLA_fate_1 : decode cLA_fate 1 = .ok (.iconst 0, 1) := by decide +kernel
theorem dLA_fate_2 : decode cLA_fate 2 = .ok (.aload_n 0, 1) := by decide +kernel
theorem dLA_fate_3 : decode cLA_fate 3 = .ok (.iload_n 1, 1) := by decide +kernel
theorem dLA_fate_4 : decode cLA_fate 4 = .ok (.invokevirtual 27, 3) := by decide +kernel
theorem dLA_fate_7 : decode cLA_fate 7 = .ok (.i2l, 1) := by decide +kernel
theorem dLA_fate_8 : decode cLA_fate 8 = .ok (.lastore, 1) := by decide +kernel
theorem dLA_fate_9 : decode cLA_fate 9 = .ok (.goto 9, 3) := by decide +kernel
theorem dLA_fate_12 : decode cLA_fate 12 = .ok (.astore_n 3, 1) := by decide +kernel
theorem dLA_fate_13 : decode cLA_fate 13 = .ok (.iconst 1, 1) := by decide +kernel
theorem dLA_fate_14 : decode cLA_fate 14 = .ok (.ireturn, 1) := by decide +kernel
theorem dLA_fate_15 : decode cLA_fate 15 = .ok (.astore_n 3, 1) := by decide +kernel
theorem dLA_fate_16 : decode cLA_fate 16 = .ok (.iconst 2, 1) := by decide +kernel
theorem dLA_fate_17 : decode cLA_fate 17 = .ok (.ireturn, 1) := by decide +kernel
theorem dLA_fate_18 : decode cLA_fate 18 = .ok (.iconst 0, 1) := by decide +kernel
theorem dLA_fate_19 : decode cLA_fate 19 = .ok (.ireturn, 1) := by decide +kernel
theorem dLA_rounds_0 : decode cLA_rounds 0 = .ok (.aload_n 1, 1) := by decide +kernel
theorem dLA_rounds_1 : decode cLA_rounds 1 = .ok (.iconst 0, 1) := by decide +kernel
theorem dLA_rounds_2 : decode cLA_rounds 2 = .ok (.aload_n 0, 1) := by decide +kernel
theorem dLA_rounds_3 : decode cLA_rounds 3 = .ok (.invokevirtual 31, 3) := by decide +kernel
theorem dLA_rounds_6 : decode cLA_rounds 6 = .ok (.i2l, 1) := by decide +kernel
theorem dLA_rounds_7 : decode cLA_rounds 7 = .ok (.lastore, 1) := by decide +kernel
theorem dLA_rounds_8 : decode cLA_rounds 8 = .ok (.goto 6, 3) := by decide +kernel
theorem dLA_rounds_11 : decode cLA_rounds 11 = .ok (.astore_n 2, 1) := by decide +kernel
theorem dLA_rounds_12 : decode cLA_rounds 12 = .ok (.iconst 1, 1) := by decide +kernel
theorem dLA_rounds_13 : decode cLA_rounds 13 = .ok (.ireturn, 1) := by decide +kernel
theorem dLA_rounds_14 : decode cLA_rounds 14 = .ok (.iconst 0, 1) := by decide +kernel
theorem dLA_rounds_15 : decode cLA_rounds 15 = .ok (.ireturn, 1) := by decide +kernel
theorem dLA_may_0 : decode cLA_may 0 = .ok (.aload_n 3, 1) := by decide +kernel
theorem dLA_may_1 : decode cLA_may 1 = .ok (.iconst 0, 1) := by decide +kernel
theorem dLA_may_2 : decode cLA_may 2 = .ok (.aload_n 0, 1) := by decide +kernel
theorem dLA_may_3 : decode cLA_may 3 = .ok (.iload_n 1, 1) := by decide +kernel
theorem dLA_may_4 : decode cLA_may 4 = .ok (.iload_n 2, 1) := by decide +kernel
theorem dLA_may_5 : decode cLA_may 5 = .ok (.invokevirtual 34, 3) := by decide +kernel
theorem dLA_may_8 : decode cLA_may 8 = .ok (.ifCond .eq 7, 3) := by decide +kernel
theorem dLA_may_11 : decode cLA_may 11 = .ok (.lconst 1, 1) := by decide +kernel
theorem dLA_may_12 : decode cLA_may 12 = .ok (.goto 4, 3) := by decide +kernel
theorem dLA_may_15 : decode cLA_may 15 = .ok (.lconst 0, 1) := by decide +kernel
theorem dLA_may_16 : decode cLA_may 16 = .ok (.lastore, 1) := by decide +kernel
theorem dLA_may_17 : decode cLA_may 17 = .ok (.goto 11, 3) := by decide +kernel
theorem dLA_may_20 : decode cLA_may 20 = .ok (.astore 4, 2) := by decide +kernel
theorem dLA_may_22 : decode cLA_may 22 = .ok (.iconst 1, 1) := by decide +kernel
theorem dLA_may_23 : decode cLA_may 23 = .ok (.ireturn, 1) := by decide +kernel
theorem dLA_may_24 : decode cLA_may 24 = .ok (.astore 4, 2) := by decide +kernel
theorem dLA_may_26 : decode cLA_may 26 = .ok (.iconst 2, 1) := by decide +kernel
theorem dLA_may_27 : decode cLA_may 27 = .ok (.ireturn, 1) := by decide +kernel
theorem dLA_may_28 : decode cLA_may 28 = .ok (.iconst 0, 1) := by decide +kernel
theorem dLA_may_29 : decode cLA_may 29 = .ok (.ireturn, 1) := by decide +kernel
theorem dLA_inside_0 : decode cLA_inside 0 = .ok (.aload_n 3, 1) := by decide +kernel
theorem dLA_inside_1 : decode cLA_inside 1 = .ok (.iconst 0, 1) := by decide +kernel
theorem dLA_inside_2 : decode cLA_inside 2 = .ok (.aload_n 0, 1) := by decide +kernel
theorem dLA_inside_3 : decode cLA_inside 3 = .ok (.iload_n 1, 1) := by decide +kernel
theorem dLA_inside_4 : decode cLA_inside 4 = .ok (.iload_n 2, 1) := by decide +kernel
theorem dLA_inside_5 : decode cLA_inside 5 = .ok (.invokevirtual 38, 3) := by decide +kernel
theorem dLA_inside_8 : decode cLA_inside 8 = .ok (.ifCond .eq 7, 3) := by decide +kernel
theorem dLA_inside_11 : decode cLA_inside 11 = .ok (.lconst 1, 1) := by decide +kernel
theorem dLA_inside_12 : decode cLA_inside 12 = .ok (.goto 4, 3) := by decide +kernel
theorem dLA_inside_15 : decode cLA_inside 15 = .ok (.lconst 0, 1) := by decide +kernel
theorem dLA_inside_16 : decode cLA_inside 16 = .ok (.lastore, 1) := by decide +kernel
theorem dLA_inside_17 : decode cLA_inside 17 = .ok (.goto 11, 3) := by decide +kernel
theorem dLA_inside_20 : decode cLA_inside 20 = .ok (.astore 4, 2) := by decide +kernel
theorem dLA_inside_22 : decode cLA_inside 22 = .ok (.iconst 1, 1) := by decide +kernel
theorem dLA_inside_23 : decode cLA_inside 23 = .ok (.ireturn, 1) := by decide +kernel
theorem dLA_inside_24 : decode cLA_inside 24 = .ok (.astore 4, 2) := by decide +kernel
theorem dLA_inside_26 : decode cLA_inside 26 = .ok (.iconst 2, 1) := by decide +kernel
theorem dLA_inside_27 : decode cLA_inside 27 = .ok (.ireturn, 1) := by decide +kernel
theorem dLA_inside_28 : decode cLA_inside 28 = .ok (.iconst 0, 1) := by decide +kernel
theorem dLA_inside_29 : decode cLA_inside 29 = .ok (.ireturn, 1) := by decide +kernel
theorem dLA_fact_0 : decode cLA_fact 0 = .ok (.aload 5, 2) := by decide +kernel
theorem dLA_fact_2 : decode cLA_fact 2 = .ok (.iconst 0, 1) := by decide +kernel
theorem dLA_fact_3 : decode cLA_fact 3 = .ok (.aload_n 0, 1) := by decide +kernel
theorem dLA_fact_4 : decode cLA_fact 4 = .ok (.iload_n 1, 1) := by decide +kernel
theorem dLA_fact_5 : decode cLA_fact 5 = .ok (.iload_n 2, 1) := by decide +kernel
theorem dLA_fact_6 : decode cLA_fact 6 = .ok (.iload_n 3, 1) := by decide +kernel
theorem dLA_fact_7 : decode cLA_fact 7 = .ok (.iload 4, 2) := by decide +kernel
theorem dLA_fact_9 : decode cLA_fact 9 = .ok (.invokevirtual 41, 3) := by decide +kernel
theorem dLA_fact_12 : decode cLA_fact 12 = .ok (.ifCond .eq 7, 3) := by decide +kernel
theorem dLA_fact_15 : decode cLA_fact 15 = .ok (.lconst 1, 1) := by decide +kernel
theorem dLA_fact_16 : decode cLA_fact 16 = .ok (.goto 4, 3) := by decide +kernel
theorem dLA_fact_19 : decode cLA_fact 19 = .ok (.lconst 0, 1) := by decide +kernel
theorem dLA_fact_20 : decode cLA_fact 20 = .ok (.lastore, 1) := by decide +kernel
theorem dLA_fact_21 : decode cLA_fact 21 = .ok (.goto 15, 3) := by decide +kernel
theorem dLA_fact_24 : decode cLA_fact 24 = .ok (.astore 6, 2) := by decide +kernel
theorem dLA_fact_26 : decode cLA_fact 26 = .ok (.iconst 1, 1) := by decide +kernel
theorem dLA_fact_27 : decode cLA_fact 27 = .ok (.ireturn, 1) := by decide +kernel
theorem dLA_fact_28 : decode cLA_fact 28 = .ok (.astore 6, 2) := by decide +kernel
theorem dLA_fact_30 : decode cLA_fact 30 = .ok (.iconst 2, 1) := by decide +kernel
theorem dLA_fact_31 : decode cLA_fact 31 = .ok (.ireturn, 1) := by decide +kernel
theorem dLA_fact_32 : decode cLA_fact 32 = .ok (.astore 6, 2) := by decide +kernel
theorem dLA_fact_34 : decode cLA_fact 34 = .ok (.iconst 3, 1) := by decide +kernel
theorem dLA_fact_35 : decode cLA_fact 35 = .ok (.ireturn, 1) := by decide +kernel
theorem dLA_fact_36 : decode cLA_fact 36 = .ok (.iconst 0, 1) := by decide +kernel
theorem dLA_fact_37 : decode cLA_fact 37 = .ok (.ireturn, 1) := by decide +kernel
theorem dLA_free_0 : decode cLA_free 0 = .ok (.aload_n 3, 1) := by decide +kernel
theorem dLA_free_1 : decode cLA_free 1 = .ok (.iconst 0, 1) := by decide +kernel
theorem dLA_free_2 : decode cLA_free 2 = .ok (.aload_n 0, 1) := by decide +kernel
theorem dLA_free_3 : decode cLA_free 3 = .ok (.iload_n 1, 1) := by decide +kernel
theorem dLA_free_4 : decode cLA_free 4 = .ok (.iload_n 2, 1) := by decide +kernel
theorem dLA_free_5 : decode cLA_free 5 = .ok (.invokevirtual 45, 3) := by decide +kernel
theorem dLA_free_8 : decode cLA_free 8 = .ok (.ifCond .eq 7, 3) := by decide +kernel
theorem dLA_free_11 : decode cLA_free 11 = .ok (.lconst 1, 1) := by decide +kernel
theorem dLA_free_12 : decode cLA_free 12 = .ok (.goto 4, 3) := by decide +kernel
theorem dLA_free_15 : decode cLA_free 15 = .ok (.lconst 0, 1) := by decide +kernel
theorem dLA_free_16 : decode cLA_free 16 = .ok (.lastore, 1) := by decide +kernel
theorem dLA_free_17 : decode cLA_free 17 = .ok (.goto 11, 3) := by decide +kernel
theorem dLA_free_20 : decode cLA_free 20 = .ok (.astore 4, 2) := by decide +kernel
theorem dLA_free_22 : decode cLA_free 22 = .ok (.iconst 1, 1) := by decide +kernel
theorem dLA_free_23 : decode cLA_free 23 = .ok (.ireturn, 1) := by decide +kernel
theorem dLA_free_24 : decode cLA_free 24 = .ok (.astore 4, 2) := by decide +kernel
theorem dLA_free_26 : decode cLA_free 26 = .ok (.iconst 2, 1) := by decide +kernel
theorem dLA_free_27 : decode cLA_free 27 = .ok (.ireturn, 1) := by decide +kernel
theorem dLA_free_28 : decode cLA_free 28 = .ok (.iconst 0, 1) := by decide +kernel
theorem dLA_free_29 : decode cLA_free 29 = .ok (.ireturn, 1) := by decide +kernel
theorem dLA_run_0 : decode cLA_run 0 = .ok (.aload_n 3, 1) := by decide +kernel
theorem dLA_run_1 : decode cLA_run 1 = .ok (.iconst 0, 1) := by decide +kernel
theorem dLA_run_2 : decode cLA_run 2 = .ok (.aload_n 0, 1) := by decide +kernel
theorem dLA_run_3 : decode cLA_run 3 = .ok (.iload_n 1, 1) := by decide +kernel
theorem dLA_run_4 : decode cLA_run 4 = .ok (.iload_n 2, 1) := by decide +kernel
theorem dLA_run_5 : decode cLA_run 5 = .ok (.invokevirtual 48, 3) := by decide +kernel
theorem dLA_run_8 : decode cLA_run 8 = .ok (.i2l, 1) := by decide +kernel
theorem dLA_run_9 : decode cLA_run 9 = .ok (.lastore, 1) := by decide +kernel
theorem dLA_run_10 : decode cLA_run 10 = .ok (.goto 11, 3) := by decide +kernel
theorem dLA_run_13 : decode cLA_run 13 = .ok (.astore 4, 2) := by decide +kernel
theorem dLA_run_15 : decode cLA_run 15 = .ok (.iconst 1, 1) := by decide +kernel
theorem dLA_run_16 : decode cLA_run 16 = .ok (.ireturn, 1) := by decide +kernel
theorem dLA_run_17 : decode cLA_run 17 = .ok (.astore 4, 2) := by decide +kernel
theorem dLA_run_19 : decode cLA_run 19 = .ok (.iconst 2, 1) := by decide +kernel
theorem dLA_run_20 : decode cLA_run 20 = .ok (.ireturn, 1) := by decide +kernel
theorem dLA_run_21 : decode cLA_run 21 = .ok (.iconst 0, 1) := by decide +kernel
theorem dLA_run_22 : decode cLA_run 22 = .ok (.ireturn, 1) := by decide +kernel
theorem dLA_print_0 : decode cLA_print 0 = .ok (.aload_n 2, 1) := by decide +kernel
theorem dLA_print_1 : decode cLA_print 1 = .ok (.iconst 0, 1) := by decide +kernel
theorem dLA_print_2 : decode cLA_print 2 = .ok (.aload_n 0, 1) := by decide +kernel
theorem dLA_print_3 : decode cLA_print 3 = .ok (.iload_n 1, 1) := by decide +kernel
theorem dLA_print_4 : decode cLA_print 4 = .ok (.invokevirtual 52, 3) := by decide +kernel
theorem dLA_print_7 : decode cLA_print 7 = .ok (.i2l, 1) := by decide +kernel
theorem dLA_print_8 : decode cLA_print 8 = .ok (.lastore, 1) := by decide +kernel
theorem dLA_print_9 : decode cLA_print 9 = .ok (.goto 6, 3) := by decide +kernel
theorem dLA_print_12 : decode cLA_print 12 = .ok (.astore_n 3, 1) := by decide +kernel
theorem dLA_print_13 : decode cLA_print 13 = .ok (.iconst 1, 1) := by decide +kernel
theorem dLA_print_14 : decode cLA_print 14 = .ok (.ireturn, 1) := by decide +kernel
theorem dLA_print_15 : decode cLA_print 15 = .ok (.iconst 0, 1) := by decide +kernel
theorem dLA_print_16 : decode cLA_print 16 = .ok (.ireturn, 1) := by decide +kernel
theorem dLA_cell_0 : decode cLA_cell 0 = .ok (.aload 4, 2) := by decide +kernel
theorem dLA_cell_2 : decode cLA_cell 2 = .ok (.iconst 0, 1) := by decide +kernel
theorem dLA_cell_3 : decode cLA_cell 3 = .ok (.aload_n 0, 1) := by decide +kernel
theorem dLA_cell_4 : decode cLA_cell 4 = .ok (.iload_n 1, 1) := by decide +kernel
theorem dLA_cell_5 : decode cLA_cell 5 = .ok (.iload_n 2, 1) := by decide +kernel
theorem dLA_cell_6 : decode cLA_cell 6 = .ok (.iload_n 3, 1) := by decide +kernel
theorem dLA_cell_7 : decode cLA_cell 7 = .ok (.invokevirtual 55, 3) := by decide +kernel
theorem dLA_cell_10 : decode cLA_cell 10 = .ok (.i2l, 1) := by decide +kernel
theorem dLA_cell_11 : decode cLA_cell 11 = .ok (.lastore, 1) := by decide +kernel
theorem dLA_cell_12 : decode cLA_cell 12 = .ok (.goto 11, 3) := by decide +kernel
theorem dLA_cell_15 : decode cLA_cell 15 = .ok (.astore 5, 2) := by decide +kernel
theorem dLA_cell_17 : decode cLA_cell 17 = .ok (.iconst 1, 1) := by decide +kernel
theorem dLA_cell_18 : decode cLA_cell 18 = .ok (.ireturn, 1) := by decide +kernel
theorem dLA_cell_19 : decode cLA_cell 19 = .ok (.astore 5, 2) := by decide +kernel
theorem dLA_cell_21 : decode cLA_cell 21 = .ok (.iconst 2, 1) := by decide +kernel
theorem dLA_cell_22 : decode cLA_cell 22 = .ok (.ireturn, 1) := by decide +kernel
theorem dLA_cell_23 : decode cLA_cell 23 = .ok (.iconst 0, 1) := by decide +kernel
theorem dLA_cell_24 : decode cLA_cell 24 = .ok (.ireturn, 1) := by decide +kernel
