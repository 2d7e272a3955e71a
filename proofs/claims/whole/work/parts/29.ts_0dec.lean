theorem dTS_needPresent_0 : decode cTS_needPresent 0 = .ok (.iload_n 0, 1) := by decide +kernel
theorem dTS_needPresent_1 : decode cTS_needPresent 1 = .ok (.ifCond .ne 13, 3) := by decide +kernel
theorem dTS_needPresent_4 : decode cTS_needPresent 4 = .ok (.new 161, 3) := by decide +kernel
theorem dTS_needPresent_7 : decode cTS_needPresent 7 = .ok (.dup, 1) := by decide +kernel
theorem dTS_needPresent_8 : decode cTS_needPresent 8 = .ok (.ldc 163, 2) := by decide +kernel
theorem dTS_needPresent_10 : decode cTS_needPresent 10 = .ok (.invokespecial 165, 3) := by decide +kernel
theorem dTS_needPresent_13 : decode cTS_needPresent 13 = .ok (.athrow, 1) := by decide +kernel
theorem dTS_needPresent_14 : decode cTS_needPresent 14 = .ok (.return_, 1) := by decide +kernel
theorem dTS_needSensible_0 : decode cTS_needSensible 0 = .ok (.iload_n 0, 1) := by decide +kernel
theorem dTS_needSensible_1 : decode cTS_needSensible 1 = .ok (.ifCond .ne 13, 3) := by decide +kernel
theorem dTS_needSensible_4 : decode cTS_needSensible 4 = .ok (.new 63, 3) := by decide +kernel
theorem dTS_needSensible_7 : decode cTS_needSensible 7 = .ok (.dup, 1) := by decide +kernel
theorem dTS_needSensible_8 : decode cTS_needSensible 8 = .ok (.ldc 166, 2) := by decide +kernel
theorem dTS_needSensible_10 : decode cTS_needSensible 10 = .ok (.invokespecial 67, 3) := by decide +kernel
theorem dTS_needSensible_13 : decode cTS_needSensible 13 = .ok (.athrow, 1) := by decide +kernel
theorem dTS_needSensible_14 : decode cTS_needSensible 14 = .ok (.return_, 1) := by decide +kernel
theorem dTS_needThrifty_0 : decode cTS_needThrifty 0 = .ok (.iload_n 1, 1) := by decide +kernel
theorem dTS_needThrifty_1 : decode cTS_needThrifty 1 = .ok (.ifCond .ne 20, 3) := by decide +kernel
theorem dTS_needThrifty_4 : decode cTS_needThrifty 4 = .ok (.aload_n 0, 1) := by decide +kernel
theorem dTS_needThrifty_5 : decode cTS_needThrifty 5 = .ok (.getfield 51, 3) := by decide +kernel
theorem dTS_needThrifty_8 : decode cTS_needThrifty 8 = .ok (.ifCond .ne 13, 3) := by decide +kernel
theorem dTS_needThrifty_11 : decode cTS_needThrifty 11 = .ok (.new 73, 3) := by decide +kernel
theorem dTS_needThrifty_14 : decode cTS_needThrifty 14 = .ok (.dup, 1) := by decide +kernel
theorem dTS_needThrifty_15 : decode cTS_needThrifty 15 = .ok (.ldc 168, 2) := by decide +kernel
theorem dTS_needThrifty_17 : decode cTS_needThrifty 17 = .ok (.invokespecial 77, 3) := by decide +kernel
theorem dTS_needThrifty_20 : decode cTS_needThrifty 20 = .ok (.athrow, 1) := by decide +kernel
theorem dTS_needThrifty_21 : decode cTS_needThrifty 21 = .ok (.return_, 1) := by decide +kernel
theorem dTS_add_0 : decode cTS_add 0 = .ok (.iload_n 1, 1) := by decide +kernel
theorem dTS_add_1 : decode cTS_add 1 = .ok (.iload_n 2, 1) := by decide +kernel
theorem dTS_add_2 : decode cTS_add 2 = .ok (.iload_n 3, 1) := by decide +kernel
theorem dTS_add_3 : decode cTS_add 3 = .ok (.iload 4, 2) := by decide +kernel
theorem dTS_add_5 : decode cTS_add 5 = .ok (.invokestatic 59, 3) := by decide +kernel
theorem dTS_add_8 : decode cTS_add 8 = .ok (.ifCond .ne 13, 3) := by decide +kernel
theorem dTS_add_11 : decode cTS_add 11 = .ok (.new 63, 3) := by decide +kernel
theorem dTS_add_14 : decode cTS_add 14 = .ok (.dup, 1) := by decide +kernel
theorem dTS_add_15 : decode cTS_add 15 = .ok (.ldc 65, 2) := by decide +kernel
theorem dTS_add_17 : decode cTS_add 17 = .ok (.invokespecial 67, 3) := by decide +kernel
theorem dTS_add_20 : decode cTS_add 20 = .ok (.athrow, 1) := by decide +kernel
theorem dTS_add_21 : decode cTS_add 21 = .ok (.aload_n 0, 1) := by decide +kernel
theorem dTS_add_22 : decode cTS_add 22 = .ok (.getfield 51, 3) := by decide +kernel
theorem dTS_add_25 : decode cTS_add 25 = .ok (.ifCond .ne 16, 3) := by decide +kernel
theorem dTS_add_28 : decode cTS_add 28 = .ok (.aload_n 0, 1) := by decide +kernel
theorem dTS_add_29 : decode cTS_add 29 = .ok (.getfield 12, 3) := by decide +kernel
theorem dTS_add_32 : decode cTS_add 32 = .ok (.getfield 70, 3) := by decide +kernel
theorem dTS_add_35 : decode cTS_add 35 = .ok (.sipush 200, 3) := by decide +kernel
theorem dTS_add_38 : decode cTS_add 38 = .ok (.if_icmp .lt 13, 3) := by decide +kernel
theorem dTS_add_41 : decode cTS_add 41 = .ok (.new 73, 3) := by decide +kernel
theorem dTS_add_44 : decode cTS_add 44 = .ok (.dup, 1) := by decide +kernel
theorem dTS_add_45 : decode cTS_add 45 = .ok (.ldc 75, 2) := by decide +kernel
theorem dTS_add_47 : decode cTS_add 47 = .ok (.invokespecial 77, 3) := by decide +kernel
theorem dTS_add_50 : decode cTS_add 50 = .ok (.athrow, 1) := by decide +kernel
theorem dTS_add_51 : decode cTS_add 51 = .ok (.aload_n 0, 1) := by decide +kernel
theorem dTS_add_52 : decode cTS_add 52 = .ok (.getfield 12, 3) := by decide +kernel
theorem dTS_add_55 : decode cTS_add 55 = .ok (.iload_n 1, 1) := by decide +kernel
theorem dTS_add_56 : decode cTS_add 56 = .ok (.iload_n 2, 1) := by decide +kernel
theorem dTS_add_57 : decode cTS_add 57 = .ok (.iload_n 3, 1) := by decide +kernel
theorem dTS_add_58 : decode cTS_add 58 = .ok (.iload 4, 2) := by decide +kernel
theorem dTS_add_60 : decode cTS_add 60 = .ok (.invokevirtual 78, 3) := by decide +kernel
theorem dTS_add_63 : decode cTS_add 63 = .ok (.ireturn, 1) := by decide +kernel
theorem dTS_thrift_0 : decode cTS_thrift 0 = .ok (.aload_n 0, 1) := by decide +kernel
theorem dTS_thrift_1 : decode cTS_thrift 1 = .ok (.getfield 51, 3) := by decide +kernel
theorem dTS_thrift_4 : decode cTS_thrift 4 = .ok (.ifCond .eq 13, 3) := by decide +kernel
theorem dTS_thrift_7 : decode cTS_thrift 7 = .ok (.new 73, 3) := by decide +kernel
theorem dTS_thrift_10 : decode cTS_thrift 10 = .ok (.dup, 1) := by decide +kernel
theorem dTS_thrift_11 : decode cTS_thrift 11 = .ok (.ldc 82, 2) := by decide +kernel
theorem dTS_thrift_13 : decode cTS_thrift 13 = .ok (.invokespecial 77, 3) := by decide +kernel
theorem dTS_thrift_16 : decode cTS_thrift 16 = .ok (.athrow, 1) := by decide +kernel
theorem dTS_thrift_17 : decode cTS_thrift 17 = .ok (.aload_n 0, 1) := by decide +kernel
theorem dTS_thrift_18 : decode cTS_thrift 18 = .ok (.getfield 16, 3) := by decide +kernel
theorem dTS_thrift_21 : decode cTS_thrift 21 = .ok (.aload_n 0, 1) := by decide +kernel
theorem dTS_thrift_22 : decode cTS_thrift 22 = .ok (.getfield 12, 3) := by decide +kernel
theorem dTS_thrift_25 : decode cTS_thrift 25 = .ok (.invokevirtual 84, 3) := by decide +kernel
theorem dTS_thrift_28 : decode cTS_thrift 28 = .ok (.aload_n 0, 1) := by decide +kernel
theorem dTS_thrift_29 : decode cTS_thrift 29 = .ok (.getfield 19, 3) := by decide +kernel
theorem dTS_thrift_32 : decode cTS_thrift 32 = .ok (.iconst 0, 1) := by decide +kernel
theorem dTS_thrift_33 : decode cTS_thrift 33 = .ok (.invokestatic 88, 3) := by decide +kernel
theorem dTS_thrift_36 : decode cTS_thrift 36 = .ok (.iconst 0, 1) := by decide +kernel
theorem dTS_thrift_37 : decode cTS_thrift 37 = .ok (.istore_n 1, 1) := by decide +kernel
theorem dTS_thrift_38 : decode cTS_thrift 38 = .ok (.iconst (-1), 1) := by decide +kernel
theorem dTS_thrift_39 : decode cTS_thrift 39 = .ok (.istore_n 2, 1) := by decide +kernel
theorem dTS_thrift_40 : decode cTS_thrift 40 = .ok (.aload_n 0, 1) := by decide +kernel
theorem dTS_thrift_41 : decode cTS_thrift 41 = .ok (.iconst 0, 1) := by decide +kernel
theorem dTS_thrift_42 : decode cTS_thrift 42 = .ok (.putfield 55, 3) := by decide +kernel
theorem dTS_thrift_45 : decode cTS_thrift 45 = .ok (.iload_n 2, 1) := by decide +kernel
theorem dTS_thrift_46 : decode cTS_thrift 46 = .ok (.ifCond .eq 35, 3) := by decide +kernel
theorem dTS_thrift_49 : decode cTS_thrift 49 = .ok (.aload_n 0, 1) := by decide +kernel
theorem dTS_thrift_50 : decode cTS_thrift 50 = .ok (.getfield 55, 3) := by decide +kernel
theorem dTS_thrift_53 : decode cTS_thrift 53 = .ok (.sipush 1000, 3) := by decide +kernel
theorem dTS_thrift_56 : decode cTS_thrift 56 = .ok (.if_icmp .ge 25, 3) := by decide +kernel
theorem dTS_thrift_59 : decode cTS_thrift 59 = .ok (.aload_n 0, 1) := by decide +kernel
theorem dTS_thrift_60 : decode cTS_thrift 60 = .ok (.invokevirtual 94, 3) := by decide +kernel
theorem dTS_thrift_63 : decode cTS_thrift 63 = .ok (.istore_n 2, 1) := by decide +kernel
theorem dTS_thrift_64 : decode cTS_thrift 64 = .ok (.iload_n 1, 1) := by decide +kernel
theorem dTS_thrift_65 : decode cTS_thrift 65 = .ok (.iload_n 2, 1) := by decide +kernel
theorem dTS_thrift_66 : decode cTS_thrift 66 = .ok (.iadd, 1) := by decide +kernel
theorem dTS_thrift_67 : decode cTS_thrift 67 = .ok (.istore_n 1, 1) := by decide +kernel
theorem dTS_thrift_68 : decode cTS_thrift 68 = .ok (.aload_n 0, 1) := by decide +kernel
theorem dTS_thrift_69 : decode cTS_thrift 69 = .ok (.dup, 1) := by decide +kernel
theorem dTS_thrift_70 : decode cTS_thrift 70 = .ok (.getfield 55, 3) := by decide +kernel
theorem dTS_thrift_73 : decode cTS_thrift 73 = .ok (.iconst 1, 1) := by decide +kernel
theorem dTS_thrift_74 : decode cTS_thrift 74 = .ok (.iadd, 1) := by decide +kernel
theorem dTS_thrift_75 : decode cTS_thrift 75 = .ok (.putfield 55, 3) := by decide +kernel
theorem dTS_thrift_78 : decode cTS_thrift 78 = .ok (.goto (-33), 3) := by decide +kernel
theorem dTS_thrift_81 : decode cTS_thrift 81 = .ok (.aload_n 0, 1) := by decide +kernel
theorem dTS_thrift_82 : decode cTS_thrift 82 = .ok (.aload_n 0, 1) := by decide +kernel
theorem dTS_thrift_83 : decode cTS_thrift 83 = .ok (.getfield 12, 3) := by decide +kernel
theorem dTS_thrift_86 : decode cTS_thrift 86 = .ok (.invokevirtual 98, 3) := by decide +kernel
theorem dTS_thrift_89 : decode cTS_thrift 89 = .ok (.aload_n 0, 1) := by decide +kernel
theorem dTS_thrift_90 : decode cTS_thrift 90 = .ok (.iconst 1, 1) := by decide +kernel
theorem dTS_thrift_91 : decode cTS_thrift 91 = .ok (.putfield 51, 3) := by decide +kernel
theorem dTS_thrift_94 : decode cTS_thrift 94 = .ok (.iload_n 1, 1) := by decide +kernel
theorem dTS_thrift_95 : decode cTS_thrift 95 = .ok (.ireturn, 1) := by decide +kernel
theorem dTS_instruction_0 : decode cTS_instruction 0 = .ok (.aload_n 0, 1) := by decide +kernel
theorem dTS_instruction_1 : decode cTS_instruction 1 = .ok (.iload_n 1, 1) := by decide +kernel
theorem dTS_instruction_2 : decode cTS_instruction 2 = .ok (.invokevirtual 101, 3) := by decide +kernel
theorem dTS_instruction_5 : decode cTS_instruction 5 = .ok (.invokestatic 105, 3) := by decide +kernel
theorem dTS_instruction_8 : decode cTS_instruction 8 = .ok (.iload_n 2, 1) := by decide +kernel
theorem dTS_instruction_9 : decode cTS_instruction 9 = .ok (.ifCond .lt 12, 3) := by decide +kernel
theorem dTS_instruction_12 : decode cTS_instruction 12 = .ok (.iload_n 2, 1) := by decide +kernel
theorem dTS_instruction_13 : decode cTS_instruction 13 = .ok (.iconst 3, 1) := by decide +kernel
theorem dTS_instruction_14 : decode cTS_instruction 14 = .ok (.if_icmp .gt 7, 3) := by decide +kernel
theorem dTS_instruction_17 : decode cTS_instruction 17 = .ok (.iconst 1, 1) := by decide +kernel
theorem dTS_instruction_18 : decode cTS_instruction 18 = .ok (.goto 4, 3) := by decide +kernel
theorem dTS_instruction_21 : decode cTS_instruction 21 = .ok (.iconst 0, 1) := by decide +kernel
theorem dTS_instruction_22 : decode cTS_instruction 22 = .ok (.invokestatic 109, 3) := by decide +kernel
theorem dTS_instruction_25 : decode cTS_instruction 25 = .ok (.aload_n 0, 1) := by decide +kernel
theorem dTS_instruction_26 : decode cTS_instruction 26 = .ok (.iload_n 3, 1) := by decide +kernel
theorem dTS_instruction_27 : decode cTS_instruction 27 = .ok (.invokevirtual 112, 3) := by decide +kernel
theorem dTS_instruction_30 : decode cTS_instruction 30 = .ok (.iload_n 3, 1) := by decide +kernel
theorem dTS_instruction_31 : decode cTS_instruction 31 = .ok (.ifCond .eq 10, 3) := by decide +kernel
theorem dTS_instruction_34 : decode cTS_instruction 34 = .ok (.aload_n 0, 1) := by decide +kernel
theorem dTS_instruction_35 : decode cTS_instruction 35 = .ok (.getfield 12, 3) := by decide +kernel
theorem dTS_instruction_38 : decode cTS_instruction 38 = .ok (.goto 7, 3) := by decide +kernel
theorem dTS_instruction_41 : decode cTS_instruction 41 = .ok (.aload_n 0, 1) := by decide +kernel
theorem dTS_instruction_42 : decode cTS_instruction 42 = .ok (.getfield 16, 3) := by decide +kernel
theorem dTS_instruction_45 : decode cTS_instruction 45 = .ok (.astore 4, 2) := by decide +kernel
theorem dTS_instruction_47 : decode cTS_instruction 47 = .ok (.aload 4, 2) := by decide +kernel
theorem dTS_instruction_49 : decode cTS_instruction 49 = .ok (.iload_n 1, 1) := by decide +kernel
theorem dTS_instruction_50 : decode cTS_instruction 50 = .ok (.iload_n 2, 1) := by decide +kernel
theorem dTS_instruction_51 : decode cTS_instruction 51 = .ok (.invokevirtual 115, 3) := by decide +kernel
theorem dTS_instruction_54 : decode cTS_instruction 54 = .ok (.ireturn, 1) := by decide +kernel
theorem dTS_fate_0 : decode cTS_fate 0 = .ok (.aload_n 0, 1) := by decide +kernel
theorem dTS_fate_1 : decode cTS_fate 1 = .ok (.iload_n 1, 1) := by decide +kernel
theorem dTS_fate_2 : decode cTS_fate 2 = .ok (.invokevirtual 101, 3) := by decide +kernel
theorem dTS_fate_5 : decode cTS_fate 5 = .ok (.invokestatic 105, 3) := by decide +kernel
theorem dTS_fate_8 : decode cTS_fate 8 = .ok (.aload_n 0, 1) := by decide +kernel
theorem dTS_fate_9 : decode cTS_fate 9 = .ok (.iconst 0, 1) := by decide +kernel
theorem dTS_fate_10 : decode cTS_fate 10 = .ok (.invokevirtual 112, 3) := by decide +kernel
theorem dTS_fate_13 : decode cTS_fate 13 = .ok (.aload_n 0, 1) := by decide +kernel
theorem dTS_fate_14 : decode cTS_fate 14 = .ok (.getfield 19, 3) := by decide +kernel
theorem dTS_fate_17 : decode cTS_fate 17 = .ok (.iload_n 1, 1) := by decide +kernel
theorem dTS_fate_18 : decode cTS_fate 18 = .ok (.iaload, 1) := by decide +kernel
theorem dTS_fate_19 : decode cTS_fate 19 = .ok (.ireturn, 1) := by decide +kernel
theorem dTS_rounds_0 : decode cTS_rounds 0 = .ok (.aload_n 0, 1) := by decide +kernel
theorem dTS_rounds_1 : decode cTS_rounds 1 = .ok (.iconst 0, 1) := by decide +kernel
theorem dTS_rounds_2 : decode cTS_rounds 2 = .ok (.invokevirtual 112, 3) := by decide +kernel
theorem dTS_rounds_5 : decode cTS_rounds 5 = .ok (.aload_n 0, 1) := by decide +kernel
theorem dTS_rounds_6 : decode cTS_rounds 6 = .ok (.getfield 55, 3) := by decide +kernel
theorem dTS_rounds_9 : decode cTS_rounds 9 = .ok (.ireturn, 1) := by decide +kernel
theorem dTS_may_0 : decode cTS_may 0 = .ok (.iload_n 1, 1) := by decide +kernel
theorem dTS_may_1 : decode cTS_may 1 = .ok (.invokestatic 119, 3) := by decide +kernel
theorem dTS_may_4 : decode cTS_may 4 = .ok (.ifCond .eq 15, 3) := by decide +kernel
theorem dTS_may_7 : decode cTS_may 7 = .ok (.aload_n 0, 1) := by decide +kernel
theorem dTS_may_8 : decode cTS_may 8 = .ok (.iload_n 2, 1) := by decide +kernel
theorem dTS_may_9 : decode cTS_may 9 = .ok (.invokevirtual 101, 3) := by decide +kernel
theorem dTS_may_12 : decode cTS_may 12 = .ok (.ifCond .eq 7, 3) := by decide +kernel
theorem dTS_may_15 : decode cTS_may 15 = .ok (.iconst 1, 1) := by decide +kernel
theorem dTS_may_16 : decode cTS_may 16 = .ok (.goto 4, 3) := by decide +kernel
theorem dTS_may_19 : decode cTS_may 19 = .ok (.iconst 0, 1) := by decide +kernel
theorem dTS_may_20 : decode cTS_may 20 = .ok (.invokestatic 105, 3) := by decide +kernel
theorem dTS_may_23 : decode cTS_may 23 = .ok (.aload_n 0, 1) := by decide +kernel
theorem dTS_may_24 : decode cTS_may 24 = .ok (.iconst 0, 1) := by decide +kernel
theorem dTS_may_25 : decode cTS_may 25 = .ok (.invokevirtual 112, 3) := by decide +kernel
theorem dTS_may_28 : decode cTS_may 28 = .ok (.aload_n 0, 1) := by decide +kernel
theorem dTS_may_29 : decode cTS_may 29 = .ok (.getfield 26, 3) := by decide +kernel
theorem dTS_may_32 : decode cTS_may 32 = .ok (.iload_n 1, 1) := by decide +kernel
theorem dTS_may_33 : decode cTS_may 33 = .ok (.iload_n 2, 1) := by decide +kernel
theorem dTS_may_34 : decode cTS_may 34 = .ok (.invokevirtual 122, 3) := by decide +kernel
theorem dTS_may_37 : decode cTS_may 37 = .ok (.ireturn, 1) := by decide +kernel
theorem dTS_inside_0 : decode cTS_inside 0 = .ok (.aload_n 0, 1) := by decide +kernel
theorem dTS_inside_1 : decode cTS_inside 1 = .ok (.iload_n 1, 1) := by decide +kernel
theorem dTS_inside_2 : decode cTS_inside 2 = .ok (.invokevirtual 101, 3) := by decide +kernel
theorem dTS_inside_5 : decode cTS_inside 5 = .ok (.ifCond .eq 15, 3) := by decide +kernel
theorem dTS_inside_8 : decode cTS_inside 8 = .ok (.aload_n 0, 1) := by decide +kernel
theorem dTS_inside_9 : decode cTS_inside 9 = .ok (.iload_n 2, 1) := by decide +kernel
theorem dTS_inside_10 : decode cTS_inside 10 = .ok (.invokevirtual 101, 3) := by decide +kernel
theorem dTS_inside_13 : decode cTS_inside 13 = .ok (.ifCond .eq 7, 3) := by decide +kernel
theorem dTS_inside_16 : decode cTS_inside 16 = .ok (.iconst 1, 1) := by decide +kernel
theorem dTS_inside_17 : decode cTS_inside 17 = .ok (.goto 4, 3) := by decide +kernel
theorem dTS_inside_20 : decode cTS_inside 20 = .ok (.iconst 0, 1) := by decide +kernel
theorem dTS_inside_21 : decode cTS_inside 21 = .ok (.invokestatic 105, 3) := by decide +kernel
theorem dTS_inside_24 : decode cTS_inside 24 = .ok (.aload_n 0, 1) := by decide +kernel
theorem dTS_inside_25 : decode cTS_inside 25 = .ok (.iconst 0, 1) := by decide +kernel
theorem dTS_inside_26 : decode cTS_inside 26 = .ok (.invokevirtual 112, 3) := by decide +kernel
theorem dTS_inside_29 : decode cTS_inside 29 = .ok (.aload_n 0, 1) := by decide +kernel
theorem dTS_inside_30 : decode cTS_inside 30 = .ok (.getfield 26, 3) := by decide +kernel
theorem dTS_inside_33 : decode cTS_inside 33 = .ok (.iload_n 1, 1) := by decide +kernel
theorem dTS_inside_34 : decode cTS_inside 34 = .ok (.iload_n 2, 1) := by decide +kernel
theorem dTS_inside_35 : decode cTS_inside 35 = .ok (.invokevirtual 126, 3) := by decide +kernel
theorem dTS_inside_38 : decode cTS_inside 38 = .ok (.ireturn, 1) := by decide +kernel
theorem dTS_fact_0 : decode cTS_fact 0 = .ok (.aload_n 0, 1) := by decide +kernel
theorem dTS_fact_1 : decode cTS_fact 1 = .ok (.iload_n 1, 1) := by decide +kernel
theorem dTS_fact_2 : decode cTS_fact 2 = .ok (.invokevirtual 129, 3) := by decide +kernel
theorem dTS_fact_5 : decode cTS_fact 5 = .ok (.ifCond .eq 22, 3) := by decide +kernel
theorem dTS_fact_8 : decode cTS_fact 8 = .ok (.iload_n 3, 1) := by decide +kernel
theorem dTS_fact_9 : decode cTS_fact 9 = .ok (.invokestatic 119, 3) := by decide +kernel
theorem dTS_fact_12 : decode cTS_fact 12 = .ok (.ifCond .eq 15, 3) := by decide +kernel
theorem dTS_fact_15 : decode cTS_fact 15 = .ok (.iload 4, 2) := by decide +kernel
theorem dTS_fact_17 : decode cTS_fact 17 = .ok (.invokestatic 119, 3) := by decide +kernel
theorem dTS_fact_20 : decode cTS_fact 20 = .ok (.ifCond .eq 7, 3) := by decide +kernel
theorem dTS_fact_23 : decode cTS_fact 23 = .ok (.iconst 1, 1) := by decide +kernel
theorem dTS_fact_24 : decode cTS_fact 24 = .ok (.goto 4, 3) := by decide +kernel
theorem dTS_fact_27 : decode cTS_fact 27 = .ok (.iconst 0, 1) := by decide +kernel
theorem dTS_fact_28 : decode cTS_fact 28 = .ok (.invokestatic 105, 3) := by decide +kernel
theorem dTS_fact_31 : decode cTS_fact 31 = .ok (.iload_n 2, 1) := by decide +kernel
theorem dTS_fact_32 : decode cTS_fact 32 = .ok (.ifCond .lt 31, 3) := by decide +kernel
theorem dTS_fact_35 : decode cTS_fact 35 = .ok (.iload_n 2, 1) := by decide +kernel
theorem dTS_fact_36 : decode cTS_fact 36 = .ok (.iconst 3, 1) := by decide +kernel
theorem dTS_fact_37 : decode cTS_fact 37 = .ok (.if_icmp .gt 26, 3) := by decide +kernel
theorem dTS_fact_40 : decode cTS_fact 40 = .ok (.iload_n 2, 1) := by decide +kernel
theorem dTS_fact_41 : decode cTS_fact 41 = .ok (.iconst 2, 1) := by decide +kernel
theorem dTS_fact_42 : decode cTS_fact 42 = .ok (.if_icmp .lt 8, 3) := by decide +kernel
theorem dTS_fact_45 : decode cTS_fact 45 = .ok (.iload 4, 2) := by decide +kernel
theorem dTS_fact_47 : decode cTS_fact 47 = .ok (.ifCond .ne 16, 3) := by decide +kernel
theorem dTS_fact_50 : decode cTS_fact 50 = .ok (.iload_n 2, 1) := by decide +kernel
theorem dTS_fact_51 : decode cTS_fact 51 = .ok (.iconst 3, 1) := by decide +kernel
theorem dTS_fact_52 : decode cTS_fact 52 = .ok (.if_icmp .lt 7, 3) := by decide +kernel
theorem dTS_fact_55 : decode cTS_fact 55 = .ok (.iload_n 3, 1) := by decide +kernel
theorem dTS_fact_56 : decode cTS_fact 56 = .ok (.ifCond .ne 7, 3) := by decide +kernel
theorem dTS_fact_59 : decode cTS_fact 59 = .ok (.iconst 1, 1) := by decide +kernel
theorem dTS_fact_60 : decode cTS_fact 60 = .ok (.goto 4, 3) := by decide +kernel
theorem dTS_fact_63 : decode cTS_fact 63 = .ok (.iconst 0, 1) := by decide +kernel
theorem dTS_fact_64 : decode cTS_fact 64 = .ok (.invokestatic 109, 3) := by decide +kernel
theorem dTS_fact_67 : decode cTS_fact 67 = .ok (.aload_n 0, 1) := by decide +kernel
theorem dTS_fact_68 : decode cTS_fact 68 = .ok (.iconst 0, 1) := by decide +kernel
theorem dTS_fact_69 : decode cTS_fact 69 = .ok (.invokevirtual 112, 3) := by decide +kernel
theorem dTS_fact_72 : decode cTS_fact 72 = .ok (.aload_n 0, 1) := by decide +kernel
theorem dTS_fact_73 : decode cTS_fact 73 = .ok (.getfield 33, 3) := by decide +kernel
theorem dTS_fact_76 : decode cTS_fact 76 = .ok (.iload_n 1, 1) := by decide +kernel
theorem dTS_fact_77 : decode cTS_fact 77 = .ok (.iload_n 2, 1) := by decide +kernel
theorem dTS_fact_78 : decode cTS_fact 78 = .ok (.iload_n 3, 1) := by decide +kernel
theorem dTS_fact_79 : decode cTS_fact 79 = .ok (.iload 4, 2) := by decide +kernel
theorem dTS_fact_81 : decode cTS_fact 81 = .ok (.invokevirtual 132, 3) := by decide +kernel
theorem dTS_fact_84 : decode cTS_fact 84 = .ok (.ireturn, 1) := by decide +kernel
theorem dTS_free_0 : decode cTS_free 0 = .ok (.aload_n 0, 1) := by decide +kernel
theorem dTS_free_1 : decode cTS_free 1 = .ok (.iload_n 1, 1) := by decide +kernel
theorem dTS_free_2 : decode cTS_free 2 = .ok (.invokevirtual 129, 3) := by decide +kernel
theorem dTS_free_5 : decode cTS_free 5 = .ok (.ifCond .eq 14, 3) := by decide +kernel
theorem dTS_free_8 : decode cTS_free 8 = .ok (.iload_n 2, 1) := by decide +kernel
theorem dTS_free_9 : decode cTS_free 9 = .ok (.invokestatic 119, 3) := by decide +kernel
theorem dTS_free_12 : decode cTS_free 12 = .ok (.ifCond .eq 7, 3) := by decide +kernel
theorem dTS_free_15 : decode cTS_free 15 = .ok (.iconst 1, 1) := by decide +kernel
theorem dTS_free_16 : decode cTS_free 16 = .ok (.goto 4, 3) := by decide +kernel
theorem dTS_free_19 : decode cTS_free 19 = .ok (.iconst 0, 1) := by decide +kernel
theorem dTS_free_20 : decode cTS_free 20 = .ok (.invokestatic 105, 3) := by decide +kernel
theorem dTS_free_23 : decode cTS_free 23 = .ok (.aload_n 0, 1) := by decide +kernel
theorem dTS_free_24 : decode cTS_free 24 = .ok (.iconst 0, 1) := by decide +kernel
theorem dTS_free_25 : decode cTS_free 25 = .ok (.invokevirtual 112, 3) := by decide +kernel
theorem dTS_free_28 : decode cTS_free 28 = .ok (.aload_n 0, 1) := by decide +kernel
theorem dTS_free_29 : decode cTS_free 29 = .ok (.getfield 40, 3) := by decide +kernel
theorem dTS_free_32 : decode cTS_free 32 = .ok (.iload_n 1, 1) := by decide +kernel
theorem dTS_free_33 : decode cTS_free 33 = .ok (.iload_n 2, 1) := by decide +kernel
theorem dTS_free_34 : decode cTS_free 34 = .ok (.invokevirtual 135, 3) := by decide +kernel
theorem dTS_free_37 : decode cTS_free 37 = .ok (.ireturn, 1) := by decide +kernel
theorem dTS_run_0 : decode cTS_run 0 = .ok (.iload_n 2, 1) := by decide +kernel
theorem dTS_run_1 : decode cTS_run 1 = .ok (.iconst 1, 1) := by decide +kernel
theorem dTS_run_2 : decode cTS_run 2 = .ok (.if_icmp .lt 14, 3) := by decide +kernel
theorem dTS_run_5 : decode cTS_run 5 = .ok (.iload_n 2, 1) := by decide +kernel
theorem dTS_run_6 : decode cTS_run 6 = .ok (.sipush 5000, 3) := by decide +kernel
theorem dTS_run_9 : decode cTS_run 9 = .ok (.if_icmp .gt 7, 3) := by decide +kernel
theorem dTS_run_12 : decode cTS_run 12 = .ok (.iconst 1, 1) := by decide +kernel
theorem dTS_run_13 : decode cTS_run 13 = .ok (.goto 4, 3) := by decide +kernel
theorem dTS_run_16 : decode cTS_run 16 = .ok (.iconst 0, 1) := by decide +kernel
theorem dTS_run_17 : decode cTS_run 17 = .ok (.invokestatic 109, 3) := by decide +kernel
theorem dTS_run_20 : decode cTS_run 20 = .ok (.aload_n 0, 1) := by decide +kernel
theorem dTS_run_21 : decode cTS_run 21 = .ok (.iload_n 1, 1) := by decide +kernel
theorem dTS_run_22 : decode cTS_run 22 = .ok (.invokevirtual 112, 3) := by decide +kernel
theorem dTS_run_25 : decode cTS_run 25 = .ok (.aload_n 0, 1) := by decide +kernel
theorem dTS_run_26 : decode cTS_run 26 = .ok (.getfield 47, 3) := by decide +kernel
theorem dTS_run_29 : decode cTS_run 29 = .ok (.iload_n 1, 1) := by decide +kernel
theorem dTS_run_30 : decode cTS_run 30 = .ok (.ifCond .eq 10, 3) := by decide +kernel
theorem dTS_run_33 : decode cTS_run 33 = .ok (.aload_n 0, 1) := by decide +kernel
theorem dTS_run_34 : decode cTS_run 34 = .ok (.getfield 12, 3) := by decide +kernel
theorem dTS_run_37 : decode cTS_run 37 = .ok (.goto 7, 3) := by decide +kernel
theorem dTS_run_40 : decode cTS_run 40 = .ok (.aload_n 0, 1) := by decide +kernel
theorem dTS_run_41 : decode cTS_run 41 = .ok (.getfield 16, 3) := by decide +kernel
theorem dTS_run_44 : decode cTS_run 44 = .ok (.iload_n 2, 1) := by decide +kernel
theorem dTS_run_45 : decode cTS_run 45 = .ok (.invokevirtual 138, 3) := by decide +kernel
theorem dTS_run_48 : decode cTS_run 48 = .ok (.ireturn, 1) := by decide +kernel
theorem dTS_print_0 : decode cTS_print 0 = .ok (.iload_n 1, 1) := by decide +kernel
theorem dTS_print_1 : decode cTS_print 1 = .ok (.ifCond .lt 18, 3) := by decide +kernel
theorem dTS_print_4 : decode cTS_print 4 = .ok (.iload_n 1, 1) := by decide +kernel
theorem dTS_print_5 : decode cTS_print 5 = .ok (.aload_n 0, 1) := by decide +kernel
theorem dTS_print_6 : decode cTS_print 6 = .ok (.getfield 47, 3) := by decide +kernel
theorem dTS_print_9 : decode cTS_print 9 = .ok (.getfield 145, 3) := by decide +kernel
theorem dTS_print_12 : decode cTS_print 12 = .ok (.if_icmp .ge 7, 3) := by decide +kernel
theorem dTS_print_15 : decode cTS_print 15 = .ok (.iconst 1, 1) := by decide +kernel
theorem dTS_print_16 : decode cTS_print 16 = .ok (.goto 4, 3) := by decide +kernel
theorem dTS_print_19 : decode cTS_print 19 = .ok (.iconst 0, 1) := by decide +kernel
theorem dTS_print_20 : decode cTS_print 20 = .ok (.invokestatic 105, 3) := by decide +kernel
theorem dTS_print_23 : decode cTS_print 23 = .ok (.aload_n 0, 1) := by decide +kernel
theorem dTS_print_24 : decode cTS_print 24 = .ok (.getfield 47, 3) := by decide +kernel
theorem dTS_print_27 : decode cTS_print 27 = .ok (.getfield 148, 3) := by decide +kernel
theorem dTS_print_30 : decode cTS_print 30 = .ok (.iload_n 1, 1) := by decide +kernel
theorem dTS_print_31 : decode cTS_print 31 = .ok (.iaload, 1) := by decide +kernel
theorem dTS_print_32 : decode cTS_print 32 = .ok (.ireturn, 1) := by decide +kernel
theorem dTS_cell_0 : decode cTS_cell 0 = .ok (.aload_n 0, 1) := by decide +kernel
theorem dTS_cell_1 : decode cTS_cell 1 = .ok (.getfield 47, 3) := by decide +kernel
theorem dTS_cell_4 : decode cTS_cell 4 = .ok (.iload_n 1, 1) := by decide +kernel
theorem dTS_cell_5 : decode cTS_cell 5 = .ok (.iload_n 2, 1) := by decide +kernel
theorem dTS_cell_6 : decode cTS_cell 6 = .ok (.invokevirtual 154, 3) := by decide +kernel
theorem dTS_cell_9 : decode cTS_cell 9 = .ok (.invokestatic 105, 3) := by decide +kernel
theorem dTS_cell_12 : decode cTS_cell 12 = .ok (.iload_n 3, 1) := by decide +kernel
theorem dTS_cell_13 : decode cTS_cell 13 = .ok (.ifCond .lt 12, 3) := by decide +kernel
theorem dTS_cell_16 : decode cTS_cell 16 = .ok (.iload_n 3, 1) := by decide +kernel
theorem dTS_cell_17 : decode cTS_cell 17 = .ok (.iconst 2, 1) := by decide +kernel
theorem dTS_cell_18 : decode cTS_cell 18 = .ok (.if_icmp .gt 7, 3) := by decide +kernel
theorem dTS_cell_21 : decode cTS_cell 21 = .ok (.iconst 1, 1) := by decide +kernel
theorem dTS_cell_22 : decode cTS_cell 22 = .ok (.goto 4, 3) := by decide +kernel
theorem dTS_cell_25 : decode cTS_cell 25 = .ok (.iconst 0, 1) := by decide +kernel
theorem dTS_cell_26 : decode cTS_cell 26 = .ok (.invokestatic 109, 3) := by decide +kernel
theorem dTS_cell_29 : decode cTS_cell 29 = .ok (.aload_n 0, 1) := by decide +kernel
theorem dTS_cell_30 : decode cTS_cell 30 = .ok (.getfield 47, 3) := by decide +kernel
theorem dTS_cell_33 : decode cTS_cell 33 = .ok (.iload_n 1, 1) := by decide +kernel
theorem dTS_cell_34 : decode cTS_cell 34 = .ok (.iload_n 2, 1) := by decide +kernel
theorem dTS_cell_35 : decode cTS_cell 35 = .ok (.iload_n 3, 1) := by decide +kernel
theorem dTS_cell_36 : decode cTS_cell 36 = .ok (.invokevirtual 157, 3) := by decide +kernel
theorem dTS_cell_39 : decode cTS_cell 39 = .ok (.ireturn, 1) := by decide +kernel
