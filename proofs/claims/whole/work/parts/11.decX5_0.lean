theorem dX5_init_0 : decode cX5_init 0 = .ok (.aload_n 0, 1) := by decide +kernel
theorem dX5_init_1 : decode cX5_init 1 = .ok (.invokespecial 3, 3) := by decide +kernel
theorem dX5_init_4 : decode cX5_init 4 = .ok (.aload_n 0, 1) := by decide +kernel
theorem dX5_init_5 : decode cX5_init 5 = .ok (.bipush 6, 2) := by decide +kernel
theorem dX5_init_7 : decode cX5_init 7 = .ok (.newarray .int, 2) := by decide +kernel
theorem dX5_init_9 : decode cX5_init 9 = .ok (.putfield 9, 3) := by decide +kernel
theorem dX5_init_12 : decode cX5_init 12 = .ok (.aload_n 0, 1) := by decide +kernel
theorem dX5_init_13 : decode cX5_init 13 = .ok (.bipush 6, 2) := by decide +kernel
theorem dX5_init_15 : decode cX5_init 15 = .ok (.newarray .int, 2) := by decide +kernel
theorem dX5_init_17 : decode cX5_init 17 = .ok (.putfield 15, 3) := by decide +kernel
theorem dX5_init_20 : decode cX5_init 20 = .ok (.aload_n 0, 1) := by decide +kernel
theorem dX5_init_21 : decode cX5_init 21 = .ok (.bipush 24, 2) := by decide +kernel
theorem dX5_init_23 : decode cX5_init 23 = .ok (.newarray .int, 2) := by decide +kernel
theorem dX5_init_25 : decode cX5_init 25 = .ok (.putfield 18, 3) := by decide +kernel
theorem dX5_init_28 : decode cX5_init 28 = .ok (.aload_n 0, 1) := by decide +kernel
theorem dX5_init_29 : decode cX5_init 29 = .ok (.bipush 24, 2) := by decide +kernel
theorem dX5_init_31 : decode cX5_init 31 = .ok (.newarray .int, 2) := by decide +kernel
theorem dX5_init_33 : decode cX5_init 33 = .ok (.putfield 21, 3) := by decide +kernel
theorem dX5_init_36 : decode cX5_init 36 = .ok (.aload_n 0, 1) := by decide +kernel
theorem dX5_init_37 : decode cX5_init 37 = .ok (.bipush 30, 2) := by decide +kernel
theorem dX5_init_39 : decode cX5_init 39 = .ok (.newarray .int, 2) := by decide +kernel
theorem dX5_init_41 : decode cX5_init 41 = .ok (.putfield 24, 3) := by decide +kernel
theorem dX5_init_44 : decode cX5_init 44 = .ok (.aload_n 0, 1) := by decide +kernel
theorem dX5_init_45 : decode cX5_init 45 = .ok (.iconst 0, 1) := by decide +kernel
theorem dX5_init_46 : decode cX5_init 46 = .ok (.putfield 27, 3) := by decide +kernel
theorem dX5_init_49 : decode cX5_init 49 = .ok (.aload_n 0, 1) := by decide +kernel
theorem dX5_init_50 : decode cX5_init 50 = .ok (.iconst 0, 1) := by decide +kernel
theorem dX5_init_51 : decode cX5_init 51 = .ok (.putfield 31, 3) := by decide +kernel
theorem dX5_init_54 : decode cX5_init 54 = .ok (.return_, 1) := by decide +kernel
theorem dX5_clear_0 : decode cX5_clear 0 = .ok (.aload_n 0, 1) := by decide +kernel
theorem dX5_clear_1 : decode cX5_clear 1 = .ok (.iconst 0, 1) := by decide +kernel
theorem dX5_clear_2 : decode cX5_clear 2 = .ok (.putfield 27, 3) := by decide +kernel
theorem dX5_clear_5 : decode cX5_clear 5 = .ok (.aload_n 0, 1) := by decide +kernel
theorem dX5_clear_6 : decode cX5_clear 6 = .ok (.iconst 0, 1) := by decide +kernel
theorem dX5_clear_7 : decode cX5_clear 7 = .ok (.putfield 31, 3) := by decide +kernel
theorem dX5_clear_10 : decode cX5_clear 10 = .ok (.return_, 1) := by decide +kernel
theorem dX5_take_0 : decode cX5_take 0 = .ok (.aload_n 1, 1) := by decide +kernel
theorem dX5_take_1 : decode cX5_take 1 = .ok (.getfield 9, 3) := by decide +kernel
theorem dX5_take_4 : decode cX5_take 4 = .ok (.iconst 0, 1) := by decide +kernel
theorem dX5_take_5 : decode cX5_take 5 = .ok (.aload_n 0, 1) := by decide +kernel
theorem dX5_take_6 : decode cX5_take 6 = .ok (.getfield 9, 3) := by decide +kernel
theorem dX5_take_9 : decode cX5_take 9 = .ok (.iconst 0, 1) := by decide +kernel
theorem dX5_take_10 : decode cX5_take 10 = .ok (.bipush 6, 2) := by decide +kernel
theorem dX5_take_12 : decode cX5_take 12 = .ok (.invokestatic 34, 3) := by decide +kernel
theorem dX5_take_15 : decode cX5_take 15 = .ok (.aload_n 1, 1) := by decide +kernel
theorem dX5_take_16 : decode cX5_take 16 = .ok (.getfield 15, 3) := by decide +kernel
theorem dX5_take_19 : decode cX5_take 19 = .ok (.iconst 0, 1) := by decide +kernel
theorem dX5_take_20 : decode cX5_take 20 = .ok (.aload_n 0, 1) := by decide +kernel
theorem dX5_take_21 : decode cX5_take 21 = .ok (.getfield 15, 3) := by decide +kernel
theorem dX5_take_24 : decode cX5_take 24 = .ok (.iconst 0, 1) := by decide +kernel
theorem dX5_take_25 : decode cX5_take 25 = .ok (.bipush 6, 2) := by decide +kernel
theorem dX5_take_27 : decode cX5_take 27 = .ok (.invokestatic 34, 3) := by decide +kernel
theorem dX5_take_30 : decode cX5_take 30 = .ok (.aload_n 1, 1) := by decide +kernel
theorem dX5_take_31 : decode cX5_take 31 = .ok (.getfield 18, 3) := by decide +kernel
theorem dX5_take_34 : decode cX5_take 34 = .ok (.iconst 0, 1) := by decide +kernel
theorem dX5_take_35 : decode cX5_take 35 = .ok (.aload_n 0, 1) := by decide +kernel
theorem dX5_take_36 : decode cX5_take 36 = .ok (.getfield 18, 3) := by decide +kernel
theorem dX5_take_39 : decode cX5_take 39 = .ok (.iconst 0, 1) := by decide +kernel
theorem dX5_take_40 : decode cX5_take 40 = .ok (.bipush 24, 2) := by decide +kernel
theorem dX5_take_42 : decode cX5_take 42 = .ok (.invokestatic 34, 3) := by decide +kernel
theorem dX5_take_45 : decode cX5_take 45 = .ok (.aload_n 1, 1) := by decide +kernel
theorem dX5_take_46 : decode cX5_take 46 = .ok (.getfield 21, 3) := by decide +kernel
theorem dX5_take_49 : decode cX5_take 49 = .ok (.iconst 0, 1) := by decide +kernel
theorem dX5_take_50 : decode cX5_take 50 = .ok (.aload_n 0, 1) := by decide +kernel
theorem dX5_take_51 : decode cX5_take 51 = .ok (.getfield 21, 3) := by decide +kernel
theorem dX5_take_54 : decode cX5_take 54 = .ok (.iconst 0, 1) := by decide +kernel
theorem dX5_take_55 : decode cX5_take 55 = .ok (.bipush 24, 2) := by decide +kernel
theorem dX5_take_57 : decode cX5_take 57 = .ok (.invokestatic 34, 3) := by decide +kernel
theorem dX5_take_60 : decode cX5_take 60 = .ok (.aload_n 1, 1) := by decide +kernel
theorem dX5_take_61 : decode cX5_take 61 = .ok (.getfield 24, 3) := by decide +kernel
theorem dX5_take_64 : decode cX5_take 64 = .ok (.iconst 0, 1) := by decide +kernel
theorem dX5_take_65 : decode cX5_take 65 = .ok (.aload_n 0, 1) := by decide +kernel
theorem dX5_take_66 : decode cX5_take 66 = .ok (.getfield 24, 3) := by decide +kernel
theorem dX5_take_69 : decode cX5_take 69 = .ok (.iconst 0, 1) := by decide +kernel
theorem dX5_take_70 : decode cX5_take 70 = .ok (.bipush 30, 2) := by decide +kernel
theorem dX5_take_72 : decode cX5_take 72 = .ok (.invokestatic 34, 3) := by decide +kernel
theorem dX5_take_75 : decode cX5_take 75 = .ok (.aload_n 0, 1) := by decide +kernel
theorem dX5_take_76 : decode cX5_take 76 = .ok (.aload_n 1, 1) := by decide +kernel
theorem dX5_take_77 : decode cX5_take 77 = .ok (.getfield 27, 3) := by decide +kernel
theorem dX5_take_80 : decode cX5_take 80 = .ok (.putfield 27, 3) := by decide +kernel
theorem dX5_take_83 : decode cX5_take 83 = .ok (.aload_n 0, 1) := by decide +kernel
theorem dX5_take_84 : decode cX5_take 84 = .ok (.aload_n 1, 1) := by decide +kernel
theorem dX5_take_85 : decode cX5_take 85 = .ok (.getfield 31, 3) := by decide +kernel
theorem dX5_take_88 : decode cX5_take 88 = .ok (.putfield 31, 3) := by decide +kernel
theorem dX5_take_91 : decode cX5_take 91 = .ok (.return_, 1) := by decide +kernel
theorem dX5_methods_0 : decode cX5_methods 0 = .ok (.aload_n 0, 1) := by decide +kernel
theorem dX5_methods_1 : decode cX5_methods 1 = .ok (.getfield 27, 3) := by decide +kernel
theorem dX5_methods_4 : decode cX5_methods 4 = .ok (.ireturn, 1) := by decide +kernel
theorem dX5_adviceCount_0 : decode cX5_adviceCount 0 = .ok (.aload_n 0, 1) := by decide +kernel
theorem dX5_adviceCount_1 : decode cX5_adviceCount 1 = .ok (.getfield 31, 3) := by decide +kernel
theorem dX5_adviceCount_4 : decode cX5_adviceCount 4 = .ok (.ireturn, 1) := by decide +kernel
theorem dX5_statements_0 : decode cX5_statements 0 = .ok (.iconst 0, 1) := by decide +kernel
theorem dX5_statements_1 : decode cX5_statements 1 = .ok (.istore_n 1, 1) := by decide +kernel
theorem dX5_statements_2 : decode cX5_statements 2 = .ok (.iconst 0, 1) := by decide +kernel
theorem dX5_statements_3 : decode cX5_statements 3 = .ok (.istore_n 2, 1) := by decide +kernel
theorem dX5_statements_4 : decode cX5_statements 4 = .ok (.iload_n 2, 1) := by decide +kernel
theorem dX5_statements_5 : decode cX5_statements 5 = .ok (.aload_n 0, 1) := by decide +kernel
theorem dX5_statements_6 : decode cX5_statements 6 = .ok (.getfield 27, 3) := by decide +kernel
theorem dX5_statements_9 : decode cX5_statements 9 = .ok (.if_icmp .ge 18, 3) := by decide +kernel
theorem dX5_statements_12 : decode cX5_statements 12 = .ok (.iload_n 1, 1) := by decide +kernel
theorem dX5_statements_13 : decode cX5_statements 13 = .ok (.aload_n 0, 1) := by decide +kernel
theorem dX5_statements_14 : decode cX5_statements 14 = .ok (.getfield 15, 3) := by decide +kernel
theorem dX5_statements_17 : decode cX5_statements 17 = .ok (.iload_n 2, 1) := by decide +kernel
theorem dX5_statements_18 : decode cX5_statements 18 = .ok (.iaload, 1) := by decide +kernel
theorem dX5_statements_19 : decode cX5_statements 19 = .ok (.iadd, 1) := by decide +kernel
theorem dX5_statements_20 : decode cX5_statements 20 = .ok (.istore_n 1, 1) := by decide +kernel
theorem dX5_statements_21 : decode cX5_statements 21 = .ok (.iinc 2 1, 3) := by decide +kernel
theorem dX5_statements_24 : decode cX5_statements 24 = .ok (.goto (-20), 3) := by decide +kernel
theorem dX5_statements_27 : decode cX5_statements 27 = .ok (.iload_n 1, 1) := by decide +kernel
theorem dX5_statements_28 : decode cX5_statements 28 = .ok (.ireturn, 1) := by decide +kernel
theorem dX5_classOf_0 : decode cX5_classOf 0 = .ok (.aload_n 0, 1) := by decide +kernel
theorem dX5_classOf_1 : decode cX5_classOf 1 = .ok (.getfield 9, 3) := by decide +kernel
theorem dX5_classOf_4 : decode cX5_classOf 4 = .ok (.iload_n 1, 1) := by decide +kernel
theorem dX5_classOf_5 : decode cX5_classOf 5 = .ok (.iaload, 1) := by decide +kernel
theorem dX5_classOf_6 : decode cX5_classOf 6 = .ok (.ireturn, 1) := by decide +kernel
theorem dX5_putClass_0 : decode cX5_putClass 0 = .ok (.aload_n 0, 1) := by decide +kernel
theorem dX5_putClass_1 : decode cX5_putClass 1 = .ok (.getfield 9, 3) := by decide +kernel
theorem dX5_putClass_4 : decode cX5_putClass 4 = .ok (.iload_n 1, 1) := by decide +kernel
theorem dX5_putClass_5 : decode cX5_putClass 5 = .ok (.iload_n 2, 1) := by decide +kernel
theorem dX5_putClass_6 : decode cX5_putClass 6 = .ok (.iastore, 1) := by decide +kernel
theorem dX5_putClass_7 : decode cX5_putClass 7 = .ok (.return_, 1) := by decide +kernel
theorem dX5_length_0 : decode cX5_length 0 = .ok (.aload_n 0, 1) := by decide +kernel
theorem dX5_length_1 : decode cX5_length 1 = .ok (.getfield 15, 3) := by decide +kernel
theorem dX5_length_4 : decode cX5_length 4 = .ok (.iload_n 1, 1) := by decide +kernel
theorem dX5_length_5 : decode cX5_length 5 = .ok (.iaload, 1) := by decide +kernel
theorem dX5_length_6 : decode cX5_length 6 = .ok (.ireturn, 1) := by decide +kernel
theorem dX5_sort_0 : decode cX5_sort 0 = .ok (.aload_n 0, 1) := by decide +kernel
theorem dX5_sort_1 : decode cX5_sort 1 = .ok (.getfield 18, 3) := by decide +kernel
theorem dX5_sort_4 : decode cX5_sort 4 = .ok (.iload_n 1, 1) := by decide +kernel
theorem dX5_sort_5 : decode cX5_sort 5 = .ok (.iconst 4, 1) := by decide +kernel
theorem dX5_sort_6 : decode cX5_sort 6 = .ok (.imul, 1) := by decide +kernel
theorem dX5_sort_7 : decode cX5_sort 7 = .ok (.iload_n 2, 1) := by decide +kernel
theorem dX5_sort_8 : decode cX5_sort 8 = .ok (.iadd, 1) := by decide +kernel
theorem dX5_sort_9 : decode cX5_sort 9 = .ok (.iaload, 1) := by decide +kernel
theorem dX5_sort_10 : decode cX5_sort 10 = .ok (.ireturn, 1) := by decide +kernel
theorem dX5_operand_0 : decode cX5_operand 0 = .ok (.aload_n 0, 1) := by decide +kernel
theorem dX5_operand_1 : decode cX5_operand 1 = .ok (.getfield 21, 3) := by decide +kernel
theorem dX5_operand_4 : decode cX5_operand 4 = .ok (.iload_n 1, 1) := by decide +kernel
theorem dX5_operand_5 : decode cX5_operand 5 = .ok (.iconst 4, 1) := by decide +kernel
theorem dX5_operand_6 : decode cX5_operand 6 = .ok (.imul, 1) := by decide +kernel
theorem dX5_operand_7 : decode cX5_operand 7 = .ok (.iload_n 2, 1) := by decide +kernel
theorem dX5_operand_8 : decode cX5_operand 8 = .ok (.iadd, 1) := by decide +kernel
theorem dX5_operand_9 : decode cX5_operand 9 = .ok (.iaload, 1) := by decide +kernel
theorem dX5_operand_10 : decode cX5_operand 10 = .ok (.ireturn, 1) := by decide +kernel
theorem dX5_putStatement_0 : decode cX5_putStatement 0 = .ok (.aload_n 0, 1) := by decide +kernel
theorem dX5_putStatement_1 : decode cX5_putStatement 1 = .ok (.getfield 18, 3) := by decide +kernel
theorem dX5_putStatement_4 : decode cX5_putStatement 4 = .ok (.iload_n 1, 1) := by decide +kernel
theorem dX5_putStatement_5 : decode cX5_putStatement 5 = .ok (.iconst 4, 1) := by decide +kernel
theorem dX5_putStatement_6 : decode cX5_putStatement 6 = .ok (.imul, 1) := by decide +kernel
theorem dX5_putStatement_7 : decode cX5_putStatement 7 = .ok (.iload_n 2, 1) := by decide +kernel
theorem dX5_putStatement_8 : decode cX5_putStatement 8 = .ok (.iadd, 1) := by decide +kernel
theorem dX5_putStatement_9 : decode cX5_putStatement 9 = .ok (.iload_n 3, 1) := by decide +kernel
theorem dX5_putStatement_10 : decode cX5_putStatement 10 = .ok (.iastore, 1) := by decide +kernel
theorem dX5_putStatement_11 : decode cX5_putStatement 11 = .ok (.aload_n 0, 1) := by decide +kernel
theorem dX5_putStatement_12 : decode cX5_putStatement 12 = .ok (.getfield 21, 3) := by decide +kernel
theorem dX5_putStatement_15 : decode cX5_putStatement 15 = .ok (.iload_n 1, 1) := by decide +kernel
theorem dX5_putStatement_16 : decode cX5_putStatement 16 = .ok (.iconst 4, 1) := by decide +kernel
theorem dX5_putStatement_17 : decode cX5_putStatement 17 = .ok (.imul, 1) := by decide +kernel
theorem dX5_putStatement_18 : decode cX5_putStatement 18 = .ok (.iload_n 2, 1) := by decide +kernel
theorem dX5_putStatement_19 : decode cX5_putStatement 19 = .ok (.iadd, 1) := by decide +kernel
theorem dX5_putStatement_20 : decode cX5_putStatement 20 = .ok (.iload 4, 2) := by decide +kernel
theorem dX5_putStatement_22 : decode cX5_putStatement 22 = .ok (.iastore, 1) := by decide +kernel
theorem dX5_putStatement_23 : decode cX5_putStatement 23 = .ok (.return_, 1) := by decide +kernel
theorem dX5_fact_0 : decode cX5_fact 0 = .ok (.aload_n 0, 1) := by decide +kernel
theorem dX5_fact_1 : decode cX5_fact 1 = .ok (.getfield 24, 3) := by decide +kernel
theorem dX5_fact_4 : decode cX5_fact 4 = .ok (.iload_n 1, 1) := by decide +kernel
theorem dX5_fact_5 : decode cX5_fact 5 = .ok (.bipush 6, 2) := by decide +kernel
theorem dX5_fact_7 : decode cX5_fact 7 = .ok (.imul, 1) := by decide +kernel
theorem dX5_fact_8 : decode cX5_fact 8 = .ok (.iload_n 2, 1) := by decide +kernel
theorem dX5_fact_9 : decode cX5_fact 9 = .ok (.iadd, 1) := by decide +kernel
theorem dX5_fact_10 : decode cX5_fact 10 = .ok (.iaload, 1) := by decide +kernel
theorem dX5_fact_11 : decode cX5_fact 11 = .ok (.ireturn, 1) := by decide +kernel
theorem dX5_putFact_0 : decode cX5_putFact 0 = .ok (.aload_n 0, 1) := by decide +kernel
theorem dX5_putFact_1 : decode cX5_putFact 1 = .ok (.getfield 24, 3) := by decide +kernel
theorem dX5_putFact_4 : decode cX5_putFact 4 = .ok (.iload_n 1, 1) := by decide +kernel
theorem dX5_putFact_5 : decode cX5_putFact 5 = .ok (.bipush 6, 2) := by decide +kernel
theorem dX5_putFact_7 : decode cX5_putFact 7 = .ok (.imul, 1) := by decide +kernel
theorem dX5_putFact_8 : decode cX5_putFact 8 = .ok (.iload_n 2, 1) := by decide +kernel
theorem dX5_putFact_9 : decode cX5_putFact 9 = .ok (.iadd, 1) := by decide +kernel
theorem dX5_putFact_10 : decode cX5_putFact 10 = .ok (.iload_n 3, 1) := by decide +kernel
theorem dX5_putFact_11 : decode cX5_putFact 11 = .ok (.iastore, 1) := by decide +kernel
theorem dX5_putFact_12 : decode cX5_putFact 12 = .ok (.return_, 1) := by decide +kernel
theorem dX5_exchange_0 : decode cX5_exchange 0 = .ok (.iconst 0, 1) := by decide +kernel
theorem dX5_exchange_1 : decode cX5_exchange 1 = .ok (.istore_n 3, 1) := by decide +kernel
theorem dX5_exchange_2 : decode cX5_exchange 2 = .ok (.iload_n 3, 1) := by decide +kernel
theorem dX5_exchange_3 : decode cX5_exchange 3 = .ok (.bipush 6, 2) := by decide +kernel
theorem dX5_exchange_5 : decode cX5_exchange 5 = .ok (.if_icmp .ge 37, 3) := by decide +kernel
theorem dX5_exchange_8 : decode cX5_exchange 8 = .ok (.aload_n 0, 1) := by decide +kernel
theorem dX5_exchange_9 : decode cX5_exchange 9 = .ok (.iload_n 1, 1) := by decide +kernel
theorem dX5_exchange_10 : decode cX5_exchange 10 = .ok (.iload_n 3, 1) := by decide +kernel
theorem dX5_exchange_11 : decode cX5_exchange 11 = .ok (.invokevirtual 40, 3) := by decide +kernel
theorem dX5_exchange_14 : decode cX5_exchange 14 = .ok (.istore 4, 2) := by decide +kernel
theorem dX5_exchange_16 : decode cX5_exchange 16 = .ok (.aload_n 0, 1) := by decide +kernel
theorem dX5_exchange_17 : decode cX5_exchange 17 = .ok (.iload_n 1, 1) := by decide +kernel
theorem dX5_exchange_18 : decode cX5_exchange 18 = .ok (.iload_n 3, 1) := by decide +kernel
theorem dX5_exchange_19 : decode cX5_exchange 19 = .ok (.aload_n 0, 1) := by decide +kernel
theorem dX5_exchange_20 : decode cX5_exchange 20 = .ok (.iload_n 2, 1) := by decide +kernel
theorem dX5_exchange_21 : decode cX5_exchange 21 = .ok (.iload_n 3, 1) := by decide +kernel
theorem dX5_exchange_22 : decode cX5_exchange 22 = .ok (.invokevirtual 40, 3) := by decide +kernel
theorem dX5_exchange_25 : decode cX5_exchange 25 = .ok (.invokevirtual 44, 3) := by decide +kernel
theorem dX5_exchange_28 : decode cX5_exchange 28 = .ok (.aload_n 0, 1) := by decide +kernel
theorem dX5_exchange_29 : decode cX5_exchange 29 = .ok (.iload_n 2, 1) := by decide +kernel
theorem dX5_exchange_30 : decode cX5_exchange 30 = .ok (.iload_n 3, 1) := by decide +kernel
theorem dX5_exchange_31 : decode cX5_exchange 31 = .ok (.iload 4, 2) := by decide +kernel
theorem dX5_exchange_33 : decode cX5_exchange 33 = .ok (.invokevirtual 44, 3) := by decide +kernel
theorem dX5_exchange_36 : decode cX5_exchange 36 = .ok (.iinc 3 1, 3) := by decide +kernel
theorem dX5_exchange_39 : decode cX5_exchange 39 = .ok (.goto (-37), 3) := by decide +kernel
theorem dX5_exchange_42 : decode cX5_exchange 42 = .ok (.return_, 1) := by decide +kernel
theorem dX5_addMethod_0 : decode cX5_addMethod 0 = .ok (.aload_n 0, 1) := by decide +kernel
theorem dX5_addMethod_1 : decode cX5_addMethod 1 = .ok (.getfield 27, 3) := by decide +kernel
theorem dX5_addMethod_4 : decode cX5_addMethod 4 = .ok (.bipush 6, 2) := by decide +kernel
theorem dX5_addMethod_6 : decode cX5_addMethod 6 = .ok (.if_icmp .ge 33, 3) := by decide +kernel
theorem dX5_addMethod_9 : decode cX5_addMethod 9 = .ok (.aload_n 0, 1) := by decide +kernel
theorem dX5_addMethod_10 : decode cX5_addMethod 10 = .ok (.getfield 9, 3) := by decide +kernel
theorem dX5_addMethod_13 : decode cX5_addMethod 13 = .ok (.aload_n 0, 1) := by decide +kernel
theorem dX5_addMethod_14 : decode cX5_addMethod 14 = .ok (.getfield 27, 3) := by decide +kernel
theorem dX5_addMethod_17 : decode cX5_addMethod 17 = .ok (.iload_n 1, 1) := by decide +kernel
theorem dX5_addMethod_18 : decode cX5_addMethod 18 = .ok (.iastore, 1) := by decide +kernel
theorem dX5_addMethod_19 : decode cX5_addMethod 19 = .ok (.aload_n 0, 1) := by decide +kernel
theorem dX5_addMethod_20 : decode cX5_addMethod 20 = .ok (.getfield 15, 3) := by decide +kernel
theorem dX5_addMethod_23 : decode cX5_addMethod 23 = .ok (.aload_n 0, 1) := by decide +kernel
theorem dX5_addMethod_24 : decode cX5_addMethod 24 = .ok (.getfield 27, 3) := by decide +kernel
theorem dX5_addMethod_27 : decode cX5_addMethod 27 = .ok (.iconst 0, 1) := by decide +kernel
theorem dX5_addMethod_28 : decode cX5_addMethod 28 = .ok (.iastore, 1) := by decide +kernel
theorem dX5_addMethod_29 : decode cX5_addMethod 29 = .ok (.aload_n 0, 1) := by decide +kernel
theorem dX5_addMethod_30 : decode cX5_addMethod 30 = .ok (.dup, 1) := by decide +kernel
theorem dX5_addMethod_31 : decode cX5_addMethod 31 = .ok (.getfield 27, 3) := by decide +kernel
theorem dX5_addMethod_34 : decode cX5_addMethod 34 = .ok (.iconst 1, 1) := by decide +kernel
theorem dX5_addMethod_35 : decode cX5_addMethod 35 = .ok (.iadd, 1) := by decide +kernel
theorem dX5_addMethod_36 : decode cX5_addMethod 36 = .ok (.putfield 27, 3) := by decide +kernel
theorem dX5_addMethod_39 : decode cX5_addMethod 39 = .ok (.return_, 1) := by decide +kernel
theorem dX5_addStatement_0 : decode cX5_addStatement 0 = .ok (.aload_n 0, 1) := by decide +kernel
theorem dX5_addStatement_1 : decode cX5_addStatement 1 = .ok (.getfield 27, 3) := by decide +kernel
theorem dX5_addStatement_4 : decode cX5_addStatement 4 = .ok (.iconst 1, 1) := by decide +kernel
theorem dX5_addStatement_5 : decode cX5_addStatement 5 = .ok (.isub, 1) := by decide +kernel
theorem dX5_addStatement_6 : decode cX5_addStatement 6 = .ok (.istore_n 3, 1) := by decide +kernel
theorem dX5_addStatement_7 : decode cX5_addStatement 7 = .ok (.iload_n 3, 1) := by decide +kernel
theorem dX5_addStatement_8 : decode cX5_addStatement 8 = .ok (.ifCond .lt 36, 3) := by decide +kernel
theorem dX5_addStatement_11 : decode cX5_addStatement 11 = .ok (.aload_n 0, 1) := by decide +kernel
theorem dX5_addStatement_12 : decode cX5_addStatement 12 = .ok (.getfield 15, 3) := by decide +kernel
theorem dX5_addStatement_15 : decode cX5_addStatement 15 = .ok (.iload_n 3, 1) := by decide +kernel
theorem dX5_addStatement_16 : decode cX5_addStatement 16 = .ok (.iaload, 1) := by decide +kernel
theorem dX5_addStatement_17 : decode cX5_addStatement 17 = .ok (.iconst 4, 1) := by decide +kernel
theorem dX5_addStatement_18 : decode cX5_addStatement 18 = .ok (.if_icmp .ge 26, 3) := by decide +kernel
theorem dX5_addStatement_21 : decode cX5_addStatement 21 = .ok (.aload_n 0, 1) := by decide +kernel
theorem dX5_addStatement_22 : decode cX5_addStatement 22 = .ok (.iload_n 3, 1) := by decide +kernel
theorem dX5_addStatement_23 : decode cX5_addStatement 23 = .ok (.aload_n 0, 1) := by decide +kernel
theorem dX5_addStatement_24 : decode cX5_addStatement 24 = .ok (.getfield 15, 3) := by decide +kernel
theorem dX5_addStatement_27 : decode cX5_addStatement 27 = .ok (.iload_n 3, 1) := by decide +kernel
theorem dX5_addStatement_28 : decode cX5_addStatement 28 = .ok (.iaload, 1) := by decide +kernel
theorem dX5_addStatement_29 : decode cX5_addStatement 29 = .ok (.iload_n 1, 1) := by decide +kernel
theorem dX5_addStatement_30 : decode cX5_addStatement 30 = .ok (.iload_n 2, 1) := by decide +kernel
theorem dX5_addStatement_31 : decode cX5_addStatement 31 = .ok (.invokevirtual 48, 3) := by decide +kernel
theorem dX5_addStatement_34 : decode cX5_addStatement 34 = .ok (.aload_n 0, 1) := by decide +kernel
theorem dX5_addStatement_35 : decode cX5_addStatement 35 = .ok (.getfield 15, 3) := by decide +kernel
theorem dX5_addStatement_38 : decode cX5_addStatement 38 = .ok (.iload_n 3, 1) := by decide +kernel
theorem dX5_addStatement_39 : decode cX5_addStatement 39 = .ok (.dup2, 1) := by decide +kernel
theorem dX5_addStatement_40 : decode cX5_addStatement 40 = .ok (.iaload, 1) := by decide +kernel
theorem dX5_addStatement_41 : decode cX5_addStatement 41 = .ok (.iconst 1, 1) := by decide +kernel
theorem dX5_addStatement_42 : decode cX5_addStatement 42 = .ok (.iadd, 1) := by decide +kernel
theorem dX5_addStatement_43 : decode cX5_addStatement 43 = .ok (.iastore, 1) := by decide +kernel
theorem dX5_addStatement_44 : decode cX5_addStatement 44 = .ok (.return_, 1) := by decide +kernel
theorem dX5_addAdvice_0 : decode cX5_addAdvice 0 = .ok (.aload_n 0, 1) := by decide +kernel
theorem dX5_addAdvice_1 : decode cX5_addAdvice 1 = .ok (.getfield 31, 3) := by decide +kernel
theorem dX5_addAdvice_4 : decode cX5_addAdvice 4 = .ok (.iconst 4, 1) := by decide +kernel
theorem dX5_addAdvice_5 : decode cX5_addAdvice 5 = .ok (.invokestatic 52, 3) := by decide +kernel
theorem dX5_addAdvice_8 : decode cX5_addAdvice 8 = .ok (.istore_n 2, 1) := by decide +kernel
theorem dX5_addAdvice_9 : decode cX5_addAdvice 9 = .ok (.aload_n 0, 1) := by decide +kernel
theorem dX5_addAdvice_10 : decode cX5_addAdvice 10 = .ok (.iload_n 2, 1) := by decide +kernel
theorem dX5_addAdvice_11 : decode cX5_addAdvice 11 = .ok (.iconst 5, 1) := by decide +kernel
theorem dX5_addAdvice_12 : decode cX5_addAdvice 12 = .ok (.iload_n 1, 1) := by decide +kernel
theorem dX5_addAdvice_13 : decode cX5_addAdvice 13 = .ok (.invokevirtual 44, 3) := by decide +kernel
theorem dX5_addAdvice_16 : decode cX5_addAdvice 16 = .ok (.aload_n 0, 1) := by decide +kernel
theorem dX5_addAdvice_17 : decode cX5_addAdvice 17 = .ok (.iload_n 2, 1) := by decide +kernel
theorem dX5_addAdvice_18 : decode cX5_addAdvice 18 = .ok (.iconst 1, 1) := by decide +kernel
theorem dX5_addAdvice_19 : decode cX5_addAdvice 19 = .ok (.iadd, 1) := by decide +kernel
theorem dX5_addAdvice_20 : decode cX5_addAdvice 20 = .ok (.putfield 31, 3) := by decide +kernel
theorem dX5_addAdvice_23 : decode cX5_addAdvice 23 = .ok (.iload_n 2, 1) := by decide +kernel
theorem dX5_addAdvice_24 : decode cX5_addAdvice 24 = .ok (.ireturn, 1) := by decide +kernel
theorem dX5_callsOnlyWhatIsThere_0 : decode cX5_callsOnlyWhatIsThere 0 = .ok (.iconst 0, 1) := by decide +kernel
theorem dX5_callsOnlyWhatIsThere_1 : decode cX5_callsOnlyWhatIsThere 1 = .ok (.istore_n 1, 1) := by decide +kernel
theorem dX5_callsOnlyWhatIsThere_2 : decode cX5_callsOnlyWhatIsThere 2 = .ok (.iload_n 1, 1) := by decide +kernel
theorem dX5_callsOnlyWhatIsThere_3 : decode cX5_callsOnlyWhatIsThere 3 = .ok (.aload_n 0, 1) := by decide +kernel
theorem dX5_callsOnlyWhatIsThere_4 : decode cX5_callsOnlyWhatIsThere 4 = .ok (.getfield 27, 3) := by decide +kernel
theorem dX5_callsOnlyWhatIsThere_7 : decode cX5_callsOnlyWhatIsThere 7 = .ok (.if_icmp .ge 24, 3) := by decide +kernel
theorem dX5_callsOnlyWhatIsThere_10 : decode cX5_callsOnlyWhatIsThere 10 = .ok (.aload_n 0, 1) := by decide +kernel
theorem dX5_callsOnlyWhatIsThere_11 : decode cX5_callsOnlyWhatIsThere 11 = .ok (.iload_n 1, 1) := by decide +kernel
theorem dX5_callsOnlyWhatIsThere_12 : decode cX5_callsOnlyWhatIsThere 12 = .ok (.invokevirtual 57, 3) := by decide +kernel
theorem dX5_callsOnlyWhatIsThere_15 : decode cX5_callsOnlyWhatIsThere 15 = .ok (.aload_n 0, 1) := by decide +kernel
theorem dX5_callsOnlyWhatIsThere_16 : decode cX5_callsOnlyWhatIsThere 16 = .ok (.getfield 27, 3) := by decide +kernel
theorem dX5_callsOnlyWhatIsThere_19 : decode cX5_callsOnlyWhatIsThere 19 = .ok (.ishr, 1) := by decide +kernel
theorem dX5_callsOnlyWhatIsThere_20 : decode cX5_callsOnlyWhatIsThere 20 = .ok (.ifCond .eq 5, 3) := by decide +kernel
theorem dX5_callsOnlyWhatIsThere_23 : decode cX5_callsOnlyWhatIsThere 23 = .ok (.iconst 0, 1) := by decide +kernel
theorem dX5_callsOnlyWhatIsThere_24 : decode cX5_callsOnlyWhatIsThere 24 = .ok (.ireturn, 1) := by decide +kernel
theorem dX5_callsOnlyWhatIsThere_25 : decode cX5_callsOnlyWhatIsThere 25 = .ok (.iinc 1 1, 3) := by decide +kernel
theorem dX5_callsOnlyWhatIsThere_28 : decode cX5_callsOnlyWhatIsThere 28 = .ok (.goto (-26), 3) := by decide +kernel
theorem dX5_callsOnlyWhatIsThere_31 : decode cX5_callsOnlyWhatIsThere 31 = .ok (.iconst 1, 1) := by decide +kernel
theorem dX5_callsOnlyWhatIsThere_32 : decode cX5_callsOnlyWhatIsThere 32 = .ok (.ireturn, 1) := by decide +kernel
theorem dX5_calledBy_0 : decode cX5_calledBy 0 = .ok (.iconst 0, 1) := by decide +kernel
theorem dX5_calledBy_1 : decode cX5_calledBy 1 = .ok (.istore_n 2, 1) := by decide +kernel
theorem dX5_calledBy_2 : decode cX5_calledBy 2 = .ok (.iconst 0, 1) := by decide +kernel
theorem dX5_calledBy_3 : decode cX5_calledBy 3 = .ok (.istore_n 3, 1) := by decide +kernel
theorem dX5_calledBy_4 : decode cX5_calledBy 4 = .ok (.iload_n 3, 1) := by decide +kernel
theorem dX5_calledBy_5 : decode cX5_calledBy 5 = .ok (.aload_n 0, 1) := by decide +kernel
theorem dX5_calledBy_6 : decode cX5_calledBy 6 = .ok (.getfield 15, 3) := by decide +kernel
theorem dX5_calledBy_9 : decode cX5_calledBy 9 = .ok (.iload_n 1, 1) := by decide +kernel
theorem dX5_calledBy_10 : decode cX5_calledBy 10 = .ok (.iaload, 1) := by decide +kernel
theorem dX5_calledBy_11 : decode cX5_calledBy 11 = .ok (.if_icmp .ge 39, 3) := by decide +kernel
theorem dX5_calledBy_14 : decode cX5_calledBy 14 = .ok (.iload_n 1, 1) := by decide +kernel
theorem dX5_calledBy_15 : decode cX5_calledBy 15 = .ok (.iconst 4, 1) := by decide +kernel
theorem dX5_calledBy_16 : decode cX5_calledBy 16 = .ok (.imul, 1) := by decide +kernel
theorem dX5_calledBy_17 : decode cX5_calledBy 17 = .ok (.iload_n 3, 1) := by decide +kernel
theorem dX5_calledBy_18 : decode cX5_calledBy 18 = .ok (.iadd, 1) := by decide +kernel
theorem dX5_calledBy_19 : decode cX5_calledBy 19 = .ok (.istore 4, 2) := by decide +kernel
theorem dX5_calledBy_21 : decode cX5_calledBy 21 = .ok (.aload_n 0, 1) := by decide +kernel
theorem dX5_calledBy_22 : decode cX5_calledBy 22 = .ok (.getfield 18, 3) := by decide +kernel
theorem dX5_calledBy_25 : decode cX5_calledBy 25 = .ok (.iload 4, 2) := by decide +kernel
theorem dX5_calledBy_27 : decode cX5_calledBy 27 = .ok (.iaload, 1) := by decide +kernel
theorem dX5_calledBy_28 : decode cX5_calledBy 28 = .ok (.iconst 1, 1) := by decide +kernel
theorem dX5_calledBy_29 : decode cX5_calledBy 29 = .ok (.if_icmp .ne 15, 3) := by decide +kernel
theorem dX5_calledBy_32 : decode cX5_calledBy 32 = .ok (.iload_n 2, 1) := by decide +kernel
theorem dX5_calledBy_33 : decode cX5_calledBy 33 = .ok (.iconst 1, 1) := by decide +kernel
theorem dX5_calledBy_34 : decode cX5_calledBy 34 = .ok (.aload_n 0, 1) := by decide +kernel
theorem dX5_calledBy_35 : decode cX5_calledBy 35 = .ok (.getfield 21, 3) := by decide +kernel
theorem dX5_calledBy_38 : decode cX5_calledBy 38 = .ok (.iload 4, 2) := by decide +kernel
theorem dX5_calledBy_40 : decode cX5_calledBy 40 = .ok (.iaload, 1) := by decide +kernel
theorem dX5_calledBy_41 : decode cX5_calledBy 41 = .ok (.ishl, 1) := by decide +kernel
theorem dX5_calledBy_42 : decode cX5_calledBy 42 = .ok (.ior, 1) := by decide +kernel
theorem dX5_calledBy_43 : decode cX5_calledBy 43 = .ok (.istore_n 2, 1) := by decide +kernel
theorem dX5_calledBy_44 : decode cX5_calledBy 44 = .ok (.iinc 3 1, 3) := by decide +kernel
theorem dX5_calledBy_47 : decode cX5_calledBy 47 = .ok (.goto (-43), 3) := by decide +kernel
theorem dX5_calledBy_50 : decode cX5_calledBy 50 = .ok (.iload_n 2, 1) := by decide +kernel
theorem dX5_calledBy_51 : decode cX5_calledBy 51 = .ok (.ireturn, 1) := by decide +kernel
theorem dX5_reachedFrom_0 : decode cX5_reachedFrom 0 = .ok (.aload_n 0, 1) := by decide +kernel
theorem dX5_reachedFrom_1 : decode cX5_reachedFrom 1 = .ok (.iload_n 1, 1) := by decide +kernel
theorem dX5_reachedFrom_2 : decode cX5_reachedFrom 2 = .ok (.invokevirtual 57, 3) := by decide +kernel
theorem dX5_reachedFrom_5 : decode cX5_reachedFrom 5 = .ok (.istore_n 2, 1) := by decide +kernel
theorem dX5_reachedFrom_6 : decode cX5_reachedFrom 6 = .ok (.iconst 1, 1) := by decide +kernel
theorem dX5_reachedFrom_7 : decode cX5_reachedFrom 7 = .ok (.istore_n 3, 1) := by decide +kernel
theorem dX5_reachedFrom_8 : decode cX5_reachedFrom 8 = .ok (.iload_n 3, 1) := by decide +kernel
theorem dX5_reachedFrom_9 : decode cX5_reachedFrom 9 = .ok (.aload_n 0, 1) := by decide +kernel
theorem dX5_reachedFrom_10 : decode cX5_reachedFrom 10 = .ok (.getfield 27, 3) := by decide +kernel
theorem dX5_reachedFrom_13 : decode cX5_reachedFrom 13 = .ok (.if_icmp .ge 49, 3) := by decide +kernel
theorem dX5_reachedFrom_16 : decode cX5_reachedFrom 16 = .ok (.iconst 0, 1) := by decide +kernel
theorem dX5_reachedFrom_17 : decode cX5_reachedFrom 17 = .ok (.istore 4, 2) := by decide +kernel
theorem dX5_reachedFrom_19 : decode cX5_reachedFrom 19 = .ok (.iload 4, 2) := by decide +kernel
theorem dX5_reachedFrom_21 : decode cX5_reachedFrom 21 = .ok (.aload_n 0, 1) := by decide +kernel
theorem dX5_reachedFrom_22 : decode cX5_reachedFrom 22 = .ok (.getfield 27, 3) := by decide +kernel
theorem dX5_reachedFrom_25 : decode cX5_reachedFrom 25 = .ok (.if_icmp .ge 31, 3) := by decide +kernel
theorem dX5_reachedFrom_28 : decode cX5_reachedFrom 28 = .ok (.iload_n 2, 1) := by decide +kernel
theorem dX5_reachedFrom_29 : decode cX5_reachedFrom 29 = .ok (.iload_n 2, 1) := by decide +kernel
theorem dX5_reachedFrom_30 : decode cX5_reachedFrom 30 = .ok (.iload 4, 2) := by decide +kernel
theorem dX5_reachedFrom_32 : decode cX5_reachedFrom 32 = .ok (.invokestatic 61, 3) := by decide +kernel
theorem dX5_reachedFrom_35 : decode cX5_reachedFrom 35 = .ok (.ifCond .eq 12, 3) := by decide +kernel
theorem dX5_reachedFrom_38 : decode cX5_reachedFrom 38 = .ok (.aload_n 0, 1) := by decide +kernel
theorem dX5_reachedFrom_39 : decode cX5_reachedFrom 39 = .ok (.iload 4, 2) := by decide +kernel
theorem dX5_reachedFrom_41 : decode cX5_reachedFrom 41 = .ok (.invokevirtual 57, 3) := by decide +kernel
theorem dX5_reachedFrom_44 : decode cX5_reachedFrom 44 = .ok (.goto 4, 3) := by decide +kernel
theorem dX5_reachedFrom_47 : decode cX5_reachedFrom 47 = .ok (.iconst 0, 1) := by decide +kernel
theorem dX5_reachedFrom_48 : decode cX5_reachedFrom 48 = .ok (.ior, 1) := by decide +kernel
theorem dX5_reachedFrom_49 : decode cX5_reachedFrom 49 = .ok (.istore_n 2, 1) := by decide +kernel
theorem dX5_reachedFrom_50 : decode cX5_reachedFrom 50 = .ok (.iinc 4 1, 3) := by decide +kernel
theorem dX5_reachedFrom_53 : decode cX5_reachedFrom 53 = .ok (.goto (-34), 3) := by decide +kernel
theorem dX5_reachedFrom_56 : decode cX5_reachedFrom 56 = .ok (.iinc 3 1, 3) := by decide +kernel
theorem dX5_reachedFrom_59 : decode cX5_reachedFrom 59 = .ok (.goto (-51), 3) := by decide +kernel
theorem dX5_reachedFrom_62 : decode cX5_reachedFrom 62 = .ok (.iload_n 2, 1) := by decide +kernel
theorem dX5_reachedFrom_63 : decode cX5_reachedFrom 63 = .ok (.ireturn, 1) := by decide +kernel
theorem dX5_isAbout_0 : decode cX5_isAbout 0 = .ok (.aload_n 0, 1) := by decide +kernel
theorem dX5_isAbout_1 : decode cX5_isAbout 1 = .ok (.iload_n 2, 1) := by decide +kernel
theorem dX5_isAbout_2 : decode cX5_isAbout 2 = .ok (.iconst 2, 1) := by decide +kernel
theorem dX5_isAbout_3 : decode cX5_isAbout 3 = .ok (.invokevirtual 40, 3) := by decide +kernel
theorem dX5_isAbout_6 : decode cX5_isAbout 6 = .ok (.istore_n 3, 1) := by decide +kernel
theorem dX5_isAbout_7 : decode cX5_isAbout 7 = .ok (.getstatic 65, 3) := by decide +kernel
theorem dX5_isAbout_10 : decode cX5_isAbout 10 = .ok (.aload_n 0, 1) := by decide +kernel
theorem dX5_isAbout_11 : decode cX5_isAbout 11 = .ok (.iload_n 2, 1) := by decide +kernel
theorem dX5_isAbout_12 : decode cX5_isAbout 12 = .ok (.iconst 1, 1) := by decide +kernel
theorem dX5_isAbout_13 : decode cX5_isAbout 13 = .ok (.invokevirtual 40, 3) := by decide +kernel
theorem dX5_isAbout_16 : decode cX5_isAbout 16 = .ok (.iaload, 1) := by decide +kernel
theorem dX5_isAbout_17 : decode cX5_isAbout 17 = .ok (.aload_n 0, 1) := by decide +kernel
theorem dX5_isAbout_18 : decode cX5_isAbout 18 = .ok (.getfield 9, 3) := by decide +kernel
theorem dX5_isAbout_21 : decode cX5_isAbout 21 = .ok (.iload_n 1, 1) := by decide +kernel
theorem dX5_isAbout_22 : decode cX5_isAbout 22 = .ok (.iaload, 1) := by decide +kernel
theorem dX5_isAbout_23 : decode cX5_isAbout 23 = .ok (.invokestatic 61, 3) := by decide +kernel
theorem dX5_isAbout_26 : decode cX5_isAbout 26 = .ok (.ifCond .eq 18, 3) := by decide +kernel
theorem dX5_isAbout_29 : decode cX5_isAbout 29 = .ok (.iload_n 3, 1) := by decide +kernel
theorem dX5_isAbout_30 : decode cX5_isAbout 30 = .ok (.bipush 6, 2) := by decide +kernel
theorem dX5_isAbout_32 : decode cX5_isAbout 32 = .ok (.if_icmp .eq 8, 3) := by decide +kernel
theorem dX5_isAbout_35 : decode cX5_isAbout 35 = .ok (.iload_n 3, 1) := by decide +kernel
theorem dX5_isAbout_36 : decode cX5_isAbout 36 = .ok (.iload_n 1, 1) := by decide +kernel
theorem dX5_isAbout_37 : decode cX5_isAbout 37 = .ok (.if_icmp .ne 7, 3) := by decide +kernel
theorem dX5_isAbout_40 : decode cX5_isAbout 40 = .ok (.iconst 1, 1) := by decide +kernel
theorem dX5_isAbout_41 : decode cX5_isAbout 41 = .ok (.goto 4, 3) := by decide +kernel
theorem dX5_isAbout_44 : decode cX5_isAbout 44 = .ok (.iconst 0, 1) := by decide +kernel
theorem dX5_isAbout_45 : decode cX5_isAbout 45 = .ok (.ireturn, 1) := by decide +kernel
theorem dX5_known_0 : decode cX5_known 0 = .ok (.aload_n 0, 1) := by decide +kernel
theorem dX5_known_1 : decode cX5_known 1 = .ok (.iload_n 2, 1) := by decide +kernel
theorem dX5_known_2 : decode cX5_known 2 = .ok (.iconst 3, 1) := by decide +kernel
theorem dX5_known_3 : decode cX5_known 3 = .ok (.invokevirtual 40, 3) := by decide +kernel
theorem dX5_known_6 : decode cX5_known 6 = .ok (.istore_n 3, 1) := by decide +kernel
theorem dX5_known_7 : decode cX5_known 7 = .ok (.aload_n 0, 1) := by decide +kernel
theorem dX5_known_8 : decode cX5_known 8 = .ok (.iload_n 2, 1) := by decide +kernel
theorem dX5_known_9 : decode cX5_known 9 = .ok (.iconst 4, 1) := by decide +kernel
theorem dX5_known_10 : decode cX5_known 10 = .ok (.invokevirtual 40, 3) := by decide +kernel
theorem dX5_known_13 : decode cX5_known 13 = .ok (.istore 4, 2) := by decide +kernel
theorem dX5_known_15 : decode cX5_known 15 = .ok (.iload 4, 2) := by decide +kernel
theorem dX5_known_17 : decode cX5_known 17 = .ok (.bipush 6, 2) := by decide +kernel
theorem dX5_known_19 : decode cX5_known 19 = .ok (.if_icmp .eq 9, 3) := by decide +kernel
theorem dX5_known_22 : decode cX5_known 22 = .ok (.iload 4, 2) := by decide +kernel
theorem dX5_known_24 : decode cX5_known 24 = .ok (.iload_n 1, 1) := by decide +kernel
theorem dX5_known_25 : decode cX5_known 25 = .ok (.if_icmp .ne 7, 3) := by decide +kernel
theorem dX5_known_28 : decode cX5_known 28 = .ok (.iconst 1, 1) := by decide +kernel
theorem dX5_known_29 : decode cX5_known 29 = .ok (.goto 4, 3) := by decide +kernel
theorem dX5_known_32 : decode cX5_known 32 = .ok (.iconst 0, 1) := by decide +kernel
theorem dX5_known_33 : decode cX5_known 33 = .ok (.istore 5, 2) := by decide +kernel
theorem dX5_known_35 : decode cX5_known 35 = .ok (.iload 5, 2) := by decide +kernel
theorem dX5_known_37 : decode cX5_known 37 = .ok (.ifCond .ne 29, 3) := by decide +kernel
theorem dX5_known_40 : decode cX5_known 40 = .ok (.iload 4, 2) := by decide +kernel
theorem dX5_known_42 : decode cX5_known 42 = .ok (.aload_n 0, 1) := by decide +kernel
theorem dX5_known_43 : decode cX5_known 43 = .ok (.getfield 27, 3) := by decide +kernel
theorem dX5_known_46 : decode cX5_known 46 = .ok (.if_icmp .ge 16, 3) := by decide +kernel
theorem dX5_known_49 : decode cX5_known 49 = .ok (.aload_n 0, 1) := by decide +kernel
theorem dX5_known_50 : decode cX5_known 50 = .ok (.iload 4, 2) := by decide +kernel
theorem dX5_known_52 : decode cX5_known 52 = .ok (.invokevirtual 68, 3) := by decide +kernel
theorem dX5_known_55 : decode cX5_known 55 = .ok (.iload_n 1, 1) := by decide +kernel
theorem dX5_known_56 : decode cX5_known 56 = .ok (.invokestatic 61, 3) := by decide +kernel
theorem dX5_known_59 : decode cX5_known 59 = .ok (.ifCond .ne 7, 3) := by decide +kernel
theorem dX5_known_62 : decode cX5_known 62 = .ok (.iconst 1, 1) := by decide +kernel
theorem dX5_known_63 : decode cX5_known 63 = .ok (.goto 4, 3) := by decide +kernel
theorem dX5_known_66 : decode cX5_known 66 = .ok (.iconst 0, 1) := by decide +kernel
theorem dX5_known_67 : decode cX5_known 67 = .ok (.istore 6, 2) := by decide +kernel
theorem dX5_known_69 : decode cX5_known 69 = .ok (.aload_n 0, 1) := by decide +kernel
theorem dX5_known_70 : decode cX5_known 70 = .ok (.iload_n 1, 1) := by decide +kernel
theorem dX5_known_71 : decode cX5_known 71 = .ok (.iload_n 2, 1) := by decide +kernel
theorem dX5_known_72 : decode cX5_known 72 = .ok (.invokevirtual 71, 3) := by decide +kernel
theorem dX5_known_75 : decode cX5_known 75 = .ok (.ifCond .eq 12, 3) := by decide +kernel
theorem dX5_known_78 : decode cX5_known 78 = .ok (.iload_n 3, 1) := by decide +kernel
theorem dX5_known_79 : decode cX5_known 79 = .ok (.ifCond .eq 8, 3) := by decide +kernel
theorem dX5_known_82 : decode cX5_known 82 = .ok (.iload 6, 2) := by decide +kernel
theorem dX5_known_84 : decode cX5_known 84 = .ok (.ifCond .eq 5, 3) := by decide +kernel
theorem dX5_known_87 : decode cX5_known 87 = .ok (.iconst 0, 1) := by decide +kernel
theorem dX5_known_88 : decode cX5_known 88 = .ok (.ireturn, 1) := by decide +kernel
theorem dX5_known_89 : decode cX5_known 89 = .ok (.iload_n 3, 1) := by decide +kernel
theorem dX5_known_90 : decode cX5_known 90 = .ok (.bipush 10, 2) := by decide +kernel
theorem dX5_known_92 : decode cX5_known 92 = .ok (.if_icmp .ne 12, 3) := by decide +kernel
theorem dX5_known_95 : decode cX5_known 95 = .ok (.iload 5, 2) := by decide +kernel
theorem dX5_known_97 : decode cX5_known 97 = .ok (.ifCond .eq 7, 3) := by decide +kernel
theorem dX5_known_100 : decode cX5_known 100 = .ok (.iconst 1, 1) := by decide +kernel
theorem dX5_known_101 : decode cX5_known 101 = .ok (.goto 4, 3) := by decide +kernel
theorem dX5_known_104 : decode cX5_known 104 = .ok (.iconst 2, 1) := by decide +kernel
theorem dX5_known_105 : decode cX5_known 105 = .ok (.ireturn, 1) := by decide +kernel
theorem dX5_testedAbout_0 : decode cX5_testedAbout 0 = .ok (.iconst 0, 1) := by decide +kernel
theorem dX5_testedAbout_1 : decode cX5_testedAbout 1 = .ok (.istore_n 2, 1) := by decide +kernel
theorem dX5_testedAbout_2 : decode cX5_testedAbout 2 = .ok (.iconst 0, 1) := by decide +kernel
theorem dX5_testedAbout_3 : decode cX5_testedAbout 3 = .ok (.istore_n 3, 1) := by decide +kernel
theorem dX5_testedAbout_4 : decode cX5_testedAbout 4 = .ok (.iload_n 3, 1) := by decide +kernel
theorem dX5_testedAbout_5 : decode cX5_testedAbout 5 = .ok (.aload_n 0, 1) := by decide +kernel
theorem dX5_testedAbout_6 : decode cX5_testedAbout 6 = .ok (.getfield 31, 3) := by decide +kernel
theorem dX5_testedAbout_9 : decode cX5_testedAbout 9 = .ok (.if_icmp .ge 27, 3) := by decide +kernel
theorem dX5_testedAbout_12 : decode cX5_testedAbout 12 = .ok (.iload_n 2, 1) := by decide +kernel
theorem dX5_testedAbout_13 : decode cX5_testedAbout 13 = .ok (.aload_n 0, 1) := by decide +kernel
theorem dX5_testedAbout_14 : decode cX5_testedAbout 14 = .ok (.iload_n 1, 1) := by decide +kernel
theorem dX5_testedAbout_15 : decode cX5_testedAbout 15 = .ok (.iload_n 3, 1) := by decide +kernel
theorem dX5_testedAbout_16 : decode cX5_testedAbout 16 = .ok (.invokevirtual 74, 3) := by decide +kernel
theorem dX5_testedAbout_19 : decode cX5_testedAbout 19 = .ok (.iconst 2, 1) := by decide +kernel
theorem dX5_testedAbout_20 : decode cX5_testedAbout 20 = .ok (.if_icmp .ne 7, 3) := by decide +kernel
theorem dX5_testedAbout_23 : decode cX5_testedAbout 23 = .ok (.iconst 1, 1) := by decide +kernel
theorem dX5_testedAbout_24 : decode cX5_testedAbout 24 = .ok (.goto 4, 3) := by decide +kernel
theorem dX5_testedAbout_27 : decode cX5_testedAbout 27 = .ok (.iconst 0, 1) := by decide +kernel
theorem dX5_testedAbout_28 : decode cX5_testedAbout 28 = .ok (.iadd, 1) := by decide +kernel
theorem dX5_testedAbout_29 : decode cX5_testedAbout 29 = .ok (.istore_n 2, 1) := by decide +kernel
theorem dX5_testedAbout_30 : decode cX5_testedAbout 30 = .ok (.iinc 3 1, 3) := by decide +kernel
theorem dX5_testedAbout_33 : decode cX5_testedAbout 33 = .ok (.goto (-29), 3) := by decide +kernel
theorem dX5_testedAbout_36 : decode cX5_testedAbout 36 = .ok (.iload_n 2, 1) := by decide +kernel
theorem dX5_testedAbout_37 : decode cX5_testedAbout 37 = .ok (.ireturn, 1) := by decide +kernel
theorem dX5_methodsNotNever_0 : decode cX5_methodsNotNever 0 = .ok (.iconst 0, 1) := by decide +kernel
theorem dX5_methodsNotNever_1 : decode cX5_methodsNotNever 1 = .ok (.istore_n 2, 1) := by decide +kernel
theorem dX5_methodsNotNever_2 : decode cX5_methodsNotNever 2 = .ok (.iconst 0, 1) := by decide +kernel
theorem dX5_methodsNotNever_3 : decode cX5_methodsNotNever 3 = .ok (.istore_n 3, 1) := by decide +kernel
theorem dX5_methodsNotNever_4 : decode cX5_methodsNotNever 4 = .ok (.iload_n 3, 1) := by decide +kernel
theorem dX5_methodsNotNever_5 : decode cX5_methodsNotNever 5 = .ok (.aload_n 0, 1) := by decide +kernel
theorem dX5_methodsNotNever_6 : decode cX5_methodsNotNever 6 = .ok (.getfield 27, 3) := by decide +kernel
theorem dX5_methodsNotNever_9 : decode cX5_methodsNotNever 9 = .ok (.if_icmp .ge 26, 3) := by decide +kernel
theorem dX5_methodsNotNever_12 : decode cX5_methodsNotNever 12 = .ok (.iload_n 2, 1) := by decide +kernel
theorem dX5_methodsNotNever_13 : decode cX5_methodsNotNever 13 = .ok (.aload_n 0, 1) := by decide +kernel
theorem dX5_methodsNotNever_14 : decode cX5_methodsNotNever 14 = .ok (.iload_n 3, 1) := by decide +kernel
theorem dX5_methodsNotNever_15 : decode cX5_methodsNotNever 15 = .ok (.iload_n 1, 1) := by decide +kernel
theorem dX5_methodsNotNever_16 : decode cX5_methodsNotNever 16 = .ok (.invokevirtual 74, 3) := by decide +kernel
theorem dX5_methodsNotNever_19 : decode cX5_methodsNotNever 19 = .ok (.ifCond .ne 7, 3) := by decide +kernel
theorem dX5_methodsNotNever_22 : decode cX5_methodsNotNever 22 = .ok (.iconst 0, 1) := by decide +kernel
theorem dX5_methodsNotNever_23 : decode cX5_methodsNotNever 23 = .ok (.goto 4, 3) := by decide +kernel
theorem dX5_methodsNotNever_26 : decode cX5_methodsNotNever 26 = .ok (.iconst 1, 1) := by decide +kernel
theorem dX5_methodsNotNever_27 : decode cX5_methodsNotNever 27 = .ok (.iadd, 1) := by decide +kernel
theorem dX5_methodsNotNever_28 : decode cX5_methodsNotNever 28 = .ok (.istore_n 2, 1) := by decide +kernel
theorem dX5_methodsNotNever_29 : decode cX5_methodsNotNever 29 = .ok (.iinc 3 1, 3) := by decide +kernel
theorem dX5_methodsNotNever_32 : decode cX5_methodsNotNever 32 = .ok (.goto (-28), 3) := by decide +kernel
theorem dX5_methodsNotNever_35 : decode cX5_methodsNotNever 35 = .ok (.iload_n 2, 1) := by decide +kernel
theorem dX5_methodsNotNever_36 : decode cX5_methodsNotNever 36 = .ok (.ireturn, 1) := by decide +kernel
theorem dX5_meantAt_0 : decode cX5_meantAt 0 = .ok (.iconst 0, 1) := by decide +kernel
theorem dX5_meantAt_1 : decode cX5_meantAt 1 = .ok (.istore 4, 2) := by decide +kernel
theorem dX5_meantAt_3 : decode cX5_meantAt 3 = .ok (.iconst 0, 1) := by decide +kernel
theorem dX5_meantAt_4 : decode cX5_meantAt 4 = .ok (.istore 5, 2) := by decide +kernel
theorem dX5_meantAt_6 : decode cX5_meantAt 6 = .ok (.iload 5, 2) := by decide +kernel
theorem dX5_meantAt_8 : decode cX5_meantAt 8 = .ok (.aload_n 0, 1) := by decide +kernel
theorem dX5_meantAt_9 : decode cX5_meantAt 9 = .ok (.getfield 31, 3) := by decide +kernel
theorem dX5_meantAt_12 : decode cX5_meantAt 12 = .ok (.if_icmp .ge 64, 3) := by decide +kernel
theorem dX5_meantAt_15 : decode cX5_meantAt 15 = .ok (.aload_n 0, 1) := by decide +kernel
theorem dX5_meantAt_16 : decode cX5_meantAt 16 = .ok (.iload 5, 2) := by decide +kernel
theorem dX5_meantAt_18 : decode cX5_meantAt 18 = .ok (.iconst 4, 1) := by decide +kernel
theorem dX5_meantAt_19 : decode cX5_meantAt 19 = .ok (.invokevirtual 40, 3) := by decide +kernel
theorem dX5_meantAt_22 : decode cX5_meantAt 22 = .ok (.istore 6, 2) := by decide +kernel
theorem dX5_meantAt_24 : decode cX5_meantAt 24 = .ok (.aload_n 0, 1) := by decide +kernel
theorem dX5_meantAt_25 : decode cX5_meantAt 25 = .ok (.iload_n 1, 1) := by decide +kernel
theorem dX5_meantAt_26 : decode cX5_meantAt 26 = .ok (.iload 5, 2) := by decide +kernel
theorem dX5_meantAt_28 : decode cX5_meantAt 28 = .ok (.invokevirtual 71, 3) := by decide +kernel
theorem dX5_meantAt_31 : decode cX5_meantAt 31 = .ok (.ifCond .eq 39, 3) := by decide +kernel
theorem dX5_meantAt_34 : decode cX5_meantAt 34 = .ok (.iload_n 2, 1) := by decide +kernel
theorem dX5_meantAt_35 : decode cX5_meantAt 35 = .ok (.aload_n 0, 1) := by decide +kernel
theorem dX5_meantAt_36 : decode cX5_meantAt 36 = .ok (.iload 5, 2) := by decide +kernel
theorem dX5_meantAt_38 : decode cX5_meantAt 38 = .ok (.iconst 3, 1) := by decide +kernel
theorem dX5_meantAt_39 : decode cX5_meantAt 39 = .ok (.invokevirtual 40, 3) := by decide +kernel
theorem dX5_meantAt_42 : decode cX5_meantAt 42 = .ok (.if_icmp .ge 28, 3) := by decide +kernel
theorem dX5_meantAt_45 : decode cX5_meantAt 45 = .ok (.iload 6, 2) := by decide +kernel
theorem dX5_meantAt_47 : decode cX5_meantAt 47 = .ok (.bipush 6, 2) := by decide +kernel
theorem dX5_meantAt_49 : decode cX5_meantAt 49 = .ok (.if_icmp .eq 12, 3) := by decide +kernel
theorem dX5_meantAt_52 : decode cX5_meantAt 52 = .ok (.iload_n 3, 1) := by decide +kernel
theorem dX5_meantAt_53 : decode cX5_meantAt 53 = .ok (.iload 6, 2) := by decide +kernel
theorem dX5_meantAt_55 : decode cX5_meantAt 55 = .ok (.invokestatic 61, 3) := by decide +kernel
theorem dX5_meantAt_58 : decode cX5_meantAt 58 = .ok (.ifCond .eq 12, 3) := by decide +kernel
theorem dX5_meantAt_61 : decode cX5_meantAt 61 = .ok (.iload 4, 2) := by decide +kernel
theorem dX5_meantAt_63 : decode cX5_meantAt 63 = .ok (.iconst 1, 1) := by decide +kernel
theorem dX5_meantAt_64 : decode cX5_meantAt 64 = .ok (.iload 5, 2) := by decide +kernel
theorem dX5_meantAt_66 : decode cX5_meantAt 66 = .ok (.ishl, 1) := by decide +kernel
theorem dX5_meantAt_67 : decode cX5_meantAt 67 = .ok (.ior, 1) := by decide +kernel
theorem dX5_meantAt_68 : decode cX5_meantAt 68 = .ok (.istore 4, 2) := by decide +kernel
theorem dX5_meantAt_70 : decode cX5_meantAt 70 = .ok (.iinc 5 1, 3) := by decide +kernel
theorem dX5_meantAt_73 : decode cX5_meantAt 73 = .ok (.goto (-67), 3) := by decide +kernel
theorem dX5_meantAt_76 : decode cX5_meantAt 76 = .ok (.iload 4, 2) := by decide +kernel
theorem dX5_meantAt_78 : decode cX5_meantAt 78 = .ok (.ireturn, 1) := by decide +kernel
