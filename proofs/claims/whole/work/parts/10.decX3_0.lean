theorem dX3_init_0 : decode cX3_init 0 = .ok (.aload_n 0, 1) := by decide +kernel
theorem dX3_init_1 : decode cX3_init 1 = .ok (.invokespecial 3, 3) := by decide +kernel
theorem dX3_init_4 : decode cX3_init 4 = .ok (.aload_n 0, 1) := by decide +kernel
theorem dX3_init_5 : decode cX3_init 5 = .ok (.bipush 99, 2) := by decide +kernel
theorem dX3_init_7 : decode cX3_init 7 = .ok (.newarray .int, 2) := by decide +kernel
theorem dX3_init_9 : decode cX3_init 9 = .ok (.putfield 9, 3) := by decide +kernel
theorem dX3_init_12 : decode cX3_init 12 = .ok (.aload_n 0, 1) := by decide +kernel
theorem dX3_init_13 : decode cX3_init 13 = .ok (.bipush 6, 2) := by decide +kernel
theorem dX3_init_15 : decode cX3_init 15 = .ok (.newarray .int, 2) := by decide +kernel
theorem dX3_init_17 : decode cX3_init 17 = .ok (.putfield 15, 3) := by decide +kernel
theorem dX3_init_20 : decode cX3_init 20 = .ok (.aload_n 0, 1) := by decide +kernel
theorem dX3_init_21 : decode cX3_init 21 = .ok (.iconst 0, 1) := by decide +kernel
theorem dX3_init_22 : decode cX3_init 22 = .ok (.putfield 18, 3) := by decide +kernel
theorem dX3_init_25 : decode cX3_init 25 = .ok (.aload_n 0, 1) := by decide +kernel
theorem dX3_init_26 : decode cX3_init 26 = .ok (.iconst 0, 1) := by decide +kernel
theorem dX3_init_27 : decode cX3_init 27 = .ok (.putfield 22, 3) := by decide +kernel
theorem dX3_init_30 : decode cX3_init 30 = .ok (.aload_n 0, 1) := by decide +kernel
theorem dX3_init_31 : decode cX3_init 31 = .ok (.iconst 0, 1) := by decide +kernel
theorem dX3_init_32 : decode cX3_init 32 = .ok (.putfield 25, 3) := by decide +kernel
theorem dX3_init_35 : decode cX3_init 35 = .ok (.aload_n 0, 1) := by decide +kernel
theorem dX3_init_36 : decode cX3_init 36 = .ok (.iconst 0, 1) := by decide +kernel
theorem dX3_init_37 : decode cX3_init 37 = .ok (.putfield 28, 3) := by decide +kernel
theorem dX3_init_40 : decode cX3_init 40 = .ok (.aload_n 0, 1) := by decide +kernel
theorem dX3_init_41 : decode cX3_init 41 = .ok (.iconst 0, 1) := by decide +kernel
theorem dX3_init_42 : decode cX3_init 42 = .ok (.putfield 31, 3) := by decide +kernel
theorem dX3_init_45 : decode cX3_init 45 = .ok (.aload_n 0, 1) := by decide +kernel
theorem dX3_init_46 : decode cX3_init 46 = .ok (.aload_n 1, 1) := by decide +kernel
theorem dX3_init_47 : decode cX3_init 47 = .ok (.putfield 35, 3) := by decide +kernel
theorem dX3_init_50 : decode cX3_init 50 = .ok (.return_, 1) := by decide +kernel
theorem dX3_make_0 : decode cX3_make 0 = .ok (.aload_n 0, 1) := by decide +kernel
theorem dX3_make_1 : decode cX3_make 1 = .ok (.aload_n 1, 1) := by decide +kernel
theorem dX3_make_2 : decode cX3_make 2 = .ok (.putfield 35, 3) := by decide +kernel
theorem dX3_make_5 : decode cX3_make 5 = .ok (.aload_n 0, 1) := by decide +kernel
theorem dX3_make_6 : decode cX3_make 6 = .ok (.iconst 0, 1) := by decide +kernel
theorem dX3_make_7 : decode cX3_make 7 = .ok (.putfield 18, 3) := by decide +kernel
theorem dX3_make_10 : decode cX3_make 10 = .ok (.aload_n 0, 1) := by decide +kernel
theorem dX3_make_11 : decode cX3_make 11 = .ok (.iconst 0, 1) := by decide +kernel
theorem dX3_make_12 : decode cX3_make 12 = .ok (.putfield 22, 3) := by decide +kernel
theorem dX3_make_15 : decode cX3_make 15 = .ok (.aload_n 0, 1) := by decide +kernel
theorem dX3_make_16 : decode cX3_make 16 = .ok (.iconst 0, 1) := by decide +kernel
theorem dX3_make_17 : decode cX3_make 17 = .ok (.putfield 25, 3) := by decide +kernel
theorem dX3_make_20 : decode cX3_make 20 = .ok (.aload_n 0, 1) := by decide +kernel
theorem dX3_make_21 : decode cX3_make 21 = .ok (.iconst 0, 1) := by decide +kernel
theorem dX3_make_22 : decode cX3_make 22 = .ok (.putfield 31, 3) := by decide +kernel
theorem dX3_make_25 : decode cX3_make 25 = .ok (.iconst 0, 1) := by decide +kernel
theorem dX3_make_26 : decode cX3_make 26 = .ok (.istore 4, 2) := by decide +kernel
theorem dX3_make_28 : decode cX3_make 28 = .ok (.iload 4, 2) := by decide +kernel
theorem dX3_make_30 : decode cX3_make 30 = .ok (.bipush 6, 2) := by decide +kernel
theorem dX3_make_32 : decode cX3_make 32 = .ok (.if_icmp .ge 17, 3) := by decide +kernel
theorem dX3_make_35 : decode cX3_make 35 = .ok (.aload_n 0, 1) := by decide +kernel
theorem dX3_make_36 : decode cX3_make 36 = .ok (.getfield 15, 3) := by decide +kernel
theorem dX3_make_39 : decode cX3_make 39 = .ok (.iload 4, 2) := by decide +kernel
theorem dX3_make_41 : decode cX3_make 41 = .ok (.iconst 0, 1) := by decide +kernel
theorem dX3_make_42 : decode cX3_make 42 = .ok (.iastore, 1) := by decide +kernel
theorem dX3_make_43 : decode cX3_make 43 = .ok (.iinc 4 1, 3) := by decide +kernel
theorem dX3_make_46 : decode cX3_make 46 = .ok (.goto (-18), 3) := by decide +kernel
theorem dX3_make_49 : decode cX3_make 49 = .ok (.aload_n 0, 1) := by decide +kernel
theorem dX3_make_50 : decode cX3_make 50 = .ok (.aload_n 0, 1) := by decide +kernel
theorem dX3_make_51 : decode cX3_make 51 = .ok (.iload_n 2, 1) := by decide +kernel
theorem dX3_make_52 : decode cX3_make 52 = .ok (.iload_n 3, 1) := by decide +kernel
theorem dX3_make_53 : decode cX3_make 53 = .ok (.iconst 0, 1) := by decide +kernel
theorem dX3_make_54 : decode cX3_make 54 = .ok (.invokevirtual 39, 3) := by decide +kernel
theorem dX3_make_57 : decode cX3_make 57 = .ok (.putfield 28, 3) := by decide +kernel
theorem dX3_make_60 : decode cX3_make 60 = .ok (.return_, 1) := by decide +kernel
theorem dX3_isFull_0 : decode cX3_isFull 0 = .ok (.aload_n 0, 1) := by decide +kernel
theorem dX3_isFull_1 : decode cX3_isFull 1 = .ok (.getfield 31, 3) := by decide +kernel
theorem dX3_isFull_4 : decode cX3_isFull 4 = .ok (.ireturn, 1) := by decide +kernel
theorem dX3_fails_0 : decode cX3_fails 0 = .ok (.aload_n 0, 1) := by decide +kernel
theorem dX3_fails_1 : decode cX3_fails 1 = .ok (.getfield 31, 3) := by decide +kernel
theorem dX3_fails_4 : decode cX3_fails 4 = .ok (.ifCond .ne 14, 3) := by decide +kernel
theorem dX3_fails_7 : decode cX3_fails 7 = .ok (.aload_n 0, 1) := by decide +kernel
theorem dX3_fails_8 : decode cX3_fails 8 = .ok (.getfield 25, 3) := by decide +kernel
theorem dX3_fails_11 : decode cX3_fails 11 = .ok (.ifCond .eq 7, 3) := by decide +kernel
theorem dX3_fails_14 : decode cX3_fails 14 = .ok (.iconst 1, 1) := by decide +kernel
theorem dX3_fails_15 : decode cX3_fails 15 = .ok (.goto 4, 3) := by decide +kernel
theorem dX3_fails_18 : decode cX3_fails 18 = .ok (.iconst 0, 1) := by decide +kernel
theorem dX3_fails_19 : decode cX3_fails 19 = .ok (.ireturn, 1) := by decide +kernel
theorem dX3_size_0 : decode cX3_size 0 = .ok (.aload_n 0, 1) := by decide +kernel
theorem dX3_size_1 : decode cX3_size 1 = .ok (.getfield 18, 3) := by decide +kernel
theorem dX3_size_4 : decode cX3_size 4 = .ok (.ireturn, 1) := by decide +kernel
theorem dX3_calls_0 : decode cX3_calls 0 = .ok (.aload_n 0, 1) := by decide +kernel
theorem dX3_calls_1 : decode cX3_calls 1 = .ok (.getfield 22, 3) := by decide +kernel
theorem dX3_calls_4 : decode cX3_calls 4 = .ok (.ireturn, 1) := by decide +kernel
theorem dX3_failure_0 : decode cX3_failure 0 = .ok (.aload_n 0, 1) := by decide +kernel
theorem dX3_failure_1 : decode cX3_failure 1 = .ok (.getfield 25, 3) := by decide +kernel
theorem dX3_failure_4 : decode cX3_failure 4 = .ok (.ireturn, 1) := by decide +kernel
theorem dX3_returned_0 : decode cX3_returned 0 = .ok (.aload_n 0, 1) := by decide +kernel
theorem dX3_returned_1 : decode cX3_returned 1 = .ok (.getfield 25, 3) := by decide +kernel
theorem dX3_returned_4 : decode cX3_returned 4 = .ok (.ifCond .eq 8, 3) := by decide +kernel
theorem dX3_returned_7 : decode cX3_returned 7 = .ok (.ldc 43, 2) := by decide +kernel
theorem dX3_returned_9 : decode cX3_returned 9 = .ok (.goto 7, 3) := by decide +kernel
theorem dX3_returned_12 : decode cX3_returned 12 = .ok (.aload_n 0, 1) := by decide +kernel
theorem dX3_returned_13 : decode cX3_returned 13 = .ok (.getfield 28, 3) := by decide +kernel
theorem dX3_returned_16 : decode cX3_returned 16 = .ok (.ireturn, 1) := by decide +kernel
theorem dX3_number_0 : decode cX3_number 0 = .ok (.iload_n 1, 1) := by decide +kernel
theorem dX3_number_1 : decode cX3_number 1 = .ok (.ifCond .lt 20, 3) := by decide +kernel
theorem dX3_number_4 : decode cX3_number 4 = .ok (.iload_n 1, 1) := by decide +kernel
theorem dX3_number_5 : decode cX3_number 5 = .ok (.aload_n 0, 1) := by decide +kernel
theorem dX3_number_6 : decode cX3_number 6 = .ok (.getfield 18, 3) := by decide +kernel
theorem dX3_number_9 : decode cX3_number 9 = .ok (.if_icmp .ge 12, 3) := by decide +kernel
theorem dX3_number_12 : decode cX3_number 12 = .ok (.aload_n 0, 1) := by decide +kernel
theorem dX3_number_13 : decode cX3_number 13 = .ok (.getfield 9, 3) := by decide +kernel
theorem dX3_number_16 : decode cX3_number 16 = .ok (.iload_n 1, 1) := by decide +kernel
theorem dX3_number_17 : decode cX3_number 17 = .ok (.iaload, 1) := by decide +kernel
theorem dX3_number_18 : decode cX3_number 18 = .ok (.goto 5, 3) := by decide +kernel
theorem dX3_number_21 : decode cX3_number 21 = .ok (.ldc 43, 2) := by decide +kernel
theorem dX3_number_23 : decode cX3_number 23 = .ok (.ireturn, 1) := by decide +kernel
theorem dX3_tests_0 : decode cX3_tests 0 = .ok (.iconst 0, 1) := by decide +kernel
theorem dX3_tests_1 : decode cX3_tests 1 = .ok (.istore_n 1, 1) := by decide +kernel
theorem dX3_tests_2 : decode cX3_tests 2 = .ok (.iconst 0, 1) := by decide +kernel
theorem dX3_tests_3 : decode cX3_tests 3 = .ok (.istore_n 2, 1) := by decide +kernel
theorem dX3_tests_4 : decode cX3_tests 4 = .ok (.iload_n 2, 1) := by decide +kernel
theorem dX3_tests_5 : decode cX3_tests 5 = .ok (.aload_n 0, 1) := by decide +kernel
theorem dX3_tests_6 : decode cX3_tests 6 = .ok (.getfield 35, 3) := by decide +kernel
theorem dX3_tests_9 : decode cX3_tests 9 = .ok (.invokevirtual 44, 3) := by decide +kernel
theorem dX3_tests_12 : decode cX3_tests 12 = .ok (.if_icmp .ge 27, 3) := by decide +kernel
theorem dX3_tests_15 : decode cX3_tests 15 = .ok (.iload_n 1, 1) := by decide +kernel
theorem dX3_tests_16 : decode cX3_tests 16 = .ok (.aload_n 0, 1) := by decide +kernel
theorem dX3_tests_17 : decode cX3_tests 17 = .ok (.getfield 15, 3) := by decide +kernel
theorem dX3_tests_20 : decode cX3_tests 20 = .ok (.iload_n 2, 1) := by decide +kernel
theorem dX3_tests_21 : decode cX3_tests 21 = .ok (.iaload, 1) := by decide +kernel
theorem dX3_tests_22 : decode cX3_tests 22 = .ok (.aload_n 0, 1) := by decide +kernel
theorem dX3_tests_23 : decode cX3_tests 23 = .ok (.getfield 35, 3) := by decide +kernel
theorem dX3_tests_26 : decode cX3_tests 26 = .ok (.iload_n 2, 1) := by decide +kernel
theorem dX3_tests_27 : decode cX3_tests 27 = .ok (.invokevirtual 50, 3) := by decide +kernel
theorem dX3_tests_30 : decode cX3_tests 30 = .ok (.imul, 1) := by decide +kernel
theorem dX3_tests_31 : decode cX3_tests 31 = .ok (.iadd, 1) := by decide +kernel
theorem dX3_tests_32 : decode cX3_tests 32 = .ok (.istore_n 1, 1) := by decide +kernel
theorem dX3_tests_33 : decode cX3_tests 33 = .ok (.iinc 2 1, 3) := by decide +kernel
theorem dX3_tests_36 : decode cX3_tests 36 = .ok (.goto (-32), 3) := by decide +kernel
theorem dX3_tests_39 : decode cX3_tests 39 = .ok (.iload_n 1, 1) := by decide +kernel
theorem dX3_tests_40 : decode cX3_tests 40 = .ok (.ireturn, 1) := by decide +kernel
theorem dX3_endsAs_0 : decode cX3_endsAs 0 = .ok (.aload_n 0, 1) := by decide +kernel
theorem dX3_endsAs_1 : decode cX3_endsAs 1 = .ok (.getfield 31, 3) := by decide +kernel
theorem dX3_endsAs_4 : decode cX3_endsAs 4 = .ok (.ifCond .ne 31, 3) := by decide +kernel
theorem dX3_endsAs_7 : decode cX3_endsAs 7 = .ok (.aload_n 0, 1) := by decide +kernel
theorem dX3_endsAs_8 : decode cX3_endsAs 8 = .ok (.getfield 18, 3) := by decide +kernel
theorem dX3_endsAs_11 : decode cX3_endsAs 11 = .ok (.iload_n 1, 1) := by decide +kernel
theorem dX3_endsAs_12 : decode cX3_endsAs 12 = .ok (.if_icmp .ne 23, 3) := by decide +kernel
theorem dX3_endsAs_15 : decode cX3_endsAs 15 = .ok (.aload_n 0, 1) := by decide +kernel
theorem dX3_endsAs_16 : decode cX3_endsAs 16 = .ok (.getfield 25, 3) := by decide +kernel
theorem dX3_endsAs_19 : decode cX3_endsAs 19 = .ok (.iload_n 2, 1) := by decide +kernel
theorem dX3_endsAs_20 : decode cX3_endsAs 20 = .ok (.if_icmp .ne 15, 3) := by decide +kernel
theorem dX3_endsAs_23 : decode cX3_endsAs 23 = .ok (.aload_n 0, 1) := by decide +kernel
theorem dX3_endsAs_24 : decode cX3_endsAs 24 = .ok (.invokevirtual 54, 3) := by decide +kernel
theorem dX3_endsAs_27 : decode cX3_endsAs 27 = .ok (.iload_n 3, 1) := by decide +kernel
theorem dX3_endsAs_28 : decode cX3_endsAs 28 = .ok (.if_icmp .ne 7, 3) := by decide +kernel
theorem dX3_endsAs_31 : decode cX3_endsAs 31 = .ok (.iconst 1, 1) := by decide +kernel
theorem dX3_endsAs_32 : decode cX3_endsAs 32 = .ok (.goto 4, 3) := by decide +kernel
theorem dX3_endsAs_35 : decode cX3_endsAs 35 = .ok (.iconst 0, 1) := by decide +kernel
theorem dX3_endsAs_36 : decode cX3_endsAs 36 = .ok (.ireturn, 1) := by decide +kernel
theorem dX3_beginsWith_0 : decode cX3_beginsWith 0 = .ok (.aload_n 0, 1) := by decide +kernel
theorem dX3_beginsWith_1 : decode cX3_beginsWith 1 = .ok (.getfield 31, 3) := by decide +kernel
theorem dX3_beginsWith_4 : decode cX3_beginsWith 4 = .ok (.ifCond .ne 14, 3) := by decide +kernel
theorem dX3_beginsWith_7 : decode cX3_beginsWith 7 = .ok (.aload_n 0, 1) := by decide +kernel
theorem dX3_beginsWith_8 : decode cX3_beginsWith 8 = .ok (.getfield 18, 3) := by decide +kernel
theorem dX3_beginsWith_11 : decode cX3_beginsWith 11 = .ok (.aload_n 1, 1) := by decide +kernel
theorem dX3_beginsWith_12 : decode cX3_beginsWith 12 = .ok (.invokevirtual 56, 3) := by decide +kernel
theorem dX3_beginsWith_15 : decode cX3_beginsWith 15 = .ok (.if_icmp .ge 5, 3) := by decide +kernel
theorem dX3_beginsWith_18 : decode cX3_beginsWith 18 = .ok (.iconst 0, 1) := by decide +kernel
theorem dX3_beginsWith_19 : decode cX3_beginsWith 19 = .ok (.ireturn, 1) := by decide +kernel
theorem dX3_beginsWith_20 : decode cX3_beginsWith 20 = .ok (.iconst 0, 1) := by decide +kernel
theorem dX3_beginsWith_21 : decode cX3_beginsWith 21 = .ok (.istore_n 2, 1) := by decide +kernel
theorem dX3_beginsWith_22 : decode cX3_beginsWith 22 = .ok (.iload_n 2, 1) := by decide +kernel
theorem dX3_beginsWith_23 : decode cX3_beginsWith 23 = .ok (.aload_n 1, 1) := by decide +kernel
theorem dX3_beginsWith_24 : decode cX3_beginsWith 24 = .ok (.invokevirtual 56, 3) := by decide +kernel
theorem dX3_beginsWith_27 : decode cX3_beginsWith 27 = .ok (.if_icmp .ge 25, 3) := by decide +kernel
theorem dX3_beginsWith_30 : decode cX3_beginsWith 30 = .ok (.aload_n 0, 1) := by decide +kernel
theorem dX3_beginsWith_31 : decode cX3_beginsWith 31 = .ok (.getfield 9, 3) := by decide +kernel
theorem dX3_beginsWith_34 : decode cX3_beginsWith 34 = .ok (.iload_n 2, 1) := by decide +kernel
theorem dX3_beginsWith_35 : decode cX3_beginsWith 35 = .ok (.iaload, 1) := by decide +kernel
theorem dX3_beginsWith_36 : decode cX3_beginsWith 36 = .ok (.aload_n 1, 1) := by decide +kernel
theorem dX3_beginsWith_37 : decode cX3_beginsWith 37 = .ok (.iload_n 2, 1) := by decide +kernel
theorem dX3_beginsWith_38 : decode cX3_beginsWith 38 = .ok (.invokevirtual 60, 3) := by decide +kernel
theorem dX3_beginsWith_41 : decode cX3_beginsWith 41 = .ok (.if_icmp .eq 5, 3) := by decide +kernel
theorem dX3_beginsWith_44 : decode cX3_beginsWith 44 = .ok (.iconst 0, 1) := by decide +kernel
theorem dX3_beginsWith_45 : decode cX3_beginsWith 45 = .ok (.ireturn, 1) := by decide +kernel
theorem dX3_beginsWith_46 : decode cX3_beginsWith 46 = .ok (.iinc 2 1, 3) := by decide +kernel
theorem dX3_beginsWith_49 : decode cX3_beginsWith 49 = .ok (.goto (-27), 3) := by decide +kernel
theorem dX3_beginsWith_52 : decode cX3_beginsWith 52 = .ok (.iconst 1, 1) := by decide +kernel
theorem dX3_beginsWith_53 : decode cX3_beginsWith 53 = .ok (.ireturn, 1) := by decide +kernel
theorem dX3_isStopped_0 : decode cX3_isStopped 0 = .ok (.aload_n 0, 1) := by decide +kernel
theorem dX3_isStopped_1 : decode cX3_isStopped 1 = .ok (.getfield 31, 3) := by decide +kernel
theorem dX3_isStopped_4 : decode cX3_isStopped 4 = .ok (.ifCond .ne 10, 3) := by decide +kernel
theorem dX3_isStopped_7 : decode cX3_isStopped 7 = .ok (.aload_n 0, 1) := by decide +kernel
theorem dX3_isStopped_8 : decode cX3_isStopped 8 = .ok (.getfield 25, 3) := by decide +kernel
theorem dX3_isStopped_11 : decode cX3_isStopped 11 = .ok (.ifCond .eq 7, 3) := by decide +kernel
theorem dX3_isStopped_14 : decode cX3_isStopped 14 = .ok (.iconst 1, 1) := by decide +kernel
theorem dX3_isStopped_15 : decode cX3_isStopped 15 = .ok (.goto 4, 3) := by decide +kernel
theorem dX3_isStopped_18 : decode cX3_isStopped 18 = .ok (.iconst 0, 1) := by decide +kernel
theorem dX3_isStopped_19 : decode cX3_isStopped 19 = .ok (.ireturn, 1) := by decide +kernel
theorem dX3_emit_0 : decode cX3_emit 0 = .ok (.aload_n 0, 1) := by decide +kernel
theorem dX3_emit_1 : decode cX3_emit 1 = .ok (.getfield 18, 3) := by decide +kernel
theorem dX3_emit_4 : decode cX3_emit 4 = .ok (.bipush 99, 2) := by decide +kernel
theorem dX3_emit_6 : decode cX3_emit 6 = .ok (.if_icmp .lt 8, 3) := by decide +kernel
theorem dX3_emit_9 : decode cX3_emit 9 = .ok (.aload_n 0, 1) := by decide +kernel
theorem dX3_emit_10 : decode cX3_emit 10 = .ok (.iconst 1, 1) := by decide +kernel
theorem dX3_emit_11 : decode cX3_emit 11 = .ok (.putfield 31, 3) := by decide +kernel
theorem dX3_emit_14 : decode cX3_emit 14 = .ok (.aload_n 0, 1) := by decide +kernel
theorem dX3_emit_15 : decode cX3_emit 15 = .ok (.getfield 31, 3) := by decide +kernel
theorem dX3_emit_18 : decode cX3_emit 18 = .ok (.ifCond .ne 23, 3) := by decide +kernel
theorem dX3_emit_21 : decode cX3_emit 21 = .ok (.aload_n 0, 1) := by decide +kernel
theorem dX3_emit_22 : decode cX3_emit 22 = .ok (.getfield 9, 3) := by decide +kernel
theorem dX3_emit_25 : decode cX3_emit 25 = .ok (.aload_n 0, 1) := by decide +kernel
theorem dX3_emit_26 : decode cX3_emit 26 = .ok (.getfield 18, 3) := by decide +kernel
theorem dX3_emit_29 : decode cX3_emit 29 = .ok (.iload_n 1, 1) := by decide +kernel
theorem dX3_emit_30 : decode cX3_emit 30 = .ok (.iastore, 1) := by decide +kernel
theorem dX3_emit_31 : decode cX3_emit 31 = .ok (.aload_n 0, 1) := by decide +kernel
theorem dX3_emit_32 : decode cX3_emit 32 = .ok (.dup, 1) := by decide +kernel
theorem dX3_emit_33 : decode cX3_emit 33 = .ok (.getfield 18, 3) := by decide +kernel
theorem dX3_emit_36 : decode cX3_emit 36 = .ok (.iconst 1, 1) := by decide +kernel
theorem dX3_emit_37 : decode cX3_emit 37 = .ok (.iadd, 1) := by decide +kernel
theorem dX3_emit_38 : decode cX3_emit 38 = .ok (.putfield 18, 3) := by decide +kernel
theorem dX3_emit_41 : decode cX3_emit 41 = .ok (.return_, 1) := by decide +kernel
theorem dX3_enter_0 : decode cX3_enter 0 = .ok (.aload_n 0, 1) := by decide +kernel
theorem dX3_enter_1 : decode cX3_enter 1 = .ok (.getfield 22, 3) := by decide +kernel
theorem dX3_enter_4 : decode cX3_enter 4 = .ok (.sipush 300, 3) := by decide +kernel
theorem dX3_enter_7 : decode cX3_enter 7 = .ok (.if_icmp .lt 10, 3) := by decide +kernel
theorem dX3_enter_10 : decode cX3_enter 10 = .ok (.aload_n 0, 1) := by decide +kernel
theorem dX3_enter_11 : decode cX3_enter 11 = .ok (.iconst 1, 1) := by decide +kernel
theorem dX3_enter_12 : decode cX3_enter 12 = .ok (.putfield 31, 3) := by decide +kernel
theorem dX3_enter_15 : decode cX3_enter 15 = .ok (.iconst 0, 1) := by decide +kernel
theorem dX3_enter_16 : decode cX3_enter 16 = .ok (.ireturn, 1) := by decide +kernel
theorem dX3_enter_17 : decode cX3_enter 17 = .ok (.aload_n 0, 1) := by decide +kernel
theorem dX3_enter_18 : decode cX3_enter 18 = .ok (.dup, 1) := by decide +kernel
theorem dX3_enter_19 : decode cX3_enter 19 = .ok (.getfield 22, 3) := by decide +kernel
theorem dX3_enter_22 : decode cX3_enter 22 = .ok (.iconst 1, 1) := by decide +kernel
theorem dX3_enter_23 : decode cX3_enter 23 = .ok (.iadd, 1) := by decide +kernel
theorem dX3_enter_24 : decode cX3_enter 24 = .ok (.putfield 22, 3) := by decide +kernel
theorem dX3_enter_27 : decode cX3_enter 27 = .ok (.aload_n 0, 1) := by decide +kernel
theorem dX3_enter_28 : decode cX3_enter 28 = .ok (.getfield 15, 3) := by decide +kernel
theorem dX3_enter_31 : decode cX3_enter 31 = .ok (.iload_n 1, 1) := by decide +kernel
theorem dX3_enter_32 : decode cX3_enter 32 = .ok (.dup2, 1) := by decide +kernel
theorem dX3_enter_33 : decode cX3_enter 33 = .ok (.iaload, 1) := by decide +kernel
theorem dX3_enter_34 : decode cX3_enter 34 = .ok (.iconst 1, 1) := by decide +kernel
theorem dX3_enter_35 : decode cX3_enter 35 = .ok (.iadd, 1) := by decide +kernel
theorem dX3_enter_36 : decode cX3_enter 36 = .ok (.iastore, 1) := by decide +kernel
theorem dX3_enter_37 : decode cX3_enter 37 = .ok (.iload_n 3, 1) := by decide +kernel
theorem dX3_enter_38 : decode cX3_enter 38 = .ok (.iconst 1, 1) := by decide +kernel
theorem dX3_enter_39 : decode cX3_enter 39 = .ok (.iload_n 1, 1) := by decide +kernel
theorem dX3_enter_40 : decode cX3_enter 40 = .ok (.ishl, 1) := by decide +kernel
theorem dX3_enter_41 : decode cX3_enter 41 = .ok (.ior, 1) := by decide +kernel
theorem dX3_enter_42 : decode cX3_enter 42 = .ok (.istore 4, 2) := by decide +kernel
theorem dX3_enter_44 : decode cX3_enter 44 = .ok (.aload_n 0, 1) := by decide +kernel
theorem dX3_enter_45 : decode cX3_enter 45 = .ok (.iload_n 1, 1) := by decide +kernel
theorem dX3_enter_46 : decode cX3_enter 46 = .ok (.iload_n 2, 1) := by decide +kernel
theorem dX3_enter_47 : decode cX3_enter 47 = .ok (.iload 4, 2) := by decide +kernel
theorem dX3_enter_49 : decode cX3_enter 49 = .ok (.aload_n 0, 1) := by decide +kernel
theorem dX3_enter_50 : decode cX3_enter 50 = .ok (.getfield 35, 3) := by decide +kernel
theorem dX3_enter_53 : decode cX3_enter 53 = .ok (.iload_n 1, 1) := by decide +kernel
theorem dX3_enter_54 : decode cX3_enter 54 = .ok (.iload_n 2, 1) := by decide +kernel
theorem dX3_enter_55 : decode cX3_enter 55 = .ok (.iload 4, 2) := by decide +kernel
theorem dX3_enter_57 : decode cX3_enter 57 = .ok (.invokevirtual 63, 3) := by decide +kernel
theorem dX3_enter_60 : decode cX3_enter 60 = .ok (.iconst 0, 1) := by decide +kernel
theorem dX3_enter_61 : decode cX3_enter 61 = .ok (.invokevirtual 66, 3) := by decide +kernel
theorem dX3_enter_64 : decode cX3_enter 64 = .ok (.ireturn, 1) := by decide +kernel
theorem dX3_goOn_0 : decode cX3_goOn 0 = .ok (.aload_n 0, 1) := by decide +kernel
theorem dX3_goOn_1 : decode cX3_goOn 1 = .ok (.invokevirtual 70, 3) := by decide +kernel
theorem dX3_goOn_4 : decode cX3_goOn 4 = .ok (.ifCond .eq 5, 3) := by decide +kernel
theorem dX3_goOn_7 : decode cX3_goOn 7 = .ok (.iconst 0, 1) := by decide +kernel
theorem dX3_goOn_8 : decode cX3_goOn 8 = .ok (.ireturn, 1) := by decide +kernel
theorem dX3_goOn_9 : decode cX3_goOn 9 = .ok (.iload 5, 2) := by decide +kernel
theorem dX3_goOn_11 : decode cX3_goOn 11 = .ok (.istore 6, 2) := by decide +kernel
theorem dX3_goOn_13 : decode cX3_goOn 13 = .ok (.iload 6, 2) := by decide +kernel
theorem dX3_goOn_15 : decode cX3_goOn 15 = .ok (.iconst 5, 1) := by decide +kernel
theorem dX3_goOn_16 : decode cX3_goOn 16 = .ok (.if_icmp .ge 19, 3) := by decide +kernel
theorem dX3_goOn_19 : decode cX3_goOn 19 = .ok (.iload 4, 2) := by decide +kernel
theorem dX3_goOn_21 : decode cX3_goOn 21 = .ok (.iload 6, 2) := by decide +kernel
theorem dX3_goOn_23 : decode cX3_goOn 23 = .ok (.invokestatic 74, 3) := by decide +kernel
theorem dX3_goOn_26 : decode cX3_goOn 26 = .ok (.ifCond .ne 9, 3) := by decide +kernel
theorem dX3_goOn_29 : decode cX3_goOn 29 = .ok (.iinc 6 1, 3) := by decide +kernel
theorem dX3_goOn_32 : decode cX3_goOn 32 = .ok (.goto (-19), 3) := by decide +kernel
theorem dX3_goOn_35 : decode cX3_goOn 35 = .ok (.iload 6, 2) := by decide +kernel
theorem dX3_goOn_37 : decode cX3_goOn 37 = .ok (.iconst 5, 1) := by decide +kernel
theorem dX3_goOn_38 : decode cX3_goOn 38 = .ok (.if_icmp .lt 11, 3) := by decide +kernel
theorem dX3_goOn_41 : decode cX3_goOn 41 = .ok (.aload_n 0, 1) := by decide +kernel
theorem dX3_goOn_42 : decode cX3_goOn 42 = .ok (.iload_n 1, 1) := by decide +kernel
theorem dX3_goOn_43 : decode cX3_goOn 43 = .ok (.iload_n 2, 1) := by decide +kernel
theorem dX3_goOn_44 : decode cX3_goOn 44 = .ok (.iload_n 3, 1) := by decide +kernel
theorem dX3_goOn_45 : decode cX3_goOn 45 = .ok (.invokevirtual 78, 3) := by decide +kernel
theorem dX3_goOn_48 : decode cX3_goOn 48 = .ok (.ireturn, 1) := by decide +kernel
theorem dX3_goOn_49 : decode cX3_goOn 49 = .ok (.aload_n 0, 1) := by decide +kernel
theorem dX3_goOn_50 : decode cX3_goOn 50 = .ok (.getfield 35, 3) := by decide +kernel
theorem dX3_goOn_53 : decode cX3_goOn 53 = .ok (.iload 6, 2) := by decide +kernel
theorem dX3_goOn_55 : decode cX3_goOn 55 = .ok (.iconst 0, 1) := by decide +kernel
theorem dX3_goOn_56 : decode cX3_goOn 56 = .ok (.invokevirtual 81, 3) := by decide +kernel
theorem dX3_goOn_59 : decode cX3_goOn 59 = .ok (.istore 7, 2) := by decide +kernel
theorem dX3_goOn_61 : decode cX3_goOn 61 = .ok (.aload_n 0, 1) := by decide +kernel
theorem dX3_goOn_62 : decode cX3_goOn 62 = .ok (.getfield 35, 3) := by decide +kernel
theorem dX3_goOn_65 : decode cX3_goOn 65 = .ok (.iload 6, 2) := by decide +kernel
theorem dX3_goOn_67 : decode cX3_goOn 67 = .ok (.iconst 5, 1) := by decide +kernel
theorem dX3_goOn_68 : decode cX3_goOn 68 = .ok (.invokevirtual 81, 3) := by decide +kernel
theorem dX3_goOn_71 : decode cX3_goOn 71 = .ok (.istore 8, 2) := by decide +kernel
theorem dX3_goOn_73 : decode cX3_goOn 73 = .ok (.iload 8, 2) := by decide +kernel
theorem dX3_goOn_75 : decode cX3_goOn 75 = .ok (.iconst 4, 1) := by decide +kernel
theorem dX3_goOn_76 : decode cX3_goOn 76 = .ok (.if_icmp .ne 15, 3) := by decide +kernel
theorem dX3_goOn_79 : decode cX3_goOn 79 = .ok (.aload_n 0, 1) := by decide +kernel
theorem dX3_goOn_80 : decode cX3_goOn 80 = .ok (.iload_n 1, 1) := by decide +kernel
theorem dX3_goOn_81 : decode cX3_goOn 81 = .ok (.iload_n 2, 1) := by decide +kernel
theorem dX3_goOn_82 : decode cX3_goOn 82 = .ok (.iload_n 3, 1) := by decide +kernel
theorem dX3_goOn_83 : decode cX3_goOn 83 = .ok (.iload 4, 2) := by decide +kernel
theorem dX3_goOn_85 : decode cX3_goOn 85 = .ok (.iload 6, 2) := by decide +kernel
theorem dX3_goOn_87 : decode cX3_goOn 87 = .ok (.invokevirtual 85, 3) := by decide +kernel
theorem dX3_goOn_90 : decode cX3_goOn 90 = .ok (.ireturn, 1) := by decide +kernel
theorem dX3_goOn_91 : decode cX3_goOn 91 = .ok (.iload 8, 2) := by decide +kernel
theorem dX3_goOn_93 : decode cX3_goOn 93 = .ok (.iconst 5, 1) := by decide +kernel
theorem dX3_goOn_94 : decode cX3_goOn 94 = .ok (.if_icmp .ne 23, 3) := by decide +kernel
theorem dX3_goOn_97 : decode cX3_goOn 97 = .ok (.aload_n 0, 1) := by decide +kernel
theorem dX3_goOn_98 : decode cX3_goOn 98 = .ok (.iload 7, 2) := by decide +kernel
theorem dX3_goOn_100 : decode cX3_goOn 100 = .ok (.invokevirtual 88, 3) := by decide +kernel
theorem dX3_goOn_103 : decode cX3_goOn 103 = .ok (.aload_n 0, 1) := by decide +kernel
theorem dX3_goOn_104 : decode cX3_goOn 104 = .ok (.iload_n 1, 1) := by decide +kernel
theorem dX3_goOn_105 : decode cX3_goOn 105 = .ok (.iload_n 2, 1) := by decide +kernel
theorem dX3_goOn_106 : decode cX3_goOn 106 = .ok (.iload_n 3, 1) := by decide +kernel
theorem dX3_goOn_107 : decode cX3_goOn 107 = .ok (.iload 4, 2) := by decide +kernel
theorem dX3_goOn_109 : decode cX3_goOn 109 = .ok (.iload 6, 2) := by decide +kernel
theorem dX3_goOn_111 : decode cX3_goOn 111 = .ok (.iconst 1, 1) := by decide +kernel
theorem dX3_goOn_112 : decode cX3_goOn 112 = .ok (.iadd, 1) := by decide +kernel
theorem dX3_goOn_113 : decode cX3_goOn 113 = .ok (.invokevirtual 66, 3) := by decide +kernel
theorem dX3_goOn_116 : decode cX3_goOn 116 = .ok (.ireturn, 1) := by decide +kernel
theorem dX3_goOn_117 : decode cX3_goOn 117 = .ok (.aload_n 0, 1) := by decide +kernel
theorem dX3_goOn_118 : decode cX3_goOn 118 = .ok (.iload_n 1, 1) := by decide +kernel
theorem dX3_goOn_119 : decode cX3_goOn 119 = .ok (.iload_n 2, 1) := by decide +kernel
theorem dX3_goOn_120 : decode cX3_goOn 120 = .ok (.iload_n 3, 1) := by decide +kernel
theorem dX3_goOn_121 : decode cX3_goOn 121 = .ok (.iload 4, 2) := by decide +kernel
theorem dX3_goOn_123 : decode cX3_goOn 123 = .ok (.iload 6, 2) := by decide +kernel
theorem dX3_goOn_125 : decode cX3_goOn 125 = .ok (.iconst 1, 1) := by decide +kernel
theorem dX3_goOn_126 : decode cX3_goOn 126 = .ok (.iadd, 1) := by decide +kernel
theorem dX3_goOn_127 : decode cX3_goOn 127 = .ok (.invokevirtual 66, 3) := by decide +kernel
theorem dX3_goOn_130 : decode cX3_goOn 130 = .ok (.istore 9, 2) := by decide +kernel
theorem dX3_goOn_132 : decode cX3_goOn 132 = .ok (.iload 8, 2) := by decide +kernel
theorem dX3_goOn_134 : decode cX3_goOn 134 = .ok (.iconst 1, 1) := by decide +kernel
theorem dX3_goOn_135 : decode cX3_goOn 135 = .ok (.if_icmp .eq 20, 3) := by decide +kernel
theorem dX3_goOn_138 : decode cX3_goOn 138 = .ok (.iload 8, 2) := by decide +kernel
theorem dX3_goOn_140 : decode cX3_goOn 140 = .ok (.aload_n 0, 1) := by decide +kernel
theorem dX3_goOn_141 : decode cX3_goOn 141 = .ok (.getfield 25, 3) := by decide +kernel
theorem dX3_goOn_144 : decode cX3_goOn 144 = .ok (.ifCond .ne 7, 3) := by decide +kernel
theorem dX3_goOn_147 : decode cX3_goOn 147 = .ok (.iconst 2, 1) := by decide +kernel
theorem dX3_goOn_148 : decode cX3_goOn 148 = .ok (.goto 4, 3) := by decide +kernel
theorem dX3_goOn_151 : decode cX3_goOn 151 = .ok (.iconst 3, 1) := by decide +kernel
theorem dX3_goOn_152 : decode cX3_goOn 152 = .ok (.if_icmp .ne 9, 3) := by decide +kernel
theorem dX3_goOn_155 : decode cX3_goOn 155 = .ok (.aload_n 0, 1) := by decide +kernel
theorem dX3_goOn_156 : decode cX3_goOn 156 = .ok (.iload 7, 2) := by decide +kernel
theorem dX3_goOn_158 : decode cX3_goOn 158 = .ok (.invokevirtual 88, 3) := by decide +kernel
theorem dX3_goOn_161 : decode cX3_goOn 161 = .ok (.iload 9, 2) := by decide +kernel
theorem dX3_goOn_163 : decode cX3_goOn 163 = .ok (.ireturn, 1) := by decide +kernel
theorem dX3_goAround_0 : decode cX3_goAround 0 = .ok (.aload_n 0, 1) := by decide +kernel
theorem dX3_goAround_1 : decode cX3_goAround 1 = .ok (.getfield 35, 3) := by decide +kernel
theorem dX3_goAround_4 : decode cX3_goAround 4 = .ok (.iload 5, 2) := by decide +kernel
theorem dX3_goAround_6 : decode cX3_goAround 6 = .ok (.iconst 0, 1) := by decide +kernel
theorem dX3_goAround_7 : decode cX3_goAround 7 = .ok (.invokevirtual 81, 3) := by decide +kernel
theorem dX3_goAround_10 : decode cX3_goAround 10 = .ok (.istore 6, 2) := by decide +kernel
theorem dX3_goAround_12 : decode cX3_goAround 12 = .ok (.iload 6, 2) := by decide +kernel
theorem dX3_goAround_14 : decode cX3_goAround 14 = .ok (.iconst 3, 1) := by decide +kernel
theorem dX3_goAround_15 : decode cX3_goAround 15 = .ok (.irem, 1) := by decide +kernel
theorem dX3_goAround_16 : decode cX3_goAround 16 = .ok (.istore 7, 2) := by decide +kernel
theorem dX3_goAround_18 : decode cX3_goAround 18 = .ok (.iload 6, 2) := by decide +kernel
theorem dX3_goAround_20 : decode cX3_goAround 20 = .ok (.istore 8, 2) := by decide +kernel
theorem dX3_goAround_22 : decode cX3_goAround 22 = .ok (.aload_n 0, 1) := by decide +kernel
theorem dX3_goAround_23 : decode cX3_goAround 23 = .ok (.iload 6, 2) := by decide +kernel
theorem dX3_goAround_25 : decode cX3_goAround 25 = .ok (.invokevirtual 88, 3) := by decide +kernel
theorem dX3_goAround_28 : decode cX3_goAround 28 = .ok (.iconst 0, 1) := by decide +kernel
theorem dX3_goAround_29 : decode cX3_goAround 29 = .ok (.istore 9, 2) := by decide +kernel
theorem dX3_goAround_31 : decode cX3_goAround 31 = .ok (.iload 9, 2) := by decide +kernel
theorem dX3_goAround_33 : decode cX3_goAround 33 = .ok (.iload 7, 2) := by decide +kernel
theorem dX3_goAround_35 : decode cX3_goAround 35 = .ok (.if_icmp .ge 33, 3) := by decide +kernel
theorem dX3_goAround_38 : decode cX3_goAround 38 = .ok (.aload_n 0, 1) := by decide +kernel
theorem dX3_goAround_39 : decode cX3_goAround 39 = .ok (.invokevirtual 70, 3) := by decide +kernel
theorem dX3_goAround_42 : decode cX3_goAround 42 = .ok (.ifCond .ne 26, 3) := by decide +kernel
theorem dX3_goAround_45 : decode cX3_goAround 45 = .ok (.aload_n 0, 1) := by decide +kernel
theorem dX3_goAround_46 : decode cX3_goAround 46 = .ok (.iload_n 1, 1) := by decide +kernel
theorem dX3_goAround_47 : decode cX3_goAround 47 = .ok (.iload_n 2, 1) := by decide +kernel
theorem dX3_goAround_48 : decode cX3_goAround 48 = .ok (.iload_n 3, 1) := by decide +kernel
theorem dX3_goAround_49 : decode cX3_goAround 49 = .ok (.iload 4, 2) := by decide +kernel
theorem dX3_goAround_51 : decode cX3_goAround 51 = .ok (.iload 5, 2) := by decide +kernel
theorem dX3_goAround_53 : decode cX3_goAround 53 = .ok (.iconst 1, 1) := by decide +kernel
theorem dX3_goAround_54 : decode cX3_goAround 54 = .ok (.iadd, 1) := by decide +kernel
theorem dX3_goAround_55 : decode cX3_goAround 55 = .ok (.invokevirtual 66, 3) := by decide +kernel
theorem dX3_goAround_58 : decode cX3_goAround 58 = .ok (.iconst 1, 1) := by decide +kernel
theorem dX3_goAround_59 : decode cX3_goAround 59 = .ok (.iadd, 1) := by decide +kernel
theorem dX3_goAround_60 : decode cX3_goAround 60 = .ok (.istore 8, 2) := by decide +kernel
theorem dX3_goAround_62 : decode cX3_goAround 62 = .ok (.iinc 9 1, 3) := by decide +kernel
theorem dX3_goAround_65 : decode cX3_goAround 65 = .ok (.goto (-34), 3) := by decide +kernel
theorem dX3_goAround_68 : decode cX3_goAround 68 = .ok (.aload_n 0, 1) := by decide +kernel
theorem dX3_goAround_69 : decode cX3_goAround 69 = .ok (.invokevirtual 70, 3) := by decide +kernel
theorem dX3_goAround_72 : decode cX3_goAround 72 = .ok (.ifCond .ne 12, 3) := by decide +kernel
theorem dX3_goAround_75 : decode cX3_goAround 75 = .ok (.aload_n 0, 1) := by decide +kernel
theorem dX3_goAround_76 : decode cX3_goAround 76 = .ok (.iload 6, 2) := by decide +kernel
theorem dX3_goAround_78 : decode cX3_goAround 78 = .ok (.bipush 100, 2) := by decide +kernel
theorem dX3_goAround_80 : decode cX3_goAround 80 = .ok (.iadd, 1) := by decide +kernel
theorem dX3_goAround_81 : decode cX3_goAround 81 = .ok (.invokevirtual 88, 3) := by decide +kernel
theorem dX3_goAround_84 : decode cX3_goAround 84 = .ok (.iload 8, 2) := by decide +kernel
theorem dX3_goAround_86 : decode cX3_goAround 86 = .ok (.ireturn, 1) := by decide +kernel
theorem dX3_goThrough_0 : decode cX3_goThrough 0 = .ok (.iload_n 2, 1) := by decide +kernel
theorem dX3_goThrough_1 : decode cX3_goThrough 1 = .ok (.istore 4, 2) := by decide +kernel
theorem dX3_goThrough_3 : decode cX3_goThrough 3 = .ok (.iconst 0, 1) := by decide +kernel
theorem dX3_goThrough_4 : decode cX3_goThrough 4 = .ok (.istore 5, 2) := by decide +kernel
theorem dX3_goThrough_6 : decode cX3_goThrough 6 = .ok (.iload 5, 2) := by decide +kernel
theorem dX3_goThrough_8 : decode cX3_goThrough 8 = .ok (.aload_n 0, 1) := by decide +kernel
theorem dX3_goThrough_9 : decode cX3_goThrough 9 = .ok (.getfield 35, 3) := by decide +kernel
theorem dX3_goThrough_12 : decode cX3_goThrough 12 = .ok (.iload_n 1, 1) := by decide +kernel
theorem dX3_goThrough_13 : decode cX3_goThrough 13 = .ok (.invokevirtual 92, 3) := by decide +kernel
theorem dX3_goThrough_16 : decode cX3_goThrough 16 = .ok (.if_icmp .ge 107, 3) := by decide +kernel
theorem dX3_goThrough_19 : decode cX3_goThrough 19 = .ok (.aload_n 0, 1) := by decide +kernel
theorem dX3_goThrough_20 : decode cX3_goThrough 20 = .ok (.invokevirtual 70, 3) := by decide +kernel
theorem dX3_goThrough_23 : decode cX3_goThrough 23 = .ok (.ifCond .ne 100, 3) := by decide +kernel
theorem dX3_goThrough_26 : decode cX3_goThrough 26 = .ok (.aload_n 0, 1) := by decide +kernel
theorem dX3_goThrough_27 : decode cX3_goThrough 27 = .ok (.getfield 35, 3) := by decide +kernel
theorem dX3_goThrough_30 : decode cX3_goThrough 30 = .ok (.iload_n 1, 1) := by decide +kernel
theorem dX3_goThrough_31 : decode cX3_goThrough 31 = .ok (.iload 5, 2) := by decide +kernel
theorem dX3_goThrough_33 : decode cX3_goThrough 33 = .ok (.invokevirtual 95, 3) := by decide +kernel
theorem dX3_goThrough_36 : decode cX3_goThrough 36 = .ok (.istore 6, 2) := by decide +kernel
theorem dX3_goThrough_38 : decode cX3_goThrough 38 = .ok (.aload_n 0, 1) := by decide +kernel
theorem dX3_goThrough_39 : decode cX3_goThrough 39 = .ok (.getfield 35, 3) := by decide +kernel
theorem dX3_goThrough_42 : decode cX3_goThrough 42 = .ok (.iload_n 1, 1) := by decide +kernel
theorem dX3_goThrough_43 : decode cX3_goThrough 43 = .ok (.iload 5, 2) := by decide +kernel
theorem dX3_goThrough_45 : decode cX3_goThrough 45 = .ok (.invokevirtual 98, 3) := by decide +kernel
theorem dX3_goThrough_48 : decode cX3_goThrough 48 = .ok (.lookupswitch 63 #[(0, 28), (1, 37)], 28) := by decide +kernel
theorem dX3_goThrough_76 : decode cX3_goThrough 76 = .ok (.aload_n 0, 1) := by decide +kernel
theorem dX3_goThrough_77 : decode cX3_goThrough 77 = .ok (.iload 6, 2) := by decide +kernel
theorem dX3_goThrough_79 : decode cX3_goThrough 79 = .ok (.invokevirtual 88, 3) := by decide +kernel
theorem dX3_goThrough_82 : decode cX3_goThrough 82 = .ok (.goto 35, 3) := by decide +kernel
theorem dX3_goThrough_85 : decode cX3_goThrough 85 = .ok (.iload 4, 2) := by decide +kernel
theorem dX3_goThrough_87 : decode cX3_goThrough 87 = .ok (.iload_n 2, 1) := by decide +kernel
theorem dX3_goThrough_88 : decode cX3_goThrough 88 = .ok (.ifCond .le 16, 3) := by decide +kernel
theorem dX3_goThrough_91 : decode cX3_goThrough 91 = .ok (.aload_n 0, 1) := by decide +kernel
theorem dX3_goThrough_92 : decode cX3_goThrough 92 = .ok (.iload 6, 2) := by decide +kernel
theorem dX3_goThrough_94 : decode cX3_goThrough 94 = .ok (.iload_n 2, 1) := by decide +kernel
theorem dX3_goThrough_95 : decode cX3_goThrough 95 = .ok (.iconst 1, 1) := by decide +kernel
theorem dX3_goThrough_96 : decode cX3_goThrough 96 = .ok (.isub, 1) := by decide +kernel
theorem dX3_goThrough_97 : decode cX3_goThrough 97 = .ok (.iload_n 3, 1) := by decide +kernel
theorem dX3_goThrough_98 : decode cX3_goThrough 98 = .ok (.invokevirtual 39, 3) := by decide +kernel
theorem dX3_goThrough_101 : decode cX3_goThrough 101 = .ok (.goto 4, 3) := by decide +kernel
theorem dX3_goThrough_104 : decode cX3_goThrough 104 = .ok (.iconst 0, 1) := by decide +kernel
theorem dX3_goThrough_105 : decode cX3_goThrough 105 = .ok (.iadd, 1) := by decide +kernel
theorem dX3_goThrough_106 : decode cX3_goThrough 106 = .ok (.istore 4, 2) := by decide +kernel
theorem dX3_goThrough_108 : decode cX3_goThrough 108 = .ok (.goto 9, 3) := by decide +kernel
theorem dX3_goThrough_111 : decode cX3_goThrough 111 = .ok (.aload_n 0, 1) := by decide +kernel
theorem dX3_goThrough_112 : decode cX3_goThrough 112 = .ok (.iload 6, 2) := by decide +kernel
theorem dX3_goThrough_114 : decode cX3_goThrough 114 = .ok (.putfield 25, 3) := by decide +kernel
theorem dX3_goThrough_117 : decode cX3_goThrough 117 = .ok (.iinc 5 1, 3) := by decide +kernel
theorem dX3_goThrough_120 : decode cX3_goThrough 120 = .ok (.goto (-114), 3) := by decide +kernel
theorem dX3_goThrough_123 : decode cX3_goThrough 123 = .ok (.iload 4, 2) := by decide +kernel
theorem dX3_goThrough_125 : decode cX3_goThrough 125 = .ok (.ireturn, 1) := by decide +kernel
