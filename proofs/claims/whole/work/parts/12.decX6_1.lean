theorem dX6_image_10 : decode cX6_image 10 = .ok (.aload_n 0, 1) := by decide +kernel
theorem dX6_image_11 : decode cX6_image 11 = .ok (.getfield 25, 3) := by decide +kernel
theorem dX6_image_14 : decode cX6_image 14 = .ok (.invokevirtual 131, 3) := by decide +kernel
theorem dX6_image_17 : decode cX6_image 17 = .ok (.ifCond .ne 6, 3) := by decide +kernel
theorem dX6_image_20 : decode cX6_image 20 = .ok (.ldc 144, 2) := by decide +kernel
theorem dX6_image_22 : decode cX6_image 22 = .ok (.ireturn, 1) := by decide +kernel
theorem dX6_image_23 : decode cX6_image 23 = .ok (.aload_n 0, 1) := by decide +kernel
theorem dX6_image_24 : decode cX6_image 24 = .ok (.getfield 32, 3) := by decide +kernel
theorem dX6_image_27 : decode cX6_image 27 = .ok (.iload_n 1, 1) := by decide +kernel
theorem dX6_image_28 : decode cX6_image 28 = .ok (.aaload, 1) := by decide +kernel
theorem dX6_image_29 : decode cX6_image 29 = .ok (.aload_n 0, 1) := by decide +kernel
theorem dX6_image_30 : decode cX6_image 30 = .ok (.getfield 25, 3) := by decide +kernel
theorem dX6_image_33 : decode cX6_image 33 = .ok (.invokevirtual 126, 3) := by decide +kernel
theorem dX6_image_36 : decode cX6_image 36 = .ok (.iconst 1, 1) := by decide +kernel
theorem dX6_image_37 : decode cX6_image 37 = .ok (.ireturn, 1) := by decide +kernel
theorem dX6_restore_0 : decode cX6_restore 0 = .ok (.iload_n 1, 1) := by decide +kernel
theorem dX6_restore_1 : decode cX6_restore 1 = .ok (.invokestatic 258, 3) := by decide +kernel
theorem dX6_restore_4 : decode cX6_restore 4 = .ok (.ifCond .ne 6, 3) := by decide +kernel
theorem dX6_restore_7 : decode cX6_restore 7 = .ok (.ldc 75, 2) := by decide +kernel
theorem dX6_restore_9 : decode cX6_restore 9 = .ok (.ireturn, 1) := by decide +kernel
theorem dX6_restore_10 : decode cX6_restore 10 = .ok (.aload_n 0, 1) := by decide +kernel
theorem dX6_restore_11 : decode cX6_restore 11 = .ok (.getfield 32, 3) := by decide +kernel
theorem dX6_restore_14 : decode cX6_restore 14 = .ok (.iload_n 1, 1) := by decide +kernel
theorem dX6_restore_15 : decode cX6_restore 15 = .ok (.aaload, 1) := by decide +kernel
theorem dX6_restore_16 : decode cX6_restore 16 = .ok (.invokevirtual 131, 3) := by decide +kernel
theorem dX6_restore_19 : decode cX6_restore 19 = .ok (.ifCond .ne 6, 3) := by decide +kernel
theorem dX6_restore_22 : decode cX6_restore 22 = .ok (.ldc 144, 2) := by decide +kernel
theorem dX6_restore_24 : decode cX6_restore 24 = .ok (.ireturn, 1) := by decide +kernel
theorem dX6_restore_25 : decode cX6_restore 25 = .ok (.aload_n 0, 1) := by decide +kernel
theorem dX6_restore_26 : decode cX6_restore 26 = .ok (.getfield 25, 3) := by decide +kernel
theorem dX6_restore_29 : decode cX6_restore 29 = .ok (.aload_n 0, 1) := by decide +kernel
theorem dX6_restore_30 : decode cX6_restore 30 = .ok (.getfield 32, 3) := by decide +kernel
theorem dX6_restore_33 : decode cX6_restore 33 = .ok (.iload_n 1, 1) := by decide +kernel
theorem dX6_restore_34 : decode cX6_restore 34 = .ok (.aaload, 1) := by decide +kernel
theorem dX6_restore_35 : decode cX6_restore 35 = .ok (.invokevirtual 126, 3) := by decide +kernel
theorem dX6_restore_38 : decode cX6_restore 38 = .ok (.aload_n 0, 1) := by decide +kernel
theorem dX6_restore_39 : decode cX6_restore 39 = .ok (.getfield 39, 3) := by decide +kernel
theorem dX6_restore_42 : decode cX6_restore 42 = .ok (.invokevirtual 128, 3) := by decide +kernel
theorem dX6_restore_45 : decode cX6_restore 45 = .ok (.iconst 1, 1) := by decide +kernel
theorem dX6_restore_46 : decode cX6_restore 46 = .ok (.ireturn, 1) := by decide +kernel
theorem dX6_kind_0 : decode cX6_kind 0 = .ok (.aload_n 0, 1) := by decide +kernel
theorem dX6_kind_1 : decode cX6_kind 1 = .ok (.iload_n 1, 1) := by decide +kernel
theorem dX6_kind_2 : decode cX6_kind 2 = .ok (.invokevirtual 134, 3) := by decide +kernel
theorem dX6_kind_5 : decode cX6_kind 5 = .ok (.ifCond .eq 15, 3) := by decide +kernel
theorem dX6_kind_8 : decode cX6_kind 8 = .ok (.aload_n 0, 1) := by decide +kernel
theorem dX6_kind_9 : decode cX6_kind 9 = .ok (.getfield 25, 3) := by decide +kernel
theorem dX6_kind_12 : decode cX6_kind 12 = .ok (.iload_n 1, 1) := by decide +kernel
theorem dX6_kind_13 : decode cX6_kind 13 = .ok (.iconst 5, 1) := by decide +kernel
theorem dX6_kind_14 : decode cX6_kind 14 = .ok (.invokevirtual 141, 3) := by decide +kernel
theorem dX6_kind_17 : decode cX6_kind 17 = .ok (.goto 5, 3) := by decide +kernel
theorem dX6_kind_20 : decode cX6_kind 20 = .ok (.ldc 75, 2) := by decide +kernel
theorem dX6_kind_22 : decode cX6_kind 22 = .ok (.ireturn, 1) := by decide +kernel
theorem dX6_as_0 : decode cX6_as 0 = .ok (.aload_n 0, 1) := by decide +kernel
theorem dX6_as_1 : decode cX6_as 1 = .ok (.iload_n 1, 1) := by decide +kernel
theorem dX6_as_2 : decode cX6_as 2 = .ok (.invokevirtual 134, 3) := by decide +kernel
theorem dX6_as_5 : decode cX6_as 5 = .ok (.ifCond .eq 12, 3) := by decide +kernel
theorem dX6_as_8 : decode cX6_as 8 = .ok (.iload_n 2, 1) := by decide +kernel
theorem dX6_as_9 : decode cX6_as 9 = .ok (.iconst 0, 1) := by decide +kernel
theorem dX6_as_10 : decode cX6_as 10 = .ok (.iconst 5, 1) := by decide +kernel
theorem dX6_as_11 : decode cX6_as 11 = .ok (.invokestatic 71, 3) := by decide +kernel
theorem dX6_as_14 : decode cX6_as 14 = .ok (.ifCond .ne 6, 3) := by decide +kernel
theorem dX6_as_17 : decode cX6_as 17 = .ok (.ldc 75, 2) := by decide +kernel
theorem dX6_as_19 : decode cX6_as 19 = .ok (.ireturn, 1) := by decide +kernel
theorem dX6_as_20 : decode cX6_as 20 = .ok (.getstatic 261, 3) := by decide +kernel
theorem dX6_as_23 : decode cX6_as 23 = .ok (.aload_n 0, 1) := by decide +kernel
theorem dX6_as_24 : decode cX6_as 24 = .ok (.getfield 25, 3) := by decide +kernel
theorem dX6_as_27 : decode cX6_as 27 = .ok (.iload_n 1, 1) := by decide +kernel
theorem dX6_as_28 : decode cX6_as 28 = .ok (.iconst 5, 1) := by decide +kernel
theorem dX6_as_29 : decode cX6_as 29 = .ok (.invokevirtual 141, 3) := by decide +kernel
theorem dX6_as_32 : decode cX6_as 32 = .ok (.iaload, 1) := by decide +kernel
theorem dX6_as_33 : decode cX6_as 33 = .ok (.istore_n 3, 1) := by decide +kernel
theorem dX6_as_34 : decode cX6_as 34 = .ok (.iload_n 3, 1) := by decide +kernel
theorem dX6_as_35 : decode cX6_as 35 = .ok (.iload_n 2, 1) := by decide +kernel
theorem dX6_as_36 : decode cX6_as 36 = .ok (.invokestatic 265, 3) := by decide +kernel
theorem dX6_as_39 : decode cX6_as 39 = .ok (.ifCond .eq 11, 3) := by decide +kernel
theorem dX6_as_42 : decode cX6_as 42 = .ok (.aload_n 0, 1) := by decide +kernel
theorem dX6_as_43 : decode cX6_as 43 = .ok (.iload_n 1, 1) := by decide +kernel
theorem dX6_as_44 : decode cX6_as 44 = .ok (.invokevirtual 84, 3) := by decide +kernel
theorem dX6_as_47 : decode cX6_as 47 = .ok (.goto 8, 3) := by decide +kernel
theorem dX6_as_50 : decode cX6_as 50 = .ok (.aload_n 0, 1) := by decide +kernel
theorem dX6_as_51 : decode cX6_as 51 = .ok (.iconst 3, 1) := by decide +kernel
theorem dX6_as_52 : decode cX6_as 52 = .ok (.invokevirtual 76, 3) := by decide +kernel
theorem dX6_as_55 : decode cX6_as 55 = .ok (.ireturn, 1) := by decide +kernel
theorem dX6_ask_0 : decode cX6_ask 0 = .ok (.aload_n 0, 1) := by decide +kernel
theorem dX6_ask_1 : decode cX6_ask 1 = .ok (.iload_n 1, 1) := by decide +kernel
theorem dX6_ask_2 : decode cX6_ask 2 = .ok (.invokevirtual 134, 3) := by decide +kernel
theorem dX6_ask_5 : decode cX6_ask 5 = .ok (.ifCond .eq 12, 3) := by decide +kernel
theorem dX6_ask_8 : decode cX6_ask 8 = .ok (.iload_n 2, 1) := by decide +kernel
theorem dX6_ask_9 : decode cX6_ask 9 = .ok (.iconst 0, 1) := by decide +kernel
theorem dX6_ask_10 : decode cX6_ask 10 = .ok (.iconst 1, 1) := by decide +kernel
theorem dX6_ask_11 : decode cX6_ask 11 = .ok (.invokestatic 71, 3) := by decide +kernel
theorem dX6_ask_14 : decode cX6_ask 14 = .ok (.ifCond .ne 6, 3) := by decide +kernel
theorem dX6_ask_17 : decode cX6_ask 17 = .ok (.ldc 75, 2) := by decide +kernel
theorem dX6_ask_19 : decode cX6_ask 19 = .ok (.ireturn, 1) := by decide +kernel
theorem dX6_ask_20 : decode cX6_ask 20 = .ok (.aload_n 0, 1) := by decide +kernel
theorem dX6_ask_21 : decode cX6_ask 21 = .ok (.getfield 55, 3) := by decide +kernel
theorem dX6_ask_24 : decode cX6_ask 24 = .ok (.iload_n 1, 1) := by decide +kernel
theorem dX6_ask_25 : decode cX6_ask 25 = .ok (.iload_n 2, 1) := by decide +kernel
theorem dX6_ask_26 : decode cX6_ask 26 = .ok (.invokevirtual 268, 3) := by decide +kernel
theorem dX6_ask_29 : decode cX6_ask 29 = .ok (.ireturn, 1) := by decide +kernel
theorem dX6_trace_0 : decode cX6_trace 0 = .ok (.aload_n 0, 1) := by decide +kernel
theorem dX6_trace_1 : decode cX6_trace 1 = .ok (.getfield 55, 3) := by decide +kernel
theorem dX6_trace_4 : decode cX6_trace 4 = .ok (.iload_n 1, 1) := by decide +kernel
theorem dX6_trace_5 : decode cX6_trace 5 = .ok (.invokevirtual 271, 3) := by decide +kernel
theorem dX6_trace_8 : decode cX6_trace 8 = .ok (.ireturn, 1) := by decide +kernel
theorem dX6_count_0 : decode cX6_count 0 = .ok (.iload_n 1, 1) := by decide +kernel
theorem dX6_count_1 : decode cX6_count 1 = .ok (.tableswitch 84 0 5 #[39, 44, 52, 60, 68, 76], 39) := by decide +kernel
theorem dX6_count_40 : decode cX6_count 40 = .ok (.aload_n 0, 1) := by decide +kernel
theorem dX6_count_41 : decode cX6_count 41 = .ok (.invokevirtual 274, 3) := by decide +kernel
theorem dX6_count_44 : decode cX6_count 44 = .ok (.ireturn, 1) := by decide +kernel
theorem dX6_count_45 : decode cX6_count 45 = .ok (.aload_n 0, 1) := by decide +kernel
theorem dX6_count_46 : decode cX6_count 46 = .ok (.getfield 25, 3) := by decide +kernel
theorem dX6_count_49 : decode cX6_count 49 = .ok (.invokevirtual 131, 3) := by decide +kernel
theorem dX6_count_52 : decode cX6_count 52 = .ok (.ireturn, 1) := by decide +kernel
theorem dX6_count_53 : decode cX6_count 53 = .ok (.aload_n 0, 1) := by decide +kernel
theorem dX6_count_54 : decode cX6_count 54 = .ok (.getfield 25, 3) := by decide +kernel
theorem dX6_count_57 : decode cX6_count 57 = .ok (.invokevirtual 229, 3) := by decide +kernel
theorem dX6_count_60 : decode cX6_count 60 = .ok (.ireturn, 1) := by decide +kernel
theorem dX6_count_61 : decode cX6_count 61 = .ok (.aload_n 0, 1) := by decide +kernel
theorem dX6_count_62 : decode cX6_count 62 = .ok (.getfield 25, 3) := by decide +kernel
theorem dX6_count_65 : decode cX6_count 65 = .ok (.invokevirtual 277, 3) := by decide +kernel
theorem dX6_count_68 : decode cX6_count 68 = .ok (.ireturn, 1) := by decide +kernel
theorem dX6_count_69 : decode cX6_count 69 = .ok (.aload_n 0, 1) := by decide +kernel
theorem dX6_count_70 : decode cX6_count 70 = .ok (.getfield 39, 3) := by decide +kernel
theorem dX6_count_73 : decode cX6_count 73 = .ok (.invokevirtual 187, 3) := by decide +kernel
theorem dX6_count_76 : decode cX6_count 76 = .ok (.ireturn, 1) := by decide +kernel
theorem dX6_count_77 : decode cX6_count 77 = .ok (.aload_n 0, 1) := by decide +kernel
theorem dX6_count_78 : decode cX6_count 78 = .ok (.getfield 18, 3) := by decide +kernel
theorem dX6_count_81 : decode cX6_count 81 = .ok (.invokevirtual 116, 3) := by decide +kernel
theorem dX6_count_84 : decode cX6_count 84 = .ok (.ireturn, 1) := by decide +kernel
theorem dX6_count_85 : decode cX6_count 85 = .ok (.ldc 75, 2) := by decide +kernel
theorem dX6_count_87 : decode cX6_count 87 = .ok (.ireturn, 1) := by decide +kernel
theorem dX6_status_0 : decode cX6_status 0 = .ok (.aload_n 0, 1) := by decide +kernel
theorem dX6_status_1 : decode cX6_status 1 = .ok (.getfield 63, 3) := by decide +kernel
theorem dX6_status_4 : decode cX6_status 4 = .ok (.ireturn, 1) := by decide +kernel
theorem dX6_isWithin_0 : decode cX6_isWithin 0 = .ok (.iload_n 0, 1) := by decide +kernel
theorem dX6_isWithin_1 : decode cX6_isWithin 1 = .ok (.iload_n 1, 1) := by decide +kernel
theorem dX6_isWithin_2 : decode cX6_isWithin 2 = .ok (.if_icmp .lt 12, 3) := by decide +kernel
theorem dX6_isWithin_5 : decode cX6_isWithin 5 = .ok (.iload_n 0, 1) := by decide +kernel
theorem dX6_isWithin_6 : decode cX6_isWithin 6 = .ok (.iload_n 2, 1) := by decide +kernel
theorem dX6_isWithin_7 : decode cX6_isWithin 7 = .ok (.if_icmp .gt 7, 3) := by decide +kernel
theorem dX6_isWithin_10 : decode cX6_isWithin 10 = .ok (.iconst 1, 1) := by decide +kernel
theorem dX6_isWithin_11 : decode cX6_isWithin 11 = .ok (.goto 4, 3) := by decide +kernel
theorem dX6_isWithin_14 : decode cX6_isWithin 14 = .ok (.iconst 0, 1) := by decide +kernel
theorem dX6_isWithin_15 : decode cX6_isWithin 15 = .ok (.ireturn, 1) := by decide +kernel
theorem dX6_hasBit_0 : decode cX6_hasBit 0 = .ok (.iload_n 0, 1) := by decide +kernel
theorem dX6_hasBit_1 : decode cX6_hasBit 1 = .ok (.iload_n 1, 1) := by decide +kernel
theorem dX6_hasBit_2 : decode cX6_hasBit 2 = .ok (.ishr, 1) := by decide +kernel
theorem dX6_hasBit_3 : decode cX6_hasBit 3 = .ok (.iconst 1, 1) := by decide +kernel
theorem dX6_hasBit_4 : decode cX6_hasBit 4 = .ok (.iand, 1) := by decide +kernel
theorem dX6_hasBit_5 : decode cX6_hasBit 5 = .ok (.ifCond .eq 7, 3) := by decide +kernel
theorem dX6_hasBit_8 : decode cX6_hasBit 8 = .ok (.iconst 1, 1) := by decide +kernel
theorem dX6_hasBit_9 : decode cX6_hasBit 9 = .ok (.goto 4, 3) := by decide +kernel
theorem dX6_hasBit_12 : decode cX6_hasBit 12 = .ok (.iconst 0, 1) := by decide +kernel
theorem dX6_hasBit_13 : decode cX6_hasBit 13 = .ok (.ireturn, 1) := by decide +kernel
theorem dX6_isRow_0 : decode cX6_isRow 0 = .ok (.iload_n 0, 1) := by decide +kernel
theorem dX6_isRow_1 : decode cX6_isRow 1 = .ok (.iconst 0, 1) := by decide +kernel
theorem dX6_isRow_2 : decode cX6_isRow 2 = .ok (.bipush 7, 2) := by decide +kernel
theorem dX6_isRow_4 : decode cX6_isRow 4 = .ok (.invokestatic 71, 3) := by decide +kernel
theorem dX6_isRow_7 : decode cX6_isRow 7 = .ok (.ireturn, 1) := by decide +kernel
theorem dX6_isArgument_0 : decode cX6_isArgument 0 = .ok (.iload_n 0, 1) := by decide +kernel
theorem dX6_isArgument_1 : decode cX6_isArgument 1 = .ok (.iconst 0, 1) := by decide +kernel
theorem dX6_isArgument_2 : decode cX6_isArgument 2 = .ok (.bipush 9, 2) := by decide +kernel
theorem dX6_isArgument_4 : decode cX6_isArgument 4 = .ok (.invokestatic 71, 3) := by decide +kernel
theorem dX6_isArgument_7 : decode cX6_isArgument 7 = .ok (.ireturn, 1) := by decide +kernel
theorem dX6_isImage_0 : decode cX6_isImage 0 = .ok (.iload_n 0, 1) := by decide +kernel
theorem dX6_isImage_1 : decode cX6_isImage 1 = .ok (.iconst 0, 1) := by decide +kernel
theorem dX6_isImage_2 : decode cX6_isImage 2 = .ok (.iconst 1, 1) := by decide +kernel
theorem dX6_isImage_3 : decode cX6_isImage 3 = .ok (.invokestatic 71, 3) := by decide +kernel
theorem dX6_isImage_6 : decode cX6_isImage 6 = .ok (.ireturn, 1) := by decide +kernel
theorem dX6_isMethod_0 : decode cX6_isMethod 0 = .ok (.iload_n 1, 1) := by decide +kernel
theorem dX6_isMethod_1 : decode cX6_isMethod 1 = .ok (.iconst 0, 1) := by decide +kernel
theorem dX6_isMethod_2 : decode cX6_isMethod 2 = .ok (.aload_n 0, 1) := by decide +kernel
theorem dX6_isMethod_3 : decode cX6_isMethod 3 = .ok (.getfield 25, 3) := by decide +kernel
theorem dX6_isMethod_6 : decode cX6_isMethod 6 = .ok (.invokevirtual 131, 3) := by decide +kernel
theorem dX6_isMethod_9 : decode cX6_isMethod 9 = .ok (.iconst 1, 1) := by decide +kernel
theorem dX6_isMethod_10 : decode cX6_isMethod 10 = .ok (.isub, 1) := by decide +kernel
theorem dX6_isMethod_11 : decode cX6_isMethod 11 = .ok (.invokestatic 71, 3) := by decide +kernel
theorem dX6_isMethod_14 : decode cX6_isMethod 14 = .ok (.ireturn, 1) := by decide +kernel
theorem dX6_isAdvice_0 : decode cX6_isAdvice 0 = .ok (.iload_n 1, 1) := by decide +kernel
theorem dX6_isAdvice_1 : decode cX6_isAdvice 1 = .ok (.iconst 0, 1) := by decide +kernel
theorem dX6_isAdvice_2 : decode cX6_isAdvice 2 = .ok (.aload_n 0, 1) := by decide +kernel
theorem dX6_isAdvice_3 : decode cX6_isAdvice 3 = .ok (.getfield 25, 3) := by decide +kernel
theorem dX6_isAdvice_6 : decode cX6_isAdvice 6 = .ok (.invokevirtual 229, 3) := by decide +kernel
theorem dX6_isAdvice_9 : decode cX6_isAdvice 9 = .ok (.iconst 1, 1) := by decide +kernel
theorem dX6_isAdvice_10 : decode cX6_isAdvice 10 = .ok (.isub, 1) := by decide +kernel
theorem dX6_isAdvice_11 : decode cX6_isAdvice 11 = .ok (.invokestatic 71, 3) := by decide +kernel
theorem dX6_isAdvice_14 : decode cX6_isAdvice 14 = .ok (.ireturn, 1) := by decide +kernel
theorem dX6_isStatement_0 : decode cX6_isStatement 0 = .ok (.iload_n 1, 1) := by decide +kernel
theorem dX6_isStatement_1 : decode cX6_isStatement 1 = .ok (.tableswitch 49 0 2 #[27, 35, 41], 27) := by decide +kernel
theorem dX6_isStatement_28 : decode cX6_isStatement 28 = .ok (.iload_n 2, 1) := by decide +kernel
theorem dX6_isStatement_29 : decode cX6_isStatement 29 = .ok (.iconst 1, 1) := by decide +kernel
theorem dX6_isStatement_30 : decode cX6_isStatement 30 = .ok (.bipush 99, 2) := by decide +kernel
theorem dX6_isStatement_32 : decode cX6_isStatement 32 = .ok (.invokestatic 71, 3) := by decide +kernel
theorem dX6_isStatement_35 : decode cX6_isStatement 35 = .ok (.ireturn, 1) := by decide +kernel
theorem dX6_isStatement_36 : decode cX6_isStatement 36 = .ok (.aload_n 0, 1) := by decide +kernel
theorem dX6_isStatement_37 : decode cX6_isStatement 37 = .ok (.iload_n 2, 1) := by decide +kernel
theorem dX6_isStatement_38 : decode cX6_isStatement 38 = .ok (.invokevirtual 156, 3) := by decide +kernel
theorem dX6_isStatement_41 : decode cX6_isStatement 41 = .ok (.ireturn, 1) := by decide +kernel
theorem dX6_isStatement_42 : decode cX6_isStatement 42 = .ok (.iload_n 2, 1) := by decide +kernel
theorem dX6_isStatement_43 : decode cX6_isStatement 43 = .ok (.iconst 1, 1) := by decide +kernel
theorem dX6_isStatement_44 : decode cX6_isStatement 44 = .ok (.bipush 9, 2) := by decide +kernel
theorem dX6_isStatement_46 : decode cX6_isStatement 46 = .ok (.invokestatic 71, 3) := by decide +kernel
theorem dX6_isStatement_49 : decode cX6_isStatement 49 = .ok (.ireturn, 1) := by decide +kernel
theorem dX6_isStatement_50 : decode cX6_isStatement 50 = .ok (.iconst 0, 1) := by decide +kernel
theorem dX6_isStatement_51 : decode cX6_isStatement 51 = .ok (.ireturn, 1) := by decide +kernel
theorem dX6_find_0 : decode cX6_find 0 = .ok (.aload_n 0, 1) := by decide +kernel
theorem dX6_find_1 : decode cX6_find 1 = .ok (.iload_n 1, 1) := by decide +kernel
theorem dX6_find_2 : decode cX6_find 2 = .ok (.putfield 63, 3) := by decide +kernel
theorem dX6_find_5 : decode cX6_find 5 = .ok (.ldc_w 280, 3) := by decide +kernel
theorem dX6_find_8 : decode cX6_find 8 = .ok (.iload_n 1, 1) := by decide +kernel
theorem dX6_find_9 : decode cX6_find 9 = .ok (.isub, 1) := by decide +kernel
theorem dX6_find_10 : decode cX6_find 10 = .ok (.ireturn, 1) := by decide +kernel
theorem dX6_findNothing_0 : decode cX6_findNothing 0 = .ok (.aload_n 0, 1) := by decide +kernel
theorem dX6_findNothing_1 : decode cX6_findNothing 1 = .ok (.iconst 0, 1) := by decide +kernel
theorem dX6_findNothing_2 : decode cX6_findNothing 2 = .ok (.putfield 63, 3) := by decide +kernel
theorem dX6_findNothing_5 : decode cX6_findNothing 5 = .ok (.iload_n 1, 1) := by decide +kernel
theorem dX6_findNothing_6 : decode cX6_findNothing 6 = .ok (.ireturn, 1) := by decide +kernel
theorem dX6_rowsThere_0 : decode cX6_rowsThere 0 = .ok (.iconst 0, 1) := by decide +kernel
theorem dX6_rowsThere_1 : decode cX6_rowsThere 1 = .ok (.istore_n 1, 1) := by decide +kernel
theorem dX6_rowsThere_2 : decode cX6_rowsThere 2 = .ok (.iconst 0, 1) := by decide +kernel
theorem dX6_rowsThere_3 : decode cX6_rowsThere 3 = .ok (.istore_n 2, 1) := by decide +kernel
theorem dX6_rowsThere_4 : decode cX6_rowsThere 4 = .ok (.iload_n 2, 1) := by decide +kernel
theorem dX6_rowsThere_5 : decode cX6_rowsThere 5 = .ok (.bipush 8, 2) := by decide +kernel
theorem dX6_rowsThere_7 : decode cX6_rowsThere 7 = .ok (.if_icmp .ge 29, 3) := by decide +kernel
theorem dX6_rowsThere_10 : decode cX6_rowsThere 10 = .ok (.iload_n 1, 1) := by decide +kernel
theorem dX6_rowsThere_11 : decode cX6_rowsThere 11 = .ok (.aload_n 0, 1) := by decide +kernel
theorem dX6_rowsThere_12 : decode cX6_rowsThere 12 = .ok (.getfield 11, 3) := by decide +kernel
theorem dX6_rowsThere_15 : decode cX6_rowsThere 15 = .ok (.iload_n 2, 1) := by decide +kernel
theorem dX6_rowsThere_16 : decode cX6_rowsThere 16 = .ok (.aaload, 1) := by decide +kernel
theorem dX6_rowsThere_17 : decode cX6_rowsThere 17 = .ok (.invokevirtual 87, 3) := by decide +kernel
theorem dX6_rowsThere_20 : decode cX6_rowsThere 20 = .ok (.ifCond .eq 7, 3) := by decide +kernel
theorem dX6_rowsThere_23 : decode cX6_rowsThere 23 = .ok (.iconst 0, 1) := by decide +kernel
theorem dX6_rowsThere_24 : decode cX6_rowsThere 24 = .ok (.goto 4, 3) := by decide +kernel
theorem dX6_rowsThere_27 : decode cX6_rowsThere 27 = .ok (.iconst 1, 1) := by decide +kernel
theorem dX6_rowsThere_28 : decode cX6_rowsThere 28 = .ok (.iadd, 1) := by decide +kernel
theorem dX6_rowsThere_29 : decode cX6_rowsThere 29 = .ok (.istore_n 1, 1) := by decide +kernel
theorem dX6_rowsThere_30 : decode cX6_rowsThere 30 = .ok (.iinc 2 1, 3) := by decide +kernel
theorem dX6_rowsThere_33 : decode cX6_rowsThere 33 = .ok (.goto (-29), 3) := by decide +kernel
theorem dX6_rowsThere_36 : decode cX6_rowsThere 36 = .ok (.iload_n 1, 1) := by decide +kernel
theorem dX6_rowsThere_37 : decode cX6_rowsThere 37 = .ok (.ireturn, 1) := by decide +kernel
theorem dX6_changeFact_0 : decode cX6_changeFact 0 = .ok (.aload_n 0, 1) := by decide +kernel
theorem dX6_changeFact_1 : decode cX6_changeFact 1 = .ok (.getfield 25, 3) := by decide +kernel
theorem dX6_changeFact_4 : decode cX6_changeFact 4 = .ok (.iload_n 1, 1) := by decide +kernel
theorem dX6_changeFact_5 : decode cX6_changeFact 5 = .ok (.iload_n 2, 1) := by decide +kernel
theorem dX6_changeFact_6 : decode cX6_changeFact 6 = .ok (.invokevirtual 141, 3) := by decide +kernel
theorem dX6_changeFact_9 : decode cX6_changeFact 9 = .ok (.istore 4, 2) := by decide +kernel
theorem dX6_changeFact_11 : decode cX6_changeFact 11 = .ok (.aload_n 0, 1) := by decide +kernel
theorem dX6_changeFact_12 : decode cX6_changeFact 12 = .ok (.getfield 39, 3) := by decide +kernel
theorem dX6_changeFact_15 : decode cX6_changeFact 15 = .ok (.iload_n 1, 1) := by decide +kernel
theorem dX6_changeFact_16 : decode cX6_changeFact 16 = .ok (.iload_n 2, 1) := by decide +kernel
theorem dX6_changeFact_17 : decode cX6_changeFact 17 = .ok (.iload 4, 2) := by decide +kernel
theorem dX6_changeFact_19 : decode cX6_changeFact 19 = .ok (.invokevirtual 281, 3) := by decide +kernel
theorem dX6_changeFact_22 : decode cX6_changeFact 22 = .ok (.aload_n 0, 1) := by decide +kernel
theorem dX6_changeFact_23 : decode cX6_changeFact 23 = .ok (.getfield 25, 3) := by decide +kernel
theorem dX6_changeFact_26 : decode cX6_changeFact 26 = .ok (.iload_n 1, 1) := by decide +kernel
theorem dX6_changeFact_27 : decode cX6_changeFact 27 = .ok (.iload_n 2, 1) := by decide +kernel
theorem dX6_changeFact_28 : decode cX6_changeFact 28 = .ok (.iload_n 3, 1) := by decide +kernel
theorem dX6_changeFact_29 : decode cX6_changeFact 29 = .ok (.invokevirtual 232, 3) := by decide +kernel
theorem dX6_changeFact_32 : decode cX6_changeFact 32 = .ok (.iload 4, 2) := by decide +kernel
theorem dX6_changeFact_34 : decode cX6_changeFact 34 = .ok (.ireturn, 1) := by decide +kernel
theorem dX6_statementOf_0 : decode cX6_statementOf 0 = .ok (.iload_n 2, 1) := by decide +kernel
theorem dX6_statementOf_1 : decode cX6_statementOf 1 = .ok (.bipush 10, 2) := by decide +kernel
theorem dX6_statementOf_3 : decode cX6_statementOf 3 = .ok (.bipush 13, 2) := by decide +kernel
theorem dX6_statementOf_5 : decode cX6_statementOf 5 = .ok (.invokestatic 71, 3) := by decide +kernel
theorem dX6_statementOf_8 : decode cX6_statementOf 8 = .ok (.istore_n 3, 1) := by decide +kernel
theorem dX6_statementOf_9 : decode cX6_statementOf 9 = .ok (.iload_n 3, 1) := by decide +kernel
theorem dX6_statementOf_10 : decode cX6_statementOf 10 = .ok (.ifCond .ne 17, 3) := by decide +kernel
theorem dX6_statementOf_13 : decode cX6_statementOf 13 = .ok (.iload_n 2, 1) := by decide +kernel
theorem dX6_statementOf_14 : decode cX6_statementOf 14 = .ok (.bipush 20, 2) := by decide +kernel
theorem dX6_statementOf_16 : decode cX6_statementOf 16 = .ok (.bipush 23, 2) := by decide +kernel
theorem dX6_statementOf_18 : decode cX6_statementOf 18 = .ok (.invokestatic 71, 3) := by decide +kernel
theorem dX6_statementOf_21 : decode cX6_statementOf 21 = .ok (.ifCond .ne 6, 3) := by decide +kernel
theorem dX6_statementOf_24 : decode cX6_statementOf 24 = .ok (.ldc 75, 2) := by decide +kernel
theorem dX6_statementOf_26 : decode cX6_statementOf 26 = .ok (.ireturn, 1) := by decide +kernel
theorem dX6_statementOf_27 : decode cX6_statementOf 27 = .ok (.iload_n 2, 1) := by decide +kernel
theorem dX6_statementOf_28 : decode cX6_statementOf 28 = .ok (.bipush 10, 2) := by decide +kernel
theorem dX6_statementOf_30 : decode cX6_statementOf 30 = .ok (.irem, 1) := by decide +kernel
theorem dX6_statementOf_31 : decode cX6_statementOf 31 = .ok (.istore 4, 2) := by decide +kernel
theorem dX6_statementOf_33 : decode cX6_statementOf 33 = .ok (.iload 4, 2) := by decide +kernel
theorem dX6_statementOf_35 : decode cX6_statementOf 35 = .ok (.aload_n 0, 1) := by decide +kernel
theorem dX6_statementOf_36 : decode cX6_statementOf 36 = .ok (.getfield 25, 3) := by decide +kernel
theorem dX6_statementOf_39 : decode cX6_statementOf 39 = .ok (.iload_n 1, 1) := by decide +kernel
theorem dX6_statementOf_40 : decode cX6_statementOf 40 = .ok (.invokevirtual 159, 3) := by decide +kernel
theorem dX6_statementOf_43 : decode cX6_statementOf 43 = .ok (.if_icmp .lt 6, 3) := by decide +kernel
theorem dX6_statementOf_46 : decode cX6_statementOf 46 = .ok (.ldc 228, 2) := by decide +kernel
theorem dX6_statementOf_48 : decode cX6_statementOf 48 = .ok (.ireturn, 1) := by decide +kernel
theorem dX6_statementOf_49 : decode cX6_statementOf 49 = .ok (.iload_n 3, 1) := by decide +kernel
theorem dX6_statementOf_50 : decode cX6_statementOf 50 = .ok (.ifCond .eq 16, 3) := by decide +kernel
theorem dX6_statementOf_53 : decode cX6_statementOf 53 = .ok (.aload_n 0, 1) := by decide +kernel
theorem dX6_statementOf_54 : decode cX6_statementOf 54 = .ok (.getfield 25, 3) := by decide +kernel
theorem dX6_statementOf_57 : decode cX6_statementOf 57 = .ok (.iload_n 1, 1) := by decide +kernel
theorem dX6_statementOf_58 : decode cX6_statementOf 58 = .ok (.iload 4, 2) := by decide +kernel
theorem dX6_statementOf_60 : decode cX6_statementOf 60 = .ok (.invokevirtual 165, 3) := by decide +kernel
theorem dX6_statementOf_63 : decode cX6_statementOf 63 = .ok (.goto 13, 3) := by decide +kernel
theorem dX6_statementOf_66 : decode cX6_statementOf 66 = .ok (.aload_n 0, 1) := by decide +kernel
theorem dX6_statementOf_67 : decode cX6_statementOf 67 = .ok (.getfield 25, 3) := by decide +kernel
theorem dX6_statementOf_70 : decode cX6_statementOf 70 = .ok (.iload_n 1, 1) := by decide +kernel
theorem dX6_statementOf_71 : decode cX6_statementOf 71 = .ok (.iload 4, 2) := by decide +kernel
theorem dX6_statementOf_73 : decode cX6_statementOf 73 = .ok (.invokevirtual 168, 3) := by decide +kernel
theorem dX6_statementOf_76 : decode cX6_statementOf 76 = .ok (.ireturn, 1) := by decide +kernel
theorem dX6_lastTried_0 : decode cX6_lastTried 0 = .ok (.iload_n 1, 1) := by decide +kernel
theorem dX6_lastTried_1 : decode cX6_lastTried 1 = .ok (.lookupswitch 32 #[(0, 27), (1, 29)], 27) := by decide +kernel
theorem dX6_lastTried_28 : decode cX6_lastTried 28 = .ok (.iconst 5, 1) := by decide +kernel
theorem dX6_lastTried_29 : decode cX6_lastTried 29 = .ok (.ireturn, 1) := by decide +kernel
theorem dX6_lastTried_30 : decode cX6_lastTried 30 = .ok (.bipush 10, 2) := by decide +kernel
theorem dX6_lastTried_32 : decode cX6_lastTried 32 = .ok (.ireturn, 1) := by decide +kernel
theorem dX6_lastTried_33 : decode cX6_lastTried 33 = .ok (.aload_n 0, 1) := by decide +kernel
theorem dX6_lastTried_34 : decode cX6_lastTried 34 = .ok (.getfield 25, 3) := by decide +kernel
theorem dX6_lastTried_37 : decode cX6_lastTried 37 = .ok (.invokevirtual 229, 3) := by decide +kernel
theorem dX6_lastTried_40 : decode cX6_lastTried 40 = .ok (.iconst 1, 1) := by decide +kernel
theorem dX6_lastTried_41 : decode cX6_lastTried 41 = .ok (.isub, 1) := by decide +kernel
theorem dX6_lastTried_42 : decode cX6_lastTried 42 = .ok (.ireturn, 1) := by decide +kernel
theorem dX6_tryWith_0 : decode cX6_tryWith 0 = .ok (.iload_n 2, 1) := by decide +kernel
theorem dX6_tryWith_1 : decode cX6_tryWith 1 = .ok (.lookupswitch 53 #[(0, 27), (1, 40)], 27) := by decide +kernel
theorem dX6_tryWith_28 : decode cX6_tryWith 28 = .ok (.aload_n 0, 1) := by decide +kernel
theorem dX6_tryWith_29 : decode cX6_tryWith 29 = .ok (.getfield 29, 3) := by decide +kernel
theorem dX6_tryWith_32 : decode cX6_tryWith 32 = .ok (.iload_n 1, 1) := by decide +kernel
theorem dX6_tryWith_33 : decode cX6_tryWith 33 = .ok (.iconst 5, 1) := by decide +kernel
theorem dX6_tryWith_34 : decode cX6_tryWith 34 = .ok (.iload_n 3, 1) := by decide +kernel
theorem dX6_tryWith_35 : decode cX6_tryWith 35 = .ok (.invokevirtual 232, 3) := by decide +kernel
theorem dX6_tryWith_38 : decode cX6_tryWith 38 = .ok (.goto 25, 3) := by decide +kernel
theorem dX6_tryWith_41 : decode cX6_tryWith 41 = .ok (.aload_n 0, 1) := by decide +kernel
theorem dX6_tryWith_42 : decode cX6_tryWith 42 = .ok (.getfield 29, 3) := by decide +kernel
theorem dX6_tryWith_45 : decode cX6_tryWith 45 = .ok (.iload_n 1, 1) := by decide +kernel
theorem dX6_tryWith_46 : decode cX6_tryWith 46 = .ok (.iconst 3, 1) := by decide +kernel
theorem dX6_tryWith_47 : decode cX6_tryWith 47 = .ok (.iload_n 3, 1) := by decide +kernel
theorem dX6_tryWith_48 : decode cX6_tryWith 48 = .ok (.invokevirtual 232, 3) := by decide +kernel
theorem dX6_tryWith_51 : decode cX6_tryWith 51 = .ok (.goto 12, 3) := by decide +kernel
theorem dX6_tryWith_54 : decode cX6_tryWith 54 = .ok (.aload_n 0, 1) := by decide +kernel
theorem dX6_tryWith_55 : decode cX6_tryWith 55 = .ok (.getfield 29, 3) := by decide +kernel
theorem dX6_tryWith_58 : decode cX6_tryWith 58 = .ok (.iload_n 1, 1) := by decide +kernel
theorem dX6_tryWith_59 : decode cX6_tryWith 59 = .ok (.iload_n 3, 1) := by decide +kernel
theorem dX6_tryWith_60 : decode cX6_tryWith 60 = .ok (.invokevirtual 148, 3) := by decide +kernel
theorem dX6_tryWith_63 : decode cX6_tryWith 63 = .ok (.return_, 1) := by decide +kernel
