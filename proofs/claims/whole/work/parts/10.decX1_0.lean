theorem dX1_init_0 : decode cX1_init 0 = .ok (.aload_n 0, 1) := by decide +kernel
theorem dX1_init_1 : decode cX1_init 1 = .ok (.invokespecial 3, 3) := by decide +kernel
theorem dX1_init_4 : decode cX1_init 4 = .ok (.aload_n 0, 1) := by decide +kernel
theorem dX1_init_5 : decode cX1_init 5 = .ok (.bipush 16, 2) := by decide +kernel
theorem dX1_init_7 : decode cX1_init 7 = .ok (.newarray .int, 2) := by decide +kernel
theorem dX1_init_9 : decode cX1_init 9 = .ok (.putfield 9, 3) := by decide +kernel
theorem dX1_init_12 : decode cX1_init 12 = .ok (.aload_n 0, 1) := by decide +kernel
theorem dX1_init_13 : decode cX1_init 13 = .ok (.iconst 0, 1) := by decide +kernel
theorem dX1_init_14 : decode cX1_init 14 = .ok (.putfield 15, 3) := by decide +kernel
theorem dX1_init_17 : decode cX1_init 17 = .ok (.aload_n 0, 1) := by decide +kernel
theorem dX1_init_18 : decode cX1_init 18 = .ok (.aload_n 1, 1) := by decide +kernel
theorem dX1_init_19 : decode cX1_init 19 = .ok (.putfield 19, 3) := by decide +kernel
theorem dX1_init_22 : decode cX1_init 22 = .ok (.return_, 1) := by decide +kernel
theorem dX1_traced_0 : decode cX1_traced 0 = .ok (.iload_n 1, 1) := by decide +kernel
theorem dX1_traced_1 : decode cX1_traced 1 = .ok (.ifCond .lt 20, 3) := by decide +kernel
theorem dX1_traced_4 : decode cX1_traced 4 = .ok (.iload_n 1, 1) := by decide +kernel
theorem dX1_traced_5 : decode cX1_traced 5 = .ok (.aload_n 0, 1) := by decide +kernel
theorem dX1_traced_6 : decode cX1_traced 6 = .ok (.getfield 15, 3) := by decide +kernel
theorem dX1_traced_9 : decode cX1_traced 9 = .ok (.if_icmp .ge 12, 3) := by decide +kernel
theorem dX1_traced_12 : decode cX1_traced 12 = .ok (.aload_n 0, 1) := by decide +kernel
theorem dX1_traced_13 : decode cX1_traced 13 = .ok (.getfield 9, 3) := by decide +kernel
theorem dX1_traced_16 : decode cX1_traced 16 = .ok (.iload_n 1, 1) := by decide +kernel
theorem dX1_traced_17 : decode cX1_traced 17 = .ok (.iaload, 1) := by decide +kernel
theorem dX1_traced_18 : decode cX1_traced 18 = .ok (.goto 5, 3) := by decide +kernel
theorem dX1_traced_21 : decode cX1_traced 21 = .ok (.ldc 23, 2) := by decide +kernel
theorem dX1_traced_23 : decode cX1_traced 23 = .ok (.ireturn, 1) := by decide +kernel
theorem dX1_answer_0 : decode cX1_answer 0 = .ok (.aload_n 0, 1) := by decide +kernel
theorem dX1_answer_1 : decode cX1_answer 1 = .ok (.iconst 0, 1) := by decide +kernel
theorem dX1_answer_2 : decode cX1_answer 2 = .ok (.putfield 15, 3) := by decide +kernel
theorem dX1_answer_5 : decode cX1_answer 5 = .ok (.aload_n 0, 1) := by decide +kernel
theorem dX1_answer_6 : decode cX1_answer 6 = .ok (.iload_n 2, 1) := by decide +kernel
theorem dX1_answer_7 : decode cX1_answer 7 = .ok (.iload_n 1, 1) := by decide +kernel
theorem dX1_answer_8 : decode cX1_answer 8 = .ok (.invokevirtual 24, 3) := by decide +kernel
theorem dX1_answer_11 : decode cX1_answer 11 = .ok (.ireturn, 1) := by decide +kernel
theorem dX1_begin_0 : decode cX1_begin 0 = .ok (.aload_n 0, 1) := by decide +kernel
theorem dX1_begin_1 : decode cX1_begin 1 = .ok (.getfield 19, 3) := by decide +kernel
theorem dX1_begin_4 : decode cX1_begin 4 = .ok (.iload_n 2, 1) := by decide +kernel
theorem dX1_begin_5 : decode cX1_begin 5 = .ok (.iconst 5, 1) := by decide +kernel
theorem dX1_begin_6 : decode cX1_begin 6 = .ok (.invokevirtual 28, 3) := by decide +kernel
theorem dX1_begin_9 : decode cX1_begin 9 = .ok (.istore_n 3, 1) := by decide +kernel
theorem dX1_begin_10 : decode cX1_begin 10 = .ok (.iload_n 1, 1) := by decide +kernel
theorem dX1_begin_11 : decode cX1_begin 11 = .ok (.ifCond .ne 16, 3) := by decide +kernel
theorem dX1_begin_14 : decode cX1_begin 14 = .ok (.aload_n 0, 1) := by decide +kernel
theorem dX1_begin_15 : decode cX1_begin 15 = .ok (.getstatic 33, 3) := by decide +kernel
theorem dX1_begin_18 : decode cX1_begin 18 = .ok (.iload_n 3, 1) := by decide +kernel
theorem dX1_begin_19 : decode cX1_begin 19 = .ok (.iaload, 1) := by decide +kernel
theorem dX1_begin_20 : decode cX1_begin 20 = .ok (.iload_n 2, 1) := by decide +kernel
theorem dX1_begin_21 : decode cX1_begin 21 = .ok (.invokevirtual 36, 3) := by decide +kernel
theorem dX1_begin_24 : decode cX1_begin 24 = .ok (.goto 13, 3) := by decide +kernel
theorem dX1_begin_27 : decode cX1_begin 27 = .ok (.aload_n 0, 1) := by decide +kernel
theorem dX1_begin_28 : decode cX1_begin 28 = .ok (.getstatic 39, 3) := by decide +kernel
theorem dX1_begin_31 : decode cX1_begin 31 = .ok (.iload_n 3, 1) := by decide +kernel
theorem dX1_begin_32 : decode cX1_begin 32 = .ok (.iaload, 1) := by decide +kernel
theorem dX1_begin_33 : decode cX1_begin 33 = .ok (.iload_n 2, 1) := by decide +kernel
theorem dX1_begin_34 : decode cX1_begin 34 = .ok (.invokevirtual 42, 3) := by decide +kernel
theorem dX1_begin_37 : decode cX1_begin 37 = .ok (.ireturn, 1) := by decide +kernel
theorem dX1_leave_0 : decode cX1_leave 0 = .ok (.aload_n 0, 1) := by decide +kernel
theorem dX1_leave_1 : decode cX1_leave 1 = .ok (.getfield 15, 3) := by decide +kernel
theorem dX1_leave_4 : decode cX1_leave 4 = .ok (.bipush 16, 2) := by decide +kernel
theorem dX1_leave_6 : decode cX1_leave 6 = .ok (.if_icmp .ge 23, 3) := by decide +kernel
theorem dX1_leave_9 : decode cX1_leave 9 = .ok (.aload_n 0, 1) := by decide +kernel
theorem dX1_leave_10 : decode cX1_leave 10 = .ok (.getfield 9, 3) := by decide +kernel
theorem dX1_leave_13 : decode cX1_leave 13 = .ok (.aload_n 0, 1) := by decide +kernel
theorem dX1_leave_14 : decode cX1_leave 14 = .ok (.getfield 15, 3) := by decide +kernel
theorem dX1_leave_17 : decode cX1_leave 17 = .ok (.iload_n 1, 1) := by decide +kernel
theorem dX1_leave_18 : decode cX1_leave 18 = .ok (.iastore, 1) := by decide +kernel
theorem dX1_leave_19 : decode cX1_leave 19 = .ok (.aload_n 0, 1) := by decide +kernel
theorem dX1_leave_20 : decode cX1_leave 20 = .ok (.dup, 1) := by decide +kernel
theorem dX1_leave_21 : decode cX1_leave 21 = .ok (.getfield 15, 3) := by decide +kernel
theorem dX1_leave_24 : decode cX1_leave 24 = .ok (.iconst 1, 1) := by decide +kernel
theorem dX1_leave_25 : decode cX1_leave 25 = .ok (.iadd, 1) := by decide +kernel
theorem dX1_leave_26 : decode cX1_leave 26 = .ok (.putfield 15, 3) := by decide +kernel
theorem dX1_leave_29 : decode cX1_leave 29 = .ok (.return_, 1) := by decide +kernel
theorem dX1_sizeBy_0 : decode cX1_sizeBy 0 = .ok (.aload_n 0, 1) := by decide +kernel
theorem dX1_sizeBy_1 : decode cX1_sizeBy 1 = .ok (.iload_n 1, 1) := by decide +kernel
theorem dX1_sizeBy_2 : decode cX1_sizeBy 2 = .ok (.invokevirtual 45, 3) := by decide +kernel
theorem dX1_sizeBy_5 : decode cX1_sizeBy 5 = .ok (.iload_n 1, 1) := by decide +kernel
theorem dX1_sizeBy_6 : decode cX1_sizeBy 6 = .ok (.tableswitch 75 11 14 #[30, 45, 54, 65], 30) := by decide +kernel
theorem dX1_sizeBy_36 : decode cX1_sizeBy 36 = .ok (.aload_n 0, 1) := by decide +kernel
theorem dX1_sizeBy_37 : decode cX1_sizeBy 37 = .ok (.bipush 10, 2) := by decide +kernel
theorem dX1_sizeBy_39 : decode cX1_sizeBy 39 = .ok (.iload_n 2, 1) := by decide +kernel
theorem dX1_sizeBy_40 : decode cX1_sizeBy 40 = .ok (.invokevirtual 36, 3) := by decide +kernel
theorem dX1_sizeBy_43 : decode cX1_sizeBy 43 = .ok (.aload_n 0, 1) := by decide +kernel
theorem dX1_sizeBy_44 : decode cX1_sizeBy 44 = .ok (.iconst 1, 1) := by decide +kernel
theorem dX1_sizeBy_45 : decode cX1_sizeBy 45 = .ok (.iload_n 2, 1) := by decide +kernel
theorem dX1_sizeBy_46 : decode cX1_sizeBy 46 = .ok (.invokevirtual 24, 3) := by decide +kernel
theorem dX1_sizeBy_49 : decode cX1_sizeBy 49 = .ok (.iadd, 1) := by decide +kernel
theorem dX1_sizeBy_50 : decode cX1_sizeBy 50 = .ok (.ireturn, 1) := by decide +kernel
theorem dX1_sizeBy_51 : decode cX1_sizeBy 51 = .ok (.aload_n 0, 1) := by decide +kernel
theorem dX1_sizeBy_52 : decode cX1_sizeBy 52 = .ok (.bipush 11, 2) := by decide +kernel
theorem dX1_sizeBy_54 : decode cX1_sizeBy 54 = .ok (.iload_n 2, 1) := by decide +kernel
theorem dX1_sizeBy_55 : decode cX1_sizeBy 55 = .ok (.invokevirtual 36, 3) := by decide +kernel
theorem dX1_sizeBy_58 : decode cX1_sizeBy 58 = .ok (.ineg, 1) := by decide +kernel
theorem dX1_sizeBy_59 : decode cX1_sizeBy 59 = .ok (.ireturn, 1) := by decide +kernel
theorem dX1_sizeBy_60 : decode cX1_sizeBy 60 = .ok (.aload_n 0, 1) := by decide +kernel
theorem dX1_sizeBy_61 : decode cX1_sizeBy 61 = .ok (.bipush 10, 2) := by decide +kernel
theorem dX1_sizeBy_63 : decode cX1_sizeBy 63 = .ok (.iload_n 2, 1) := by decide +kernel
theorem dX1_sizeBy_64 : decode cX1_sizeBy 64 = .ok (.invokevirtual 36, 3) := by decide +kernel
theorem dX1_sizeBy_67 : decode cX1_sizeBy 67 = .ok (.bipush 100, 2) := by decide +kernel
theorem dX1_sizeBy_69 : decode cX1_sizeBy 69 = .ok (.isub, 1) := by decide +kernel
theorem dX1_sizeBy_70 : decode cX1_sizeBy 70 = .ok (.ireturn, 1) := by decide +kernel
theorem dX1_sizeBy_71 : decode cX1_sizeBy 71 = .ok (.iconst 2, 1) := by decide +kernel
theorem dX1_sizeBy_72 : decode cX1_sizeBy 72 = .ok (.aload_n 0, 1) := by decide +kernel
theorem dX1_sizeBy_73 : decode cX1_sizeBy 73 = .ok (.bipush 13, 2) := by decide +kernel
theorem dX1_sizeBy_75 : decode cX1_sizeBy 75 = .ok (.iload_n 2, 1) := by decide +kernel
theorem dX1_sizeBy_76 : decode cX1_sizeBy 76 = .ok (.invokevirtual 36, 3) := by decide +kernel
theorem dX1_sizeBy_79 : decode cX1_sizeBy 79 = .ok (.imul, 1) := by decide +kernel
theorem dX1_sizeBy_80 : decode cX1_sizeBy 80 = .ok (.ireturn, 1) := by decide +kernel
theorem dX1_sizeBy_81 : decode cX1_sizeBy 81 = .ok (.aload_n 0, 1) := by decide +kernel
theorem dX1_sizeBy_82 : decode cX1_sizeBy 82 = .ok (.getfield 19, 3) := by decide +kernel
theorem dX1_sizeBy_85 : decode cX1_sizeBy 85 = .ok (.iload_n 2, 1) := by decide +kernel
theorem dX1_sizeBy_86 : decode cX1_sizeBy 86 = .ok (.iconst 0, 1) := by decide +kernel
theorem dX1_sizeBy_87 : decode cX1_sizeBy 87 = .ok (.invokevirtual 28, 3) := by decide +kernel
theorem dX1_sizeBy_90 : decode cX1_sizeBy 90 = .ok (.ireturn, 1) := by decide +kernel
theorem dX1_markBy_0 : decode cX1_markBy 0 = .ok (.aload_n 0, 1) := by decide +kernel
theorem dX1_markBy_1 : decode cX1_markBy 1 = .ok (.iload_n 1, 1) := by decide +kernel
theorem dX1_markBy_2 : decode cX1_markBy 2 = .ok (.invokevirtual 45, 3) := by decide +kernel
theorem dX1_markBy_5 : decode cX1_markBy 5 = .ok (.iload_n 1, 1) := by decide +kernel
theorem dX1_markBy_6 : decode cX1_markBy 6 = .ok (.tableswitch 84 21 24 #[30, 47, 59, 74], 30) := by decide +kernel
theorem dX1_markBy_36 : decode cX1_markBy 36 = .ok (.aload_n 0, 1) := by decide +kernel
theorem dX1_markBy_37 : decode cX1_markBy 37 = .ok (.bipush 20, 2) := by decide +kernel
theorem dX1_markBy_39 : decode cX1_markBy 39 = .ok (.iload_n 2, 1) := by decide +kernel
theorem dX1_markBy_40 : decode cX1_markBy 40 = .ok (.invokevirtual 42, 3) := by decide +kernel
theorem dX1_markBy_43 : decode cX1_markBy 43 = .ok (.aload_n 0, 1) := by decide +kernel
theorem dX1_markBy_44 : decode cX1_markBy 44 = .ok (.getfield 19, 3) := by decide +kernel
theorem dX1_markBy_47 : decode cX1_markBy 47 = .ok (.iload_n 2, 1) := by decide +kernel
theorem dX1_markBy_48 : decode cX1_markBy 48 = .ok (.invokevirtual 49, 3) := by decide +kernel
theorem dX1_markBy_51 : decode cX1_markBy 51 = .ok (.iadd, 1) := by decide +kernel
theorem dX1_markBy_52 : decode cX1_markBy 52 = .ok (.ireturn, 1) := by decide +kernel
theorem dX1_markBy_53 : decode cX1_markBy 53 = .ok (.aload_n 0, 1) := by decide +kernel
theorem dX1_markBy_54 : decode cX1_markBy 54 = .ok (.bipush 21, 2) := by decide +kernel
theorem dX1_markBy_56 : decode cX1_markBy 56 = .ok (.iload_n 2, 1) := by decide +kernel
theorem dX1_markBy_57 : decode cX1_markBy 57 = .ok (.invokevirtual 42, 3) := by decide +kernel
theorem dX1_markBy_60 : decode cX1_markBy 60 = .ok (.sipush 1000, 3) := by decide +kernel
theorem dX1_markBy_63 : decode cX1_markBy 63 = .ok (.isub, 1) := by decide +kernel
theorem dX1_markBy_64 : decode cX1_markBy 64 = .ok (.ireturn, 1) := by decide +kernel
theorem dX1_markBy_65 : decode cX1_markBy 65 = .ok (.aload_n 0, 1) := by decide +kernel
theorem dX1_markBy_66 : decode cX1_markBy 66 = .ok (.bipush 20, 2) := by decide +kernel
theorem dX1_markBy_68 : decode cX1_markBy 68 = .ok (.iload_n 2, 1) := by decide +kernel
theorem dX1_markBy_69 : decode cX1_markBy 69 = .ok (.invokevirtual 42, 3) := by decide +kernel
theorem dX1_markBy_72 : decode cX1_markBy 72 = .ok (.aload_n 0, 1) := by decide +kernel
theorem dX1_markBy_73 : decode cX1_markBy 73 = .ok (.iconst 0, 1) := by decide +kernel
theorem dX1_markBy_74 : decode cX1_markBy 74 = .ok (.iload_n 2, 1) := by decide +kernel
theorem dX1_markBy_75 : decode cX1_markBy 75 = .ok (.invokevirtual 24, 3) := by decide +kernel
theorem dX1_markBy_78 : decode cX1_markBy 78 = .ok (.isub, 1) := by decide +kernel
theorem dX1_markBy_79 : decode cX1_markBy 79 = .ok (.ireturn, 1) := by decide +kernel
theorem dX1_markBy_80 : decode cX1_markBy 80 = .ok (.iconst 2, 1) := by decide +kernel
theorem dX1_markBy_81 : decode cX1_markBy 81 = .ok (.aload_n 0, 1) := by decide +kernel
theorem dX1_markBy_82 : decode cX1_markBy 82 = .ok (.bipush 21, 2) := by decide +kernel
theorem dX1_markBy_84 : decode cX1_markBy 84 = .ok (.iload_n 2, 1) := by decide +kernel
theorem dX1_markBy_85 : decode cX1_markBy 85 = .ok (.invokevirtual 42, 3) := by decide +kernel
theorem dX1_markBy_88 : decode cX1_markBy 88 = .ok (.imul, 1) := by decide +kernel
theorem dX1_markBy_89 : decode cX1_markBy 89 = .ok (.ireturn, 1) := by decide +kernel
theorem dX1_markBy_90 : decode cX1_markBy 90 = .ok (.iload_n 2, 1) := by decide +kernel
theorem dX1_markBy_91 : decode cX1_markBy 91 = .ok (.ireturn, 1) := by decide +kernel
