theorem dX4_init_0 : decode cX4_init 0 = .ok (.aload_n 0, 1) := by decide +kernel
theorem dX4_init_1 : decode cX4_init 1 = .ok (.invokespecial 3, 3) := by decide +kernel
theorem dX4_init_4 : decode cX4_init 4 = .ok (.aload_n 0, 1) := by decide +kernel
theorem dX4_init_5 : decode cX4_init 5 = .ok (.sipush 130, 3) := by decide +kernel
theorem dX4_init_8 : decode cX4_init 8 = .ok (.newarray .int, 2) := by decide +kernel
theorem dX4_init_10 : decode cX4_init 10 = .ok (.putfield 9, 3) := by decide +kernel
theorem dX4_init_13 : decode cX4_init 13 = .ok (.aload_n 0, 1) := by decide +kernel
theorem dX4_init_14 : decode cX4_init 14 = .ok (.iconst 0, 1) := by decide +kernel
theorem dX4_init_15 : decode cX4_init 15 = .ok (.putfield 15, 3) := by decide +kernel
theorem dX4_init_18 : decode cX4_init 18 = .ok (.aload_n 0, 1) := by decide +kernel
theorem dX4_init_19 : decode cX4_init 19 = .ok (.iconst 0, 1) := by decide +kernel
theorem dX4_init_20 : decode cX4_init 20 = .ok (.putfield 19, 3) := by decide +kernel
theorem dX4_init_23 : decode cX4_init 23 = .ok (.aload_n 0, 1) := by decide +kernel
theorem dX4_init_24 : decode cX4_init 24 = .ok (.iconst 0, 1) := by decide +kernel
theorem dX4_init_25 : decode cX4_init 25 = .ok (.putfield 22, 3) := by decide +kernel
theorem dX4_init_28 : decode cX4_init 28 = .ok (.aload_n 0, 1) := by decide +kernel
theorem dX4_init_29 : decode cX4_init 29 = .ok (.bipush (-2), 2) := by decide +kernel
theorem dX4_init_31 : decode cX4_init 31 = .ok (.putfield 25, 3) := by decide +kernel
theorem dX4_init_34 : decode cX4_init 34 = .ok (.aload_n 0, 1) := by decide +kernel
theorem dX4_init_35 : decode cX4_init 35 = .ok (.iconst 0, 1) := by decide +kernel
theorem dX4_init_36 : decode cX4_init 36 = .ok (.putfield 28, 3) := by decide +kernel
theorem dX4_init_39 : decode cX4_init 39 = .ok (.aload_n 0, 1) := by decide +kernel
theorem dX4_init_40 : decode cX4_init 40 = .ok (.iconst 0, 1) := by decide +kernel
theorem dX4_init_41 : decode cX4_init 41 = .ok (.putfield 31, 3) := by decide +kernel
theorem dX4_init_44 : decode cX4_init 44 = .ok (.return_, 1) := by decide +kernel
theorem dX4_size_0 : decode cX4_size 0 = .ok (.aload_n 0, 1) := by decide +kernel
theorem dX4_size_1 : decode cX4_size 1 = .ok (.getfield 15, 3) := by decide +kernel
theorem dX4_size_4 : decode cX4_size 4 = .ok (.ireturn, 1) := by decide +kernel
theorem dX4_faultPlace_0 : decode cX4_faultPlace 0 = .ok (.aload_n 0, 1) := by decide +kernel
theorem dX4_faultPlace_1 : decode cX4_faultPlace 1 = .ok (.getfield 19, 3) := by decide +kernel
theorem dX4_faultPlace_4 : decode cX4_faultPlace 4 = .ok (.ireturn, 1) := by decide +kernel
theorem dX4_add_0 : decode cX4_add 0 = .ok (.aload_n 0, 1) := by decide +kernel
theorem dX4_add_1 : decode cX4_add 1 = .ok (.getfield 15, 3) := by decide +kernel
theorem dX4_add_4 : decode cX4_add 4 = .ok (.sipush 130, 3) := by decide +kernel
theorem dX4_add_7 : decode cX4_add 7 = .ok (.if_icmp .lt 5, 3) := by decide +kernel
theorem dX4_add_10 : decode cX4_add 10 = .ok (.iconst 0, 1) := by decide +kernel
theorem dX4_add_11 : decode cX4_add 11 = .ok (.ireturn, 1) := by decide +kernel
theorem dX4_add_12 : decode cX4_add 12 = .ok (.aload_n 0, 1) := by decide +kernel
theorem dX4_add_13 : decode cX4_add 13 = .ok (.getfield 9, 3) := by decide +kernel
theorem dX4_add_16 : decode cX4_add 16 = .ok (.aload_n 0, 1) := by decide +kernel
theorem dX4_add_17 : decode cX4_add 17 = .ok (.getfield 15, 3) := by decide +kernel
theorem dX4_add_20 : decode cX4_add 20 = .ok (.iload_n 1, 1) := by decide +kernel
theorem dX4_add_21 : decode cX4_add 21 = .ok (.iastore, 1) := by decide +kernel
theorem dX4_add_22 : decode cX4_add 22 = .ok (.aload_n 0, 1) := by decide +kernel
theorem dX4_add_23 : decode cX4_add 23 = .ok (.dup, 1) := by decide +kernel
theorem dX4_add_24 : decode cX4_add 24 = .ok (.getfield 15, 3) := by decide +kernel
theorem dX4_add_27 : decode cX4_add 27 = .ok (.iconst 1, 1) := by decide +kernel
theorem dX4_add_28 : decode cX4_add 28 = .ok (.iadd, 1) := by decide +kernel
theorem dX4_add_29 : decode cX4_add 29 = .ok (.putfield 15, 3) := by decide +kernel
theorem dX4_add_32 : decode cX4_add 32 = .ok (.iconst 1, 1) := by decide +kernel
theorem dX4_add_33 : decode cX4_add 33 = .ok (.ireturn, 1) := by decide +kernel
theorem dX4_read_0 : decode cX4_read 0 = .ok (.aload_n 1, 1) := by decide +kernel
theorem dX4_read_1 : decode cX4_read 1 = .ok (.invokevirtual 34, 3) := by decide +kernel
theorem dX4_read_4 : decode cX4_read 4 = .ok (.aload_n 0, 1) := by decide +kernel
theorem dX4_read_5 : decode cX4_read 5 = .ok (.iconst 0, 1) := by decide +kernel
theorem dX4_read_6 : decode cX4_read 6 = .ok (.putfield 31, 3) := by decide +kernel
theorem dX4_read_9 : decode cX4_read 9 = .ok (.aload_n 0, 1) := by decide +kernel
theorem dX4_read_10 : decode cX4_read 10 = .ok (.iconst 0, 1) := by decide +kernel
theorem dX4_read_11 : decode cX4_read 11 = .ok (.putfield 22, 3) := by decide +kernel
theorem dX4_read_14 : decode cX4_read 14 = .ok (.aload_n 0, 1) := by decide +kernel
theorem dX4_read_15 : decode cX4_read 15 = .ok (.invokevirtual 39, 3) := by decide +kernel
theorem dX4_read_18 : decode cX4_read 18 = .ok (.iconst 0, 1) := by decide +kernel
theorem dX4_read_19 : decode cX4_read 19 = .ok (.istore_n 2, 1) := by decide +kernel
theorem dX4_read_20 : decode cX4_read 20 = .ok (.iload_n 2, 1) := by decide +kernel
theorem dX4_read_21 : decode cX4_read 21 = .ok (.bipush 6, 2) := by decide +kernel
theorem dX4_read_23 : decode cX4_read 23 = .ok (.if_icmp .gt 34, 3) := by decide +kernel
theorem dX4_read_26 : decode cX4_read 26 = .ok (.aload_n 0, 1) := by decide +kernel
theorem dX4_read_27 : decode cX4_read 27 = .ok (.getfield 31, 3) := by decide +kernel
theorem dX4_read_30 : decode cX4_read 30 = .ok (.ifCond .ne 27, 3) := by decide +kernel
theorem dX4_read_33 : decode cX4_read 33 = .ok (.iload_n 2, 1) := by decide +kernel
theorem dX4_read_34 : decode cX4_read 34 = .ok (.ifCond .eq 12, 3) := by decide +kernel
theorem dX4_read_37 : decode cX4_read 37 = .ok (.aload_n 0, 1) := by decide +kernel
theorem dX4_read_38 : decode cX4_read 38 = .ok (.getfield 25, 3) := by decide +kernel
theorem dX4_read_41 : decode cX4_read 41 = .ok (.bipush 109, 2) := by decide +kernel
theorem dX4_read_43 : decode cX4_read 43 = .ok (.if_icmp .ne 14, 3) := by decide +kernel
theorem dX4_read_46 : decode cX4_read 46 = .ok (.aload_n 0, 1) := by decide +kernel
theorem dX4_read_47 : decode cX4_read 47 = .ok (.aload_n 1, 1) := by decide +kernel
theorem dX4_read_48 : decode cX4_read 48 = .ok (.invokevirtual 42, 3) := by decide +kernel
theorem dX4_read_51 : decode cX4_read 51 = .ok (.iinc 2 1, 3) := by decide +kernel
theorem dX4_read_54 : decode cX4_read 54 = .ok (.goto (-34), 3) := by decide +kernel
theorem dX4_read_57 : decode cX4_read 57 = .ok (.iconst 0, 1) := by decide +kernel
theorem dX4_read_58 : decode cX4_read 58 = .ok (.istore_n 2, 1) := by decide +kernel
theorem dX4_read_59 : decode cX4_read 59 = .ok (.iload_n 2, 1) := by decide +kernel
theorem dX4_read_60 : decode cX4_read 60 = .ok (.iconst 5, 1) := by decide +kernel
theorem dX4_read_61 : decode cX4_read 61 = .ok (.if_icmp .gt 31, 3) := by decide +kernel
theorem dX4_read_64 : decode cX4_read 64 = .ok (.aload_n 0, 1) := by decide +kernel
theorem dX4_read_65 : decode cX4_read 65 = .ok (.getfield 31, 3) := by decide +kernel
theorem dX4_read_68 : decode cX4_read 68 = .ok (.ifCond .ne 24, 3) := by decide +kernel
theorem dX4_read_71 : decode cX4_read 71 = .ok (.aload_n 0, 1) := by decide +kernel
theorem dX4_read_72 : decode cX4_read 72 = .ok (.getfield 25, 3) := by decide +kernel
theorem dX4_read_75 : decode cX4_read 75 = .ok (.invokestatic 46, 3) := by decide +kernel
theorem dX4_read_78 : decode cX4_read 78 = .ok (.ifCond .eq 14, 3) := by decide +kernel
theorem dX4_read_81 : decode cX4_read 81 = .ok (.aload_n 0, 1) := by decide +kernel
theorem dX4_read_82 : decode cX4_read 82 = .ok (.aload_n 1, 1) := by decide +kernel
theorem dX4_read_83 : decode cX4_read 83 = .ok (.invokevirtual 50, 3) := by decide +kernel
theorem dX4_read_86 : decode cX4_read 86 = .ok (.iinc 2 1, 3) := by decide +kernel
theorem dX4_read_89 : decode cX4_read 89 = .ok (.goto (-30), 3) := by decide +kernel
theorem dX4_read_92 : decode cX4_read 92 = .ok (.aload_n 0, 1) := by decide +kernel
theorem dX4_read_93 : decode cX4_read 93 = .ok (.getfield 25, 3) := by decide +kernel
theorem dX4_read_96 : decode cX4_read 96 = .ok (.bipush (-2), 2) := by decide +kernel
theorem dX4_read_98 : decode cX4_read 98 = .ok (.if_icmp .eq 11, 3) := by decide +kernel
theorem dX4_read_101 : decode cX4_read 101 = .ok (.aload_n 0, 1) := by decide +kernel
theorem dX4_read_102 : decode cX4_read 102 = .ok (.iconst 1, 1) := by decide +kernel
theorem dX4_read_103 : decode cX4_read 103 = .ok (.invokevirtual 53, 3) := by decide +kernel
theorem dX4_read_106 : decode cX4_read 106 = .ok (.goto 22, 3) := by decide +kernel
theorem dX4_read_109 : decode cX4_read 109 = .ok (.aload_n 0, 1) := by decide +kernel
theorem dX4_read_110 : decode cX4_read 110 = .ok (.getfield 31, 3) := by decide +kernel
theorem dX4_read_113 : decode cX4_read 113 = .ok (.ifCond .ne 15, 3) := by decide +kernel
theorem dX4_read_116 : decode cX4_read 116 = .ok (.aload_n 1, 1) := by decide +kernel
theorem dX4_read_117 : decode cX4_read 117 = .ok (.invokevirtual 57, 3) := by decide +kernel
theorem dX4_read_120 : decode cX4_read 120 = .ok (.ifCond .ne 8, 3) := by decide +kernel
theorem dX4_read_123 : decode cX4_read 123 = .ok (.aload_n 0, 1) := by decide +kernel
theorem dX4_read_124 : decode cX4_read 124 = .ok (.iconst 4, 1) := by decide +kernel
theorem dX4_read_125 : decode cX4_read 125 = .ok (.invokevirtual 53, 3) := by decide +kernel
theorem dX4_read_128 : decode cX4_read 128 = .ok (.aload_n 0, 1) := by decide +kernel
theorem dX4_read_129 : decode cX4_read 129 = .ok (.iconst 0, 1) := by decide +kernel
theorem dX4_read_130 : decode cX4_read 130 = .ok (.putfield 15, 3) := by decide +kernel
theorem dX4_read_133 : decode cX4_read 133 = .ok (.aload_n 0, 1) := by decide +kernel
theorem dX4_read_134 : decode cX4_read 134 = .ok (.getfield 31, 3) := by decide +kernel
theorem dX4_read_137 : decode cX4_read 137 = .ok (.ireturn, 1) := by decide +kernel
theorem dX4_readMethod_0 : decode cX4_readMethod 0 = .ok (.aload_n 0, 1) := by decide +kernel
theorem dX4_readMethod_1 : decode cX4_readMethod 1 = .ok (.getfield 25, 3) := by decide +kernel
theorem dX4_readMethod_4 : decode cX4_readMethod 4 = .ok (.bipush 109, 2) := by decide +kernel
theorem dX4_readMethod_6 : decode cX4_readMethod 6 = .ok (.if_icmp .eq 9, 3) := by decide +kernel
theorem dX4_readMethod_9 : decode cX4_readMethod 9 = .ok (.aload_n 0, 1) := by decide +kernel
theorem dX4_readMethod_10 : decode cX4_readMethod 10 = .ok (.iconst 1, 1) := by decide +kernel
theorem dX4_readMethod_11 : decode cX4_readMethod 11 = .ok (.invokevirtual 53, 3) := by decide +kernel
theorem dX4_readMethod_14 : decode cX4_readMethod 14 = .ok (.return_, 1) := by decide +kernel
theorem dX4_readMethod_15 : decode cX4_readMethod 15 = .ok (.aload_n 1, 1) := by decide +kernel
theorem dX4_readMethod_16 : decode cX4_readMethod 16 = .ok (.invokevirtual 61, 3) := by decide +kernel
theorem dX4_readMethod_19 : decode cX4_readMethod 19 = .ok (.bipush 6, 2) := by decide +kernel
theorem dX4_readMethod_21 : decode cX4_readMethod 21 = .ok (.if_icmp .lt 9, 3) := by decide +kernel
theorem dX4_readMethod_24 : decode cX4_readMethod 24 = .ok (.aload_n 0, 1) := by decide +kernel
theorem dX4_readMethod_25 : decode cX4_readMethod 25 = .ok (.iconst 3, 1) := by decide +kernel
theorem dX4_readMethod_26 : decode cX4_readMethod 26 = .ok (.invokevirtual 53, 3) := by decide +kernel
theorem dX4_readMethod_29 : decode cX4_readMethod 29 = .ok (.return_, 1) := by decide +kernel
theorem dX4_readMethod_30 : decode cX4_readMethod 30 = .ok (.aload_n 0, 1) := by decide +kernel
theorem dX4_readMethod_31 : decode cX4_readMethod 31 = .ok (.invokevirtual 39, 3) := by decide +kernel
theorem dX4_readMethod_34 : decode cX4_readMethod 34 = .ok (.aload_n 1, 1) := by decide +kernel
theorem dX4_readMethod_35 : decode cX4_readMethod 35 = .ok (.aload_n 0, 1) := by decide +kernel
theorem dX4_readMethod_36 : decode cX4_readMethod 36 = .ok (.iconst 0, 1) := by decide +kernel
theorem dX4_readMethod_37 : decode cX4_readMethod 37 = .ok (.iconst 3, 1) := by decide +kernel
theorem dX4_readMethod_38 : decode cX4_readMethod 38 = .ok (.invokevirtual 65, 3) := by decide +kernel
theorem dX4_readMethod_41 : decode cX4_readMethod 41 = .ok (.invokevirtual 69, 3) := by decide +kernel
theorem dX4_readMethod_44 : decode cX4_readMethod 44 = .ok (.iconst 0, 1) := by decide +kernel
theorem dX4_readMethod_45 : decode cX4_readMethod 45 = .ok (.istore_n 2, 1) := by decide +kernel
theorem dX4_readMethod_46 : decode cX4_readMethod 46 = .ok (.iload_n 2, 1) := by decide +kernel
theorem dX4_readMethod_47 : decode cX4_readMethod 47 = .ok (.iconst 4, 1) := by decide +kernel
theorem dX4_readMethod_48 : decode cX4_readMethod 48 = .ok (.if_icmp .gt 31, 3) := by decide +kernel
theorem dX4_readMethod_51 : decode cX4_readMethod 51 = .ok (.aload_n 0, 1) := by decide +kernel
theorem dX4_readMethod_52 : decode cX4_readMethod 52 = .ok (.getfield 31, 3) := by decide +kernel
theorem dX4_readMethod_55 : decode cX4_readMethod 55 = .ok (.ifCond .ne 24, 3) := by decide +kernel
theorem dX4_readMethod_58 : decode cX4_readMethod 58 = .ok (.aload_n 0, 1) := by decide +kernel
theorem dX4_readMethod_59 : decode cX4_readMethod 59 = .ok (.getfield 25, 3) := by decide +kernel
theorem dX4_readMethod_62 : decode cX4_readMethod 62 = .ok (.bipush 59, 2) := by decide +kernel
theorem dX4_readMethod_64 : decode cX4_readMethod 64 = .ok (.if_icmp .eq 15, 3) := by decide +kernel
theorem dX4_readMethod_67 : decode cX4_readMethod 67 = .ok (.aload_n 0, 1) := by decide +kernel
theorem dX4_readMethod_68 : decode cX4_readMethod 68 = .ok (.aload_n 1, 1) := by decide +kernel
theorem dX4_readMethod_69 : decode cX4_readMethod 69 = .ok (.iload_n 2, 1) := by decide +kernel
theorem dX4_readMethod_70 : decode cX4_readMethod 70 = .ok (.invokevirtual 72, 3) := by decide +kernel
theorem dX4_readMethod_73 : decode cX4_readMethod 73 = .ok (.iinc 2 1, 3) := by decide +kernel
theorem dX4_readMethod_76 : decode cX4_readMethod 76 = .ok (.goto (-30), 3) := by decide +kernel
theorem dX4_readMethod_79 : decode cX4_readMethod 79 = .ok (.aload_n 0, 1) := by decide +kernel
theorem dX4_readMethod_80 : decode cX4_readMethod 80 = .ok (.bipush 59, 2) := by decide +kernel
theorem dX4_readMethod_82 : decode cX4_readMethod 82 = .ok (.invokevirtual 76, 3) := by decide +kernel
theorem dX4_readMethod_85 : decode cX4_readMethod 85 = .ok (.return_, 1) := by decide +kernel
theorem dX4_readStatement_0 : decode cX4_readStatement 0 = .ok (.aload_n 0, 1) := by decide +kernel
theorem dX4_readStatement_1 : decode cX4_readStatement 1 = .ok (.getfield 25, 3) := by decide +kernel
theorem dX4_readStatement_4 : decode cX4_readStatement 4 = .ok (.invokestatic 79, 3) := by decide +kernel
theorem dX4_readStatement_7 : decode cX4_readStatement 7 = .ok (.istore_n 3, 1) := by decide +kernel
theorem dX4_readStatement_8 : decode cX4_readStatement 8 = .ok (.iload_n 2, 1) := by decide +kernel
theorem dX4_readStatement_9 : decode cX4_readStatement 9 = .ok (.iconst 4, 1) := by decide +kernel
theorem dX4_readStatement_10 : decode cX4_readStatement 10 = .ok (.if_icmp .ge 7, 3) := by decide +kernel
theorem dX4_readStatement_13 : decode cX4_readStatement 13 = .ok (.iload_n 3, 1) := by decide +kernel
theorem dX4_readStatement_14 : decode cX4_readStatement 14 = .ok (.ifCond .ge 9, 3) := by decide +kernel
theorem dX4_readStatement_17 : decode cX4_readStatement 17 = .ok (.aload_n 0, 1) := by decide +kernel
theorem dX4_readStatement_18 : decode cX4_readStatement 18 = .ok (.iconst 1, 1) := by decide +kernel
theorem dX4_readStatement_19 : decode cX4_readStatement 19 = .ok (.invokevirtual 53, 3) := by decide +kernel
theorem dX4_readStatement_22 : decode cX4_readStatement 22 = .ok (.return_, 1) := by decide +kernel
theorem dX4_readStatement_23 : decode cX4_readStatement 23 = .ok (.aload_n 0, 1) := by decide +kernel
theorem dX4_readStatement_24 : decode cX4_readStatement 24 = .ok (.invokevirtual 39, 3) := by decide +kernel
theorem dX4_readStatement_27 : decode cX4_readStatement 27 = .ok (.iload_n 3, 1) := by decide +kernel
theorem dX4_readStatement_28 : decode cX4_readStatement 28 = .ok (.iconst 1, 1) := by decide +kernel
theorem dX4_readStatement_29 : decode cX4_readStatement 29 = .ok (.if_icmp .ne 7, 3) := by decide +kernel
theorem dX4_readStatement_32 : decode cX4_readStatement 32 = .ok (.iconst 0, 1) := by decide +kernel
theorem dX4_readStatement_33 : decode cX4_readStatement 33 = .ok (.goto 4, 3) := by decide +kernel
theorem dX4_readStatement_36 : decode cX4_readStatement 36 = .ok (.iconst 1, 1) := by decide +kernel
theorem dX4_readStatement_37 : decode cX4_readStatement 37 = .ok (.istore 4, 2) := by decide +kernel
theorem dX4_readStatement_39 : decode cX4_readStatement 39 = .ok (.iload_n 3, 1) := by decide +kernel
theorem dX4_readStatement_40 : decode cX4_readStatement 40 = .ok (.ifCond .ne 8, 3) := by decide +kernel
theorem dX4_readStatement_43 : decode cX4_readStatement 43 = .ok (.bipush 99, 2) := by decide +kernel
theorem dX4_readStatement_45 : decode cX4_readStatement 45 = .ok (.goto 14, 3) := by decide +kernel
theorem dX4_readStatement_48 : decode cX4_readStatement 48 = .ok (.iload_n 3, 1) := by decide +kernel
theorem dX4_readStatement_49 : decode cX4_readStatement 49 = .ok (.iconst 1, 1) := by decide +kernel
theorem dX4_readStatement_50 : decode cX4_readStatement 50 = .ok (.if_icmp .ne 7, 3) := by decide +kernel
theorem dX4_readStatement_53 : decode cX4_readStatement 53 = .ok (.iconst 5, 1) := by decide +kernel
theorem dX4_readStatement_54 : decode cX4_readStatement 54 = .ok (.goto 5, 3) := by decide +kernel
theorem dX4_readStatement_57 : decode cX4_readStatement 57 = .ok (.bipush 9, 2) := by decide +kernel
theorem dX4_readStatement_59 : decode cX4_readStatement 59 = .ok (.istore 5, 2) := by decide +kernel
theorem dX4_readStatement_61 : decode cX4_readStatement 61 = .ok (.aload_n 1, 1) := by decide +kernel
theorem dX4_readStatement_62 : decode cX4_readStatement 62 = .ok (.iload_n 3, 1) := by decide +kernel
theorem dX4_readStatement_63 : decode cX4_readStatement 63 = .ok (.aload_n 0, 1) := by decide +kernel
theorem dX4_readStatement_64 : decode cX4_readStatement 64 = .ok (.iload 4, 2) := by decide +kernel
theorem dX4_readStatement_66 : decode cX4_readStatement 66 = .ok (.iload 5, 2) := by decide +kernel
theorem dX4_readStatement_68 : decode cX4_readStatement 68 = .ok (.invokevirtual 65, 3) := by decide +kernel
theorem dX4_readStatement_71 : decode cX4_readStatement 71 = .ok (.invokevirtual 82, 3) := by decide +kernel
theorem dX4_readStatement_74 : decode cX4_readStatement 74 = .ok (.return_, 1) := by decide +kernel
theorem dX4_readAdvice_0 : decode cX4_readAdvice 0 = .ok (.aload_n 1, 1) := by decide +kernel
theorem dX4_readAdvice_1 : decode cX4_readAdvice 1 = .ok (.invokevirtual 86, 3) := by decide +kernel
theorem dX4_readAdvice_4 : decode cX4_readAdvice 4 = .ok (.iconst 5, 1) := by decide +kernel
theorem dX4_readAdvice_5 : decode cX4_readAdvice 5 = .ok (.if_icmp .lt 9, 3) := by decide +kernel
theorem dX4_readAdvice_8 : decode cX4_readAdvice 8 = .ok (.aload_n 0, 1) := by decide +kernel
theorem dX4_readAdvice_9 : decode cX4_readAdvice 9 = .ok (.iconst 3, 1) := by decide +kernel
theorem dX4_readAdvice_10 : decode cX4_readAdvice 10 = .ok (.invokevirtual 53, 3) := by decide +kernel
theorem dX4_readAdvice_13 : decode cX4_readAdvice 13 = .ok (.return_, 1) := by decide +kernel
theorem dX4_readAdvice_14 : decode cX4_readAdvice 14 = .ok (.aload_n 1, 1) := by decide +kernel
theorem dX4_readAdvice_15 : decode cX4_readAdvice 15 = .ok (.aload_n 0, 1) := by decide +kernel
theorem dX4_readAdvice_16 : decode cX4_readAdvice 16 = .ok (.getfield 25, 3) := by decide +kernel
theorem dX4_readAdvice_19 : decode cX4_readAdvice 19 = .ok (.invokestatic 46, 3) := by decide +kernel
theorem dX4_readAdvice_22 : decode cX4_readAdvice 22 = .ok (.invokevirtual 89, 3) := by decide +kernel
theorem dX4_readAdvice_25 : decode cX4_readAdvice 25 = .ok (.istore_n 2, 1) := by decide +kernel
theorem dX4_readAdvice_26 : decode cX4_readAdvice 26 = .ok (.aload_n 0, 1) := by decide +kernel
theorem dX4_readAdvice_27 : decode cX4_readAdvice 27 = .ok (.invokevirtual 39, 3) := by decide +kernel
theorem dX4_readAdvice_30 : decode cX4_readAdvice 30 = .ok (.aload_n 1, 1) := by decide +kernel
theorem dX4_readAdvice_31 : decode cX4_readAdvice 31 = .ok (.iload_n 2, 1) := by decide +kernel
theorem dX4_readAdvice_32 : decode cX4_readAdvice 32 = .ok (.iconst 0, 1) := by decide +kernel
theorem dX4_readAdvice_33 : decode cX4_readAdvice 33 = .ok (.aload_n 0, 1) := by decide +kernel
theorem dX4_readAdvice_34 : decode cX4_readAdvice 34 = .ok (.iconst 1, 1) := by decide +kernel
theorem dX4_readAdvice_35 : decode cX4_readAdvice 35 = .ok (.bipush 99, 2) := by decide +kernel
theorem dX4_readAdvice_37 : decode cX4_readAdvice 37 = .ok (.invokevirtual 65, 3) := by decide +kernel
theorem dX4_readAdvice_40 : decode cX4_readAdvice 40 = .ok (.invokevirtual 92, 3) := by decide +kernel
theorem dX4_readAdvice_43 : decode cX4_readAdvice 43 = .ok (.aload_n 0, 1) := by decide +kernel
theorem dX4_readAdvice_44 : decode cX4_readAdvice 44 = .ok (.bipush 44, 2) := by decide +kernel
theorem dX4_readAdvice_46 : decode cX4_readAdvice 46 = .ok (.invokevirtual 76, 3) := by decide +kernel
theorem dX4_readAdvice_49 : decode cX4_readAdvice 49 = .ok (.aload_n 1, 1) := by decide +kernel
theorem dX4_readAdvice_50 : decode cX4_readAdvice 50 = .ok (.iload_n 2, 1) := by decide +kernel
theorem dX4_readAdvice_51 : decode cX4_readAdvice 51 = .ok (.iconst 1, 1) := by decide +kernel
theorem dX4_readAdvice_52 : decode cX4_readAdvice 52 = .ok (.aload_n 0, 1) := by decide +kernel
theorem dX4_readAdvice_53 : decode cX4_readAdvice 53 = .ok (.iconst 0, 1) := by decide +kernel
theorem dX4_readAdvice_54 : decode cX4_readAdvice 54 = .ok (.iconst 4, 1) := by decide +kernel
theorem dX4_readAdvice_55 : decode cX4_readAdvice 55 = .ok (.invokevirtual 65, 3) := by decide +kernel
theorem dX4_readAdvice_58 : decode cX4_readAdvice 58 = .ok (.invokevirtual 92, 3) := by decide +kernel
theorem dX4_readAdvice_61 : decode cX4_readAdvice 61 = .ok (.aload_n 0, 1) := by decide +kernel
theorem dX4_readAdvice_62 : decode cX4_readAdvice 62 = .ok (.bipush 44, 2) := by decide +kernel
theorem dX4_readAdvice_64 : decode cX4_readAdvice 64 = .ok (.invokevirtual 76, 3) := by decide +kernel
theorem dX4_readAdvice_67 : decode cX4_readAdvice 67 = .ok (.aload_n 1, 1) := by decide +kernel
theorem dX4_readAdvice_68 : decode cX4_readAdvice 68 = .ok (.iload_n 2, 1) := by decide +kernel
theorem dX4_readAdvice_69 : decode cX4_readAdvice 69 = .ok (.iconst 2, 1) := by decide +kernel
theorem dX4_readAdvice_70 : decode cX4_readAdvice 70 = .ok (.aload_n 0, 1) := by decide +kernel
theorem dX4_readAdvice_71 : decode cX4_readAdvice 71 = .ok (.iconst 0, 1) := by decide +kernel
theorem dX4_readAdvice_72 : decode cX4_readAdvice 72 = .ok (.bipush 6, 2) := by decide +kernel
theorem dX4_readAdvice_74 : decode cX4_readAdvice 74 = .ok (.invokevirtual 65, 3) := by decide +kernel
theorem dX4_readAdvice_77 : decode cX4_readAdvice 77 = .ok (.invokevirtual 92, 3) := by decide +kernel
theorem dX4_readAdvice_80 : decode cX4_readAdvice 80 = .ok (.aload_n 0, 1) := by decide +kernel
theorem dX4_readAdvice_81 : decode cX4_readAdvice 81 = .ok (.bipush 44, 2) := by decide +kernel
theorem dX4_readAdvice_83 : decode cX4_readAdvice 83 = .ok (.invokevirtual 76, 3) := by decide +kernel
theorem dX4_readAdvice_86 : decode cX4_readAdvice 86 = .ok (.aload_n 1, 1) := by decide +kernel
theorem dX4_readAdvice_87 : decode cX4_readAdvice 87 = .ok (.iload_n 2, 1) := by decide +kernel
theorem dX4_readAdvice_88 : decode cX4_readAdvice 88 = .ok (.iconst 3, 1) := by decide +kernel
theorem dX4_readAdvice_89 : decode cX4_readAdvice 89 = .ok (.aload_n 0, 1) := by decide +kernel
theorem dX4_readAdvice_90 : decode cX4_readAdvice 90 = .ok (.iconst 0, 1) := by decide +kernel
theorem dX4_readAdvice_91 : decode cX4_readAdvice 91 = .ok (.bipush 10, 2) := by decide +kernel
theorem dX4_readAdvice_93 : decode cX4_readAdvice 93 = .ok (.invokevirtual 65, 3) := by decide +kernel
theorem dX4_readAdvice_96 : decode cX4_readAdvice 96 = .ok (.invokevirtual 92, 3) := by decide +kernel
theorem dX4_readAdvice_99 : decode cX4_readAdvice 99 = .ok (.aload_n 0, 1) := by decide +kernel
theorem dX4_readAdvice_100 : decode cX4_readAdvice 100 = .ok (.bipush 44, 2) := by decide +kernel
theorem dX4_readAdvice_102 : decode cX4_readAdvice 102 = .ok (.invokevirtual 76, 3) := by decide +kernel
theorem dX4_readAdvice_105 : decode cX4_readAdvice 105 = .ok (.aload_n 1, 1) := by decide +kernel
theorem dX4_readAdvice_106 : decode cX4_readAdvice 106 = .ok (.iload_n 2, 1) := by decide +kernel
theorem dX4_readAdvice_107 : decode cX4_readAdvice 107 = .ok (.iconst 4, 1) := by decide +kernel
theorem dX4_readAdvice_108 : decode cX4_readAdvice 108 = .ok (.aload_n 0, 1) := by decide +kernel
theorem dX4_readAdvice_109 : decode cX4_readAdvice 109 = .ok (.iconst 0, 1) := by decide +kernel
theorem dX4_readAdvice_110 : decode cX4_readAdvice 110 = .ok (.bipush 6, 2) := by decide +kernel
theorem dX4_readAdvice_112 : decode cX4_readAdvice 112 = .ok (.invokevirtual 65, 3) := by decide +kernel
theorem dX4_readAdvice_115 : decode cX4_readAdvice 115 = .ok (.invokevirtual 92, 3) := by decide +kernel
theorem dX4_readAdvice_118 : decode cX4_readAdvice 118 = .ok (.aload_n 0, 1) := by decide +kernel
theorem dX4_readAdvice_119 : decode cX4_readAdvice 119 = .ok (.bipush 59, 2) := by decide +kernel
theorem dX4_readAdvice_121 : decode cX4_readAdvice 121 = .ok (.invokevirtual 76, 3) := by decide +kernel
theorem dX4_readAdvice_124 : decode cX4_readAdvice 124 = .ok (.return_, 1) := by decide +kernel
theorem dX4_readNumber_0 : decode cX4_readNumber 0 = .ok (.aload_n 0, 1) := by decide +kernel
theorem dX4_readNumber_1 : decode cX4_readNumber 1 = .ok (.getfield 31, 3) := by decide +kernel
theorem dX4_readNumber_4 : decode cX4_readNumber 4 = .ok (.ifCond .eq 5, 3) := by decide +kernel
theorem dX4_readNumber_7 : decode cX4_readNumber 7 = .ok (.iload_n 1, 1) := by decide +kernel
theorem dX4_readNumber_8 : decode cX4_readNumber 8 = .ok (.ireturn, 1) := by decide +kernel
theorem dX4_readNumber_9 : decode cX4_readNumber 9 = .ok (.aload_n 0, 1) := by decide +kernel
theorem dX4_readNumber_10 : decode cX4_readNumber 10 = .ok (.getfield 25, 3) := by decide +kernel
theorem dX4_readNumber_13 : decode cX4_readNumber 13 = .ok (.iconst (-1), 1) := by decide +kernel
theorem dX4_readNumber_14 : decode cX4_readNumber 14 = .ok (.if_icmp .eq 10, 3) := by decide +kernel
theorem dX4_readNumber_17 : decode cX4_readNumber 17 = .ok (.aload_n 0, 1) := by decide +kernel
theorem dX4_readNumber_18 : decode cX4_readNumber 18 = .ok (.iconst 1, 1) := by decide +kernel
theorem dX4_readNumber_19 : decode cX4_readNumber 19 = .ok (.invokevirtual 53, 3) := by decide +kernel
theorem dX4_readNumber_22 : decode cX4_readNumber 22 = .ok (.iload_n 1, 1) := by decide +kernel
theorem dX4_readNumber_23 : decode cX4_readNumber 23 = .ok (.ireturn, 1) := by decide +kernel
theorem dX4_readNumber_24 : decode cX4_readNumber 24 = .ok (.aload_n 0, 1) := by decide +kernel
theorem dX4_readNumber_25 : decode cX4_readNumber 25 = .ok (.getfield 28, 3) := by decide +kernel
theorem dX4_readNumber_28 : decode cX4_readNumber 28 = .ok (.iload_n 1, 1) := by decide +kernel
theorem dX4_readNumber_29 : decode cX4_readNumber 29 = .ok (.iload_n 2, 1) := by decide +kernel
theorem dX4_readNumber_30 : decode cX4_readNumber 30 = .ok (.invokestatic 96, 3) := by decide +kernel
theorem dX4_readNumber_33 : decode cX4_readNumber 33 = .ok (.ifCond .ne 10, 3) := by decide +kernel
theorem dX4_readNumber_36 : decode cX4_readNumber 36 = .ok (.aload_n 0, 1) := by decide +kernel
theorem dX4_readNumber_37 : decode cX4_readNumber 37 = .ok (.iconst 2, 1) := by decide +kernel
theorem dX4_readNumber_38 : decode cX4_readNumber 38 = .ok (.invokevirtual 53, 3) := by decide +kernel
theorem dX4_readNumber_41 : decode cX4_readNumber 41 = .ok (.iload_n 1, 1) := by decide +kernel
theorem dX4_readNumber_42 : decode cX4_readNumber 42 = .ok (.ireturn, 1) := by decide +kernel
theorem dX4_readNumber_43 : decode cX4_readNumber 43 = .ok (.aload_n 0, 1) := by decide +kernel
theorem dX4_readNumber_44 : decode cX4_readNumber 44 = .ok (.getfield 28, 3) := by decide +kernel
theorem dX4_readNumber_47 : decode cX4_readNumber 47 = .ok (.istore_n 3, 1) := by decide +kernel
theorem dX4_readNumber_48 : decode cX4_readNumber 48 = .ok (.aload_n 0, 1) := by decide +kernel
theorem dX4_readNumber_49 : decode cX4_readNumber 49 = .ok (.invokevirtual 39, 3) := by decide +kernel
theorem dX4_readNumber_52 : decode cX4_readNumber 52 = .ok (.iload_n 3, 1) := by decide +kernel
theorem dX4_readNumber_53 : decode cX4_readNumber 53 = .ok (.ireturn, 1) := by decide +kernel
theorem dX4_skip_0 : decode cX4_skip 0 = .ok (.aload_n 0, 1) := by decide +kernel
theorem dX4_skip_1 : decode cX4_skip 1 = .ok (.getfield 31, 3) := by decide +kernel
theorem dX4_skip_4 : decode cX4_skip 4 = .ok (.ifCond .eq 4, 3) := by decide +kernel
theorem dX4_skip_7 : decode cX4_skip 7 = .ok (.return_, 1) := by decide +kernel
theorem dX4_skip_8 : decode cX4_skip 8 = .ok (.aload_n 0, 1) := by decide +kernel
theorem dX4_skip_9 : decode cX4_skip 9 = .ok (.getfield 25, 3) := by decide +kernel
theorem dX4_skip_12 : decode cX4_skip 12 = .ok (.iload_n 1, 1) := by decide +kernel
theorem dX4_skip_13 : decode cX4_skip 13 = .ok (.if_icmp .ne 10, 3) := by decide +kernel
theorem dX4_skip_16 : decode cX4_skip 16 = .ok (.aload_n 0, 1) := by decide +kernel
theorem dX4_skip_17 : decode cX4_skip 17 = .ok (.invokevirtual 39, 3) := by decide +kernel
theorem dX4_skip_20 : decode cX4_skip 20 = .ok (.goto 8, 3) := by decide +kernel
theorem dX4_skip_23 : decode cX4_skip 23 = .ok (.aload_n 0, 1) := by decide +kernel
theorem dX4_skip_24 : decode cX4_skip 24 = .ok (.iconst 1, 1) := by decide +kernel
theorem dX4_skip_25 : decode cX4_skip 25 = .ok (.invokevirtual 53, 3) := by decide +kernel
theorem dX4_skip_28 : decode cX4_skip 28 = .ok (.return_, 1) := by decide +kernel
theorem dX4_faultBy_0 : decode cX4_faultBy 0 = .ok (.aload_n 0, 1) := by decide +kernel
theorem dX4_faultBy_1 : decode cX4_faultBy 1 = .ok (.getfield 31, 3) := by decide +kernel
theorem dX4_faultBy_4 : decode cX4_faultBy 4 = .ok (.ifCond .ne 8, 3) := by decide +kernel
theorem dX4_faultBy_7 : decode cX4_faultBy 7 = .ok (.aload_n 0, 1) := by decide +kernel
theorem dX4_faultBy_8 : decode cX4_faultBy 8 = .ok (.iload_n 1, 1) := by decide +kernel
theorem dX4_faultBy_9 : decode cX4_faultBy 9 = .ok (.putfield 31, 3) := by decide +kernel
theorem dX4_faultBy_12 : decode cX4_faultBy 12 = .ok (.return_, 1) := by decide +kernel
theorem dX4_step_0 : decode cX4_step 0 = .ok (.aload_n 0, 1) := by decide +kernel
theorem dX4_step_1 : decode cX4_step 1 = .ok (.aload_n 0, 1) := by decide +kernel
theorem dX4_step_2 : decode cX4_step 2 = .ok (.getfield 22, 3) := by decide +kernel
theorem dX4_step_5 : decode cX4_step 5 = .ok (.putfield 19, 3) := by decide +kernel
theorem dX4_step_8 : decode cX4_step 8 = .ok (.aload_n 0, 1) := by decide +kernel
theorem dX4_step_9 : decode cX4_step 9 = .ok (.iconst 0, 1) := by decide +kernel
theorem dX4_step_10 : decode cX4_step 10 = .ok (.putfield 28, 3) := by decide +kernel
theorem dX4_step_13 : decode cX4_step 13 = .ok (.aload_n 0, 1) := by decide +kernel
theorem dX4_step_14 : decode cX4_step 14 = .ok (.getfield 22, 3) := by decide +kernel
theorem dX4_step_17 : decode cX4_step 17 = .ok (.aload_n 0, 1) := by decide +kernel
theorem dX4_step_18 : decode cX4_step 18 = .ok (.getfield 15, 3) := by decide +kernel
theorem dX4_step_21 : decode cX4_step 21 = .ok (.if_icmp .ge 55, 3) := by decide +kernel
theorem dX4_step_24 : decode cX4_step 24 = .ok (.aload_n 0, 1) := by decide +kernel
theorem dX4_step_25 : decode cX4_step 25 = .ok (.getfield 9, 3) := by decide +kernel
theorem dX4_step_28 : decode cX4_step 28 = .ok (.aload_n 0, 1) := by decide +kernel
theorem dX4_step_29 : decode cX4_step 29 = .ok (.getfield 22, 3) := by decide +kernel
theorem dX4_step_32 : decode cX4_step 32 = .ok (.iaload, 1) := by decide +kernel
theorem dX4_step_33 : decode cX4_step 33 = .ok (.invokestatic 100, 3) := by decide +kernel
theorem dX4_step_36 : decode cX4_step 36 = .ok (.ifCond .eq 40, 3) := by decide +kernel
theorem dX4_step_39 : decode cX4_step 39 = .ok (.aload_n 0, 1) := by decide +kernel
theorem dX4_step_40 : decode cX4_step 40 = .ok (.aload_n 0, 1) := by decide +kernel
theorem dX4_step_41 : decode cX4_step 41 = .ok (.getfield 28, 3) := by decide +kernel
theorem dX4_step_44 : decode cX4_step 44 = .ok (.bipush 10, 2) := by decide +kernel
theorem dX4_step_46 : decode cX4_step 46 = .ok (.imul, 1) := by decide +kernel
theorem dX4_step_47 : decode cX4_step 47 = .ok (.aload_n 0, 1) := by decide +kernel
theorem dX4_step_48 : decode cX4_step 48 = .ok (.getfield 9, 3) := by decide +kernel
theorem dX4_step_51 : decode cX4_step 51 = .ok (.aload_n 0, 1) := by decide +kernel
theorem dX4_step_52 : decode cX4_step 52 = .ok (.getfield 22, 3) := by decide +kernel
theorem dX4_step_55 : decode cX4_step 55 = .ok (.iaload, 1) := by decide +kernel
theorem dX4_step_56 : decode cX4_step 56 = .ok (.iadd, 1) := by decide +kernel
theorem dX4_step_57 : decode cX4_step 57 = .ok (.bipush 48, 2) := by decide +kernel
theorem dX4_step_59 : decode cX4_step 59 = .ok (.isub, 1) := by decide +kernel
theorem dX4_step_60 : decode cX4_step 60 = .ok (.putfield 28, 3) := by decide +kernel
theorem dX4_step_63 : decode cX4_step 63 = .ok (.aload_n 0, 1) := by decide +kernel
theorem dX4_step_64 : decode cX4_step 64 = .ok (.dup, 1) := by decide +kernel
theorem dX4_step_65 : decode cX4_step 65 = .ok (.getfield 22, 3) := by decide +kernel
theorem dX4_step_68 : decode cX4_step 68 = .ok (.iconst 1, 1) := by decide +kernel
theorem dX4_step_69 : decode cX4_step 69 = .ok (.iadd, 1) := by decide +kernel
theorem dX4_step_70 : decode cX4_step 70 = .ok (.putfield 22, 3) := by decide +kernel
theorem dX4_step_73 : decode cX4_step 73 = .ok (.goto (-60), 3) := by decide +kernel
theorem dX4_step_76 : decode cX4_step 76 = .ok (.aload_n 0, 1) := by decide +kernel
theorem dX4_step_77 : decode cX4_step 77 = .ok (.getfield 22, 3) := by decide +kernel
theorem dX4_step_80 : decode cX4_step 80 = .ok (.aload_n 0, 1) := by decide +kernel
theorem dX4_step_81 : decode cX4_step 81 = .ok (.getfield 19, 3) := by decide +kernel
theorem dX4_step_84 : decode cX4_step 84 = .ok (.if_icmp .le 29, 3) := by decide +kernel
theorem dX4_step_87 : decode cX4_step 87 = .ok (.aload_n 0, 1) := by decide +kernel
theorem dX4_step_88 : decode cX4_step 88 = .ok (.aload_n 0, 1) := by decide +kernel
theorem dX4_step_89 : decode cX4_step 89 = .ok (.getfield 22, 3) := by decide +kernel
theorem dX4_step_92 : decode cX4_step 92 = .ok (.aload_n 0, 1) := by decide +kernel
theorem dX4_step_93 : decode cX4_step 93 = .ok (.getfield 19, 3) := by decide +kernel
theorem dX4_step_96 : decode cX4_step 96 = .ok (.isub, 1) := by decide +kernel
theorem dX4_step_97 : decode cX4_step 97 = .ok (.iconst 2, 1) := by decide +kernel
theorem dX4_step_98 : decode cX4_step 98 = .ok (.if_icmp .le 8, 3) := by decide +kernel
theorem dX4_step_101 : decode cX4_step 101 = .ok (.bipush (-3), 2) := by decide +kernel
theorem dX4_step_103 : decode cX4_step 103 = .ok (.goto 4, 3) := by decide +kernel
theorem dX4_step_106 : decode cX4_step 106 = .ok (.iconst (-1), 1) := by decide +kernel
theorem dX4_step_107 : decode cX4_step 107 = .ok (.putfield 25, 3) := by decide +kernel
theorem dX4_step_110 : decode cX4_step 110 = .ok (.goto 66, 3) := by decide +kernel
theorem dX4_step_113 : decode cX4_step 113 = .ok (.aload_n 0, 1) := by decide +kernel
theorem dX4_step_114 : decode cX4_step 114 = .ok (.getfield 19, 3) := by decide +kernel
theorem dX4_step_117 : decode cX4_step 117 = .ok (.aload_n 0, 1) := by decide +kernel
theorem dX4_step_118 : decode cX4_step 118 = .ok (.getfield 15, 3) := by decide +kernel
theorem dX4_step_121 : decode cX4_step 121 = .ok (.if_icmp .lt 12, 3) := by decide +kernel
theorem dX4_step_124 : decode cX4_step 124 = .ok (.aload_n 0, 1) := by decide +kernel
theorem dX4_step_125 : decode cX4_step 125 = .ok (.bipush (-2), 2) := by decide +kernel
theorem dX4_step_127 : decode cX4_step 127 = .ok (.putfield 25, 3) := by decide +kernel
theorem dX4_step_130 : decode cX4_step 130 = .ok (.goto 46, 3) := by decide +kernel
theorem dX4_step_133 : decode cX4_step 133 = .ok (.aload_n 0, 1) := by decide +kernel
theorem dX4_step_134 : decode cX4_step 134 = .ok (.aload_n 0, 1) := by decide +kernel
theorem dX4_step_135 : decode cX4_step 135 = .ok (.getfield 9, 3) := by decide +kernel
theorem dX4_step_138 : decode cX4_step 138 = .ok (.aload_n 0, 1) := by decide +kernel
theorem dX4_step_139 : decode cX4_step 139 = .ok (.getfield 19, 3) := by decide +kernel
theorem dX4_step_142 : decode cX4_step 142 = .ok (.iaload, 1) := by decide +kernel
theorem dX4_step_143 : decode cX4_step 143 = .ok (.invokestatic 104, 3) := by decide +kernel
theorem dX4_step_146 : decode cX4_step 146 = .ok (.ifCond .eq 15, 3) := by decide +kernel
theorem dX4_step_149 : decode cX4_step 149 = .ok (.aload_n 0, 1) := by decide +kernel
theorem dX4_step_150 : decode cX4_step 150 = .ok (.getfield 9, 3) := by decide +kernel
theorem dX4_step_153 : decode cX4_step 153 = .ok (.aload_n 0, 1) := by decide +kernel
theorem dX4_step_154 : decode cX4_step 154 = .ok (.getfield 19, 3) := by decide +kernel
theorem dX4_step_157 : decode cX4_step 157 = .ok (.iaload, 1) := by decide +kernel
theorem dX4_step_158 : decode cX4_step 158 = .ok (.goto 5, 3) := by decide +kernel
theorem dX4_step_161 : decode cX4_step 161 = .ok (.bipush (-3), 2) := by decide +kernel
theorem dX4_step_163 : decode cX4_step 163 = .ok (.putfield 25, 3) := by decide +kernel
theorem dX4_step_166 : decode cX4_step 166 = .ok (.aload_n 0, 1) := by decide +kernel
theorem dX4_step_167 : decode cX4_step 167 = .ok (.dup, 1) := by decide +kernel
theorem dX4_step_168 : decode cX4_step 168 = .ok (.getfield 22, 3) := by decide +kernel
theorem dX4_step_171 : decode cX4_step 171 = .ok (.iconst 1, 1) := by decide +kernel
theorem dX4_step_172 : decode cX4_step 172 = .ok (.iadd, 1) := by decide +kernel
theorem dX4_step_173 : decode cX4_step 173 = .ok (.putfield 22, 3) := by decide +kernel
theorem dX4_step_176 : decode cX4_step 176 = .ok (.return_, 1) := by decide +kernel
theorem dX4_isFigure_0 : decode cX4_isFigure 0 = .ok (.iload_n 0, 1) := by decide +kernel
theorem dX4_isFigure_1 : decode cX4_isFigure 1 = .ok (.bipush 48, 2) := by decide +kernel
theorem dX4_isFigure_3 : decode cX4_isFigure 3 = .ok (.if_icmp .lt 13, 3) := by decide +kernel
theorem dX4_isFigure_6 : decode cX4_isFigure 6 = .ok (.iload_n 0, 1) := by decide +kernel
theorem dX4_isFigure_7 : decode cX4_isFigure 7 = .ok (.bipush 57, 2) := by decide +kernel
theorem dX4_isFigure_9 : decode cX4_isFigure 9 = .ok (.if_icmp .gt 7, 3) := by decide +kernel
theorem dX4_isFigure_12 : decode cX4_isFigure 12 = .ok (.iconst 1, 1) := by decide +kernel
theorem dX4_isFigure_13 : decode cX4_isFigure 13 = .ok (.goto 4, 3) := by decide +kernel
theorem dX4_isFigure_16 : decode cX4_isFigure 16 = .ok (.iconst 0, 1) := by decide +kernel
theorem dX4_isFigure_17 : decode cX4_isFigure 17 = .ok (.ireturn, 1) := by decide +kernel
theorem dX4_isLetterOrSign_0 : decode cX4_isLetterOrSign 0 = .ok (.iload_n 0, 1) := by decide +kernel
theorem dX4_isLetterOrSign_1 : decode cX4_isLetterOrSign 1 = .ok (.bipush 97, 2) := by decide +kernel
theorem dX4_isLetterOrSign_3 : decode cX4_isLetterOrSign 3 = .ok (.if_icmp .lt 9, 3) := by decide +kernel
theorem dX4_isLetterOrSign_6 : decode cX4_isLetterOrSign 6 = .ok (.iload_n 0, 1) := by decide +kernel
theorem dX4_isLetterOrSign_7 : decode cX4_isLetterOrSign 7 = .ok (.bipush 122, 2) := by decide +kernel
theorem dX4_isLetterOrSign_9 : decode cX4_isLetterOrSign 9 = .ok (.if_icmp .le 15, 3) := by decide +kernel
theorem dX4_isLetterOrSign_12 : decode cX4_isLetterOrSign 12 = .ok (.iload_n 0, 1) := by decide +kernel
theorem dX4_isLetterOrSign_13 : decode cX4_isLetterOrSign 13 = .ok (.bipush 44, 2) := by decide +kernel
theorem dX4_isLetterOrSign_15 : decode cX4_isLetterOrSign 15 = .ok (.if_icmp .eq 9, 3) := by decide +kernel
theorem dX4_isLetterOrSign_18 : decode cX4_isLetterOrSign 18 = .ok (.iload_n 0, 1) := by decide +kernel
theorem dX4_isLetterOrSign_19 : decode cX4_isLetterOrSign 19 = .ok (.bipush 59, 2) := by decide +kernel
theorem dX4_isLetterOrSign_21 : decode cX4_isLetterOrSign 21 = .ok (.if_icmp .ne 7, 3) := by decide +kernel
theorem dX4_isLetterOrSign_24 : decode cX4_isLetterOrSign 24 = .ok (.iconst 1, 1) := by decide +kernel
theorem dX4_isLetterOrSign_25 : decode cX4_isLetterOrSign 25 = .ok (.goto 4, 3) := by decide +kernel
theorem dX4_isLetterOrSign_28 : decode cX4_isLetterOrSign 28 = .ok (.iconst 0, 1) := by decide +kernel
theorem dX4_isLetterOrSign_29 : decode cX4_isLetterOrSign 29 = .ok (.ireturn, 1) := by decide +kernel
theorem dX4_sortOf_0 : decode cX4_sortOf 0 = .ok (.iload_n 0, 1) := by decide +kernel
theorem dX4_sortOf_1 : decode cX4_sortOf 1 = .ok (.tableswitch 37 99 102 #[33, 37, 31, 35], 31) := by decide +kernel
theorem dX4_sortOf_32 : decode cX4_sortOf 32 = .ok (.iconst 0, 1) := by decide +kernel
theorem dX4_sortOf_33 : decode cX4_sortOf 33 = .ok (.ireturn, 1) := by decide +kernel
theorem dX4_sortOf_34 : decode cX4_sortOf 34 = .ok (.iconst 1, 1) := by decide +kernel
theorem dX4_sortOf_35 : decode cX4_sortOf 35 = .ok (.ireturn, 1) := by decide +kernel
theorem dX4_sortOf_36 : decode cX4_sortOf 36 = .ok (.iconst 2, 1) := by decide +kernel
theorem dX4_sortOf_37 : decode cX4_sortOf 37 = .ok (.ireturn, 1) := by decide +kernel
theorem dX4_sortOf_38 : decode cX4_sortOf 38 = .ok (.iconst (-1), 1) := by decide +kernel
theorem dX4_sortOf_39 : decode cX4_sortOf 39 = .ok (.ireturn, 1) := by decide +kernel
theorem dX4_kindOf_0 : decode cX4_kindOf 0 = .ok (.iload_n 0, 1) := by decide +kernel
theorem dX4_kindOf_1 : decode cX4_kindOf 1 = .ok (.lookupswitch 61 #[(97, 51), (98, 59), (111, 57), (114, 53), (116, 55)], 51) := by decide +kernel
theorem dX4_kindOf_52 : decode cX4_kindOf 52 = .ok (.iconst 1, 1) := by decide +kernel
theorem dX4_kindOf_53 : decode cX4_kindOf 53 = .ok (.ireturn, 1) := by decide +kernel
theorem dX4_kindOf_54 : decode cX4_kindOf 54 = .ok (.iconst 2, 1) := by decide +kernel
theorem dX4_kindOf_55 : decode cX4_kindOf 55 = .ok (.ireturn, 1) := by decide +kernel
theorem dX4_kindOf_56 : decode cX4_kindOf 56 = .ok (.iconst 3, 1) := by decide +kernel
theorem dX4_kindOf_57 : decode cX4_kindOf 57 = .ok (.ireturn, 1) := by decide +kernel
theorem dX4_kindOf_58 : decode cX4_kindOf 58 = .ok (.iconst 4, 1) := by decide +kernel
theorem dX4_kindOf_59 : decode cX4_kindOf 59 = .ok (.ireturn, 1) := by decide +kernel
theorem dX4_kindOf_60 : decode cX4_kindOf 60 = .ok (.iconst 5, 1) := by decide +kernel
theorem dX4_kindOf_61 : decode cX4_kindOf 61 = .ok (.ireturn, 1) := by decide +kernel
theorem dX4_kindOf_62 : decode cX4_kindOf 62 = .ok (.iconst 0, 1) := by decide +kernel
theorem dX4_kindOf_63 : decode cX4_kindOf 63 = .ok (.ireturn, 1) := by decide +kernel
