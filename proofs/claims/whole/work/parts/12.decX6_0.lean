theorem dX6_init_0 : decode cX6_init 0 = .ok (.aload_n 0, 1) := by decide +kernel
theorem dX6_init_1 : decode cX6_init 1 = .ok (.invokespecial 1, 3) := by decide +kernel
theorem dX6_init_4 : decode cX6_init 4 = .ok (.aload_n 0, 1) := by decide +kernel
theorem dX6_init_5 : decode cX6_init 5 = .ok (.bipush 8, 2) := by decide +kernel
theorem dX6_init_7 : decode cX6_init 7 = .ok (.anewarray 9, 3) := by decide +kernel
theorem dX6_init_10 : decode cX6_init 10 = .ok (.putfield 11, 3) := by decide +kernel
theorem dX6_init_13 : decode cX6_init 13 = .ok (.aload_n 0, 1) := by decide +kernel
theorem dX6_init_14 : decode cX6_init 14 = .ok (.new 15, 3) := by decide +kernel
theorem dX6_init_17 : decode cX6_init 17 = .ok (.dup, 1) := by decide +kernel
theorem dX6_init_18 : decode cX6_init 18 = .ok (.invokespecial 17, 3) := by decide +kernel
theorem dX6_init_21 : decode cX6_init 21 = .ok (.putfield 18, 3) := by decide +kernel
theorem dX6_init_24 : decode cX6_init 24 = .ok (.aload_n 0, 1) := by decide +kernel
theorem dX6_init_25 : decode cX6_init 25 = .ok (.new 22, 3) := by decide +kernel
theorem dX6_init_28 : decode cX6_init 28 = .ok (.dup, 1) := by decide +kernel
theorem dX6_init_29 : decode cX6_init 29 = .ok (.invokespecial 24, 3) := by decide +kernel
theorem dX6_init_32 : decode cX6_init 32 = .ok (.putfield 25, 3) := by decide +kernel
theorem dX6_init_35 : decode cX6_init 35 = .ok (.aload_n 0, 1) := by decide +kernel
theorem dX6_init_36 : decode cX6_init 36 = .ok (.new 22, 3) := by decide +kernel
theorem dX6_init_39 : decode cX6_init 39 = .ok (.dup, 1) := by decide +kernel
theorem dX6_init_40 : decode cX6_init 40 = .ok (.invokespecial 24, 3) := by decide +kernel
theorem dX6_init_43 : decode cX6_init 43 = .ok (.putfield 29, 3) := by decide +kernel
theorem dX6_init_46 : decode cX6_init 46 = .ok (.aload_n 0, 1) := by decide +kernel
theorem dX6_init_47 : decode cX6_init 47 = .ok (.iconst 2, 1) := by decide +kernel
theorem dX6_init_48 : decode cX6_init 48 = .ok (.anewarray 22, 3) := by decide +kernel
theorem dX6_init_51 : decode cX6_init 51 = .ok (.putfield 32, 3) := by decide +kernel
theorem dX6_init_54 : decode cX6_init 54 = .ok (.aload_n 0, 1) := by decide +kernel
theorem dX6_init_55 : decode cX6_init 55 = .ok (.new 36, 3) := by decide +kernel
theorem dX6_init_58 : decode cX6_init 58 = .ok (.dup, 1) := by decide +kernel
theorem dX6_init_59 : decode cX6_init 59 = .ok (.invokespecial 38, 3) := by decide +kernel
theorem dX6_init_62 : decode cX6_init 62 = .ok (.putfield 39, 3) := by decide +kernel
theorem dX6_init_65 : decode cX6_init 65 = .ok (.aload_n 0, 1) := by decide +kernel
theorem dX6_init_66 : decode cX6_init 66 = .ok (.new 43, 3) := by decide +kernel
theorem dX6_init_69 : decode cX6_init 69 = .ok (.dup, 1) := by decide +kernel
theorem dX6_init_70 : decode cX6_init 70 = .ok (.aload_n 0, 1) := by decide +kernel
theorem dX6_init_71 : decode cX6_init 71 = .ok (.getfield 25, 3) := by decide +kernel
theorem dX6_init_74 : decode cX6_init 74 = .ok (.invokespecial 45, 3) := by decide +kernel
theorem dX6_init_77 : decode cX6_init 77 = .ok (.putfield 48, 3) := by decide +kernel
theorem dX6_init_80 : decode cX6_init 80 = .ok (.aload_n 0, 1) := by decide +kernel
theorem dX6_init_81 : decode cX6_init 81 = .ok (.new 52, 3) := by decide +kernel
theorem dX6_init_84 : decode cX6_init 84 = .ok (.dup, 1) := by decide +kernel
theorem dX6_init_85 : decode cX6_init 85 = .ok (.aload_n 0, 1) := by decide +kernel
theorem dX6_init_86 : decode cX6_init 86 = .ok (.getfield 25, 3) := by decide +kernel
theorem dX6_init_89 : decode cX6_init 89 = .ok (.invokespecial 54, 3) := by decide +kernel
theorem dX6_init_92 : decode cX6_init 92 = .ok (.putfield 55, 3) := by decide +kernel
theorem dX6_init_95 : decode cX6_init 95 = .ok (.aload_n 0, 1) := by decide +kernel
theorem dX6_init_96 : decode cX6_init 96 = .ok (.iconst 0, 1) := by decide +kernel
theorem dX6_init_97 : decode cX6_init 97 = .ok (.putfield 59, 3) := by decide +kernel
theorem dX6_init_100 : decode cX6_init 100 = .ok (.aload_n 0, 1) := by decide +kernel
theorem dX6_init_101 : decode cX6_init 101 = .ok (.iconst 0, 1) := by decide +kernel
theorem dX6_init_102 : decode cX6_init 102 = .ok (.putfield 63, 3) := by decide +kernel
theorem dX6_init_105 : decode cX6_init 105 = .ok (.iconst 0, 1) := by decide +kernel
theorem dX6_init_106 : decode cX6_init 106 = .ok (.istore_n 1, 1) := by decide +kernel
theorem dX6_init_107 : decode cX6_init 107 = .ok (.iload_n 1, 1) := by decide +kernel
theorem dX6_init_108 : decode cX6_init 108 = .ok (.bipush 8, 2) := by decide +kernel
theorem dX6_init_110 : decode cX6_init 110 = .ok (.if_icmp .ge 22, 3) := by decide +kernel
theorem dX6_init_113 : decode cX6_init 113 = .ok (.aload_n 0, 1) := by decide +kernel
theorem dX6_init_114 : decode cX6_init 114 = .ok (.getfield 11, 3) := by decide +kernel
theorem dX6_init_117 : decode cX6_init 117 = .ok (.iload_n 1, 1) := by decide +kernel
theorem dX6_init_118 : decode cX6_init 118 = .ok (.new 9, 3) := by decide +kernel
theorem dX6_init_121 : decode cX6_init 121 = .ok (.dup, 1) := by decide +kernel
theorem dX6_init_122 : decode cX6_init 122 = .ok (.invokespecial 66, 3) := by decide +kernel
theorem dX6_init_125 : decode cX6_init 125 = .ok (.aastore, 1) := by decide +kernel
theorem dX6_init_126 : decode cX6_init 126 = .ok (.iinc 1 1, 3) := by decide +kernel
theorem dX6_init_129 : decode cX6_init 129 = .ok (.goto (-22), 3) := by decide +kernel
theorem dX6_init_132 : decode cX6_init 132 = .ok (.iconst 0, 1) := by decide +kernel
theorem dX6_init_133 : decode cX6_init 133 = .ok (.istore_n 1, 1) := by decide +kernel
theorem dX6_init_134 : decode cX6_init 134 = .ok (.iload_n 1, 1) := by decide +kernel
theorem dX6_init_135 : decode cX6_init 135 = .ok (.iconst 2, 1) := by decide +kernel
theorem dX6_init_136 : decode cX6_init 136 = .ok (.if_icmp .ge 22, 3) := by decide +kernel
theorem dX6_init_139 : decode cX6_init 139 = .ok (.aload_n 0, 1) := by decide +kernel
theorem dX6_init_140 : decode cX6_init 140 = .ok (.getfield 32, 3) := by decide +kernel
theorem dX6_init_143 : decode cX6_init 143 = .ok (.iload_n 1, 1) := by decide +kernel
theorem dX6_init_144 : decode cX6_init 144 = .ok (.new 22, 3) := by decide +kernel
theorem dX6_init_147 : decode cX6_init 147 = .ok (.dup, 1) := by decide +kernel
theorem dX6_init_148 : decode cX6_init 148 = .ok (.invokespecial 24, 3) := by decide +kernel
theorem dX6_init_151 : decode cX6_init 151 = .ok (.aastore, 1) := by decide +kernel
theorem dX6_init_152 : decode cX6_init 152 = .ok (.iinc 1 1, 3) := by decide +kernel
theorem dX6_init_155 : decode cX6_init 155 = .ok (.goto (-21), 3) := by decide +kernel
theorem dX6_init_158 : decode cX6_init 158 = .ok (.return_, 1) := by decide +kernel
theorem dX6_row_0 : decode cX6_row 0 = .ok (.iload_n 1, 1) := by decide +kernel
theorem dX6_row_1 : decode cX6_row 1 = .ok (.invokestatic 67, 3) := by decide +kernel
theorem dX6_row_4 : decode cX6_row 4 = .ok (.ifCond .eq 18, 3) := by decide +kernel
theorem dX6_row_7 : decode cX6_row 7 = .ok (.iload_n 2, 1) := by decide +kernel
theorem dX6_row_8 : decode cX6_row 8 = .ok (.iconst 0, 1) := by decide +kernel
theorem dX6_row_9 : decode cX6_row 9 = .ok (.iconst 2, 1) := by decide +kernel
theorem dX6_row_10 : decode cX6_row 10 = .ok (.invokestatic 71, 3) := by decide +kernel
theorem dX6_row_13 : decode cX6_row 13 = .ok (.ifCond .eq 9, 3) := by decide +kernel
theorem dX6_row_16 : decode cX6_row 16 = .ok (.iload_n 3, 1) := by decide +kernel
theorem dX6_row_17 : decode cX6_row 17 = .ok (.bipush 40, 2) := by decide +kernel
theorem dX6_row_19 : decode cX6_row 19 = .ok (.if_icmp .le 6, 3) := by decide +kernel
theorem dX6_row_22 : decode cX6_row 22 = .ok (.ldc 75, 2) := by decide +kernel
theorem dX6_row_24 : decode cX6_row 24 = .ok (.ireturn, 1) := by decide +kernel
theorem dX6_row_25 : decode cX6_row 25 = .ok (.iload_n 3, 1) := by decide +kernel
theorem dX6_row_26 : decode cX6_row 26 = .ok (.ifCond .ge 9, 3) := by decide +kernel
theorem dX6_row_29 : decode cX6_row 29 = .ok (.aload_n 0, 1) := by decide +kernel
theorem dX6_row_30 : decode cX6_row 30 = .ok (.iconst 4, 1) := by decide +kernel
theorem dX6_row_31 : decode cX6_row 31 = .ok (.invokevirtual 76, 3) := by decide +kernel
theorem dX6_row_34 : decode cX6_row 34 = .ok (.ireturn, 1) := by decide +kernel
theorem dX6_row_35 : decode cX6_row 35 = .ok (.aload_n 0, 1) := by decide +kernel
theorem dX6_row_36 : decode cX6_row 36 = .ok (.getfield 11, 3) := by decide +kernel
theorem dX6_row_39 : decode cX6_row 39 = .ok (.iload_n 1, 1) := by decide +kernel
theorem dX6_row_40 : decode cX6_row 40 = .ok (.aaload, 1) := by decide +kernel
theorem dX6_row_41 : decode cX6_row 41 = .ok (.iload_n 2, 1) := by decide +kernel
theorem dX6_row_42 : decode cX6_row 42 = .ok (.iload_n 3, 1) := by decide +kernel
theorem dX6_row_43 : decode cX6_row 43 = .ok (.invokevirtual 80, 3) := by decide +kernel
theorem dX6_row_46 : decode cX6_row 46 = .ok (.aload_n 0, 1) := by decide +kernel
theorem dX6_row_47 : decode cX6_row 47 = .ok (.iload_n 3, 1) := by decide +kernel
theorem dX6_row_48 : decode cX6_row 48 = .ok (.invokevirtual 84, 3) := by decide +kernel
theorem dX6_row_51 : decode cX6_row 51 = .ok (.ireturn, 1) := by decide +kernel
theorem dX6_set_0 : decode cX6_set 0 = .ok (.iload_n 1, 1) := by decide +kernel
theorem dX6_set_1 : decode cX6_set 1 = .ok (.invokestatic 67, 3) := by decide +kernel
theorem dX6_set_4 : decode cX6_set 4 = .ok (.ifCond .ne 6, 3) := by decide +kernel
theorem dX6_set_7 : decode cX6_set 7 = .ok (.ldc 75, 2) := by decide +kernel
theorem dX6_set_9 : decode cX6_set 9 = .ok (.ireturn, 1) := by decide +kernel
theorem dX6_set_10 : decode cX6_set 10 = .ok (.aload_n 0, 1) := by decide +kernel
theorem dX6_set_11 : decode cX6_set 11 = .ok (.getfield 11, 3) := by decide +kernel
theorem dX6_set_14 : decode cX6_set 14 = .ok (.iload_n 1, 1) := by decide +kernel
theorem dX6_set_15 : decode cX6_set 15 = .ok (.aaload, 1) := by decide +kernel
theorem dX6_set_16 : decode cX6_set 16 = .ok (.invokevirtual 87, 3) := by decide +kernel
theorem dX6_set_19 : decode cX6_set 19 = .ok (.ifCond .eq 9, 3) := by decide +kernel
theorem dX6_set_22 : decode cX6_set 22 = .ok (.aload_n 0, 1) := by decide +kernel
theorem dX6_set_23 : decode cX6_set 23 = .ok (.iconst 1, 1) := by decide +kernel
theorem dX6_set_24 : decode cX6_set 24 = .ok (.invokevirtual 76, 3) := by decide +kernel
theorem dX6_set_27 : decode cX6_set 27 = .ok (.ireturn, 1) := by decide +kernel
theorem dX6_set_28 : decode cX6_set 28 = .ok (.iload_n 2, 1) := by decide +kernel
theorem dX6_set_29 : decode cX6_set 29 = .ok (.ifCond .lt 16, 3) := by decide +kernel
theorem dX6_set_32 : decode cX6_set 32 = .ok (.iload_n 2, 1) := by decide +kernel
theorem dX6_set_33 : decode cX6_set 33 = .ok (.aload_n 0, 1) := by decide +kernel
theorem dX6_set_34 : decode cX6_set 34 = .ok (.getfield 11, 3) := by decide +kernel
theorem dX6_set_37 : decode cX6_set 37 = .ok (.iload_n 1, 1) := by decide +kernel
theorem dX6_set_38 : decode cX6_set 38 = .ok (.aaload, 1) := by decide +kernel
theorem dX6_set_39 : decode cX6_set 39 = .ok (.invokevirtual 91, 3) := by decide +kernel
theorem dX6_set_42 : decode cX6_set 42 = .ok (.if_icmp .lt 9, 3) := by decide +kernel
theorem dX6_set_45 : decode cX6_set 45 = .ok (.aload_n 0, 1) := by decide +kernel
theorem dX6_set_46 : decode cX6_set 46 = .ok (.iconst 2, 1) := by decide +kernel
theorem dX6_set_47 : decode cX6_set 47 = .ok (.invokevirtual 76, 3) := by decide +kernel
theorem dX6_set_50 : decode cX6_set 50 = .ok (.ireturn, 1) := by decide +kernel
theorem dX6_set_51 : decode cX6_set 51 = .ok (.aload_n 0, 1) := by decide +kernel
theorem dX6_set_52 : decode cX6_set 52 = .ok (.aload_n 0, 1) := by decide +kernel
theorem dX6_set_53 : decode cX6_set 53 = .ok (.getfield 11, 3) := by decide +kernel
theorem dX6_set_56 : decode cX6_set 56 = .ok (.iload_n 1, 1) := by decide +kernel
theorem dX6_set_57 : decode cX6_set 57 = .ok (.aaload, 1) := by decide +kernel
theorem dX6_set_58 : decode cX6_set 58 = .ok (.iload_n 2, 1) := by decide +kernel
theorem dX6_set_59 : decode cX6_set 59 = .ok (.iload_n 3, 1) := by decide +kernel
theorem dX6_set_60 : decode cX6_set 60 = .ok (.invokevirtual 95, 3) := by decide +kernel
theorem dX6_set_63 : decode cX6_set 63 = .ok (.invokevirtual 84, 3) := by decide +kernel
theorem dX6_set_66 : decode cX6_set 66 = .ok (.ireturn, 1) := by decide +kernel
theorem dX6_copy_0 : decode cX6_copy 0 = .ok (.iload_n 1, 1) := by decide +kernel
theorem dX6_copy_1 : decode cX6_copy 1 = .ok (.invokestatic 67, 3) := by decide +kernel
theorem dX6_copy_4 : decode cX6_copy 4 = .ok (.ifCond .eq 10, 3) := by decide +kernel
theorem dX6_copy_7 : decode cX6_copy 7 = .ok (.iload_n 3, 1) := by decide +kernel
theorem dX6_copy_8 : decode cX6_copy 8 = .ok (.invokestatic 67, 3) := by decide +kernel
theorem dX6_copy_11 : decode cX6_copy 11 = .ok (.ifCond .ne 6, 3) := by decide +kernel
theorem dX6_copy_14 : decode cX6_copy 14 = .ok (.ldc 75, 2) := by decide +kernel
theorem dX6_copy_16 : decode cX6_copy 16 = .ok (.ireturn, 1) := by decide +kernel
theorem dX6_copy_17 : decode cX6_copy 17 = .ok (.aload_n 0, 1) := by decide +kernel
theorem dX6_copy_18 : decode cX6_copy 18 = .ok (.getfield 11, 3) := by decide +kernel
theorem dX6_copy_21 : decode cX6_copy 21 = .ok (.iload_n 1, 1) := by decide +kernel
theorem dX6_copy_22 : decode cX6_copy 22 = .ok (.aaload, 1) := by decide +kernel
theorem dX6_copy_23 : decode cX6_copy 23 = .ok (.invokevirtual 87, 3) := by decide +kernel
theorem dX6_copy_26 : decode cX6_copy 26 = .ok (.ifCond .ne 15, 3) := by decide +kernel
theorem dX6_copy_29 : decode cX6_copy 29 = .ok (.aload_n 0, 1) := by decide +kernel
theorem dX6_copy_30 : decode cX6_copy 30 = .ok (.getfield 11, 3) := by decide +kernel
theorem dX6_copy_33 : decode cX6_copy 33 = .ok (.iload_n 3, 1) := by decide +kernel
theorem dX6_copy_34 : decode cX6_copy 34 = .ok (.aaload, 1) := by decide +kernel
theorem dX6_copy_35 : decode cX6_copy 35 = .ok (.invokevirtual 87, 3) := by decide +kernel
theorem dX6_copy_38 : decode cX6_copy 38 = .ok (.ifCond .eq 9, 3) := by decide +kernel
theorem dX6_copy_41 : decode cX6_copy 41 = .ok (.aload_n 0, 1) := by decide +kernel
theorem dX6_copy_42 : decode cX6_copy 42 = .ok (.iconst 1, 1) := by decide +kernel
theorem dX6_copy_43 : decode cX6_copy 43 = .ok (.invokevirtual 76, 3) := by decide +kernel
theorem dX6_copy_46 : decode cX6_copy 46 = .ok (.ireturn, 1) := by decide +kernel
theorem dX6_copy_47 : decode cX6_copy 47 = .ok (.aload_n 0, 1) := by decide +kernel
theorem dX6_copy_48 : decode cX6_copy 48 = .ok (.getfield 11, 3) := by decide +kernel
theorem dX6_copy_51 : decode cX6_copy 51 = .ok (.iload_n 1, 1) := by decide +kernel
theorem dX6_copy_52 : decode cX6_copy 52 = .ok (.aaload, 1) := by decide +kernel
theorem dX6_copy_53 : decode cX6_copy 53 = .ok (.invokevirtual 99, 3) := by decide +kernel
theorem dX6_copy_56 : decode cX6_copy 56 = .ok (.aload_n 0, 1) := by decide +kernel
theorem dX6_copy_57 : decode cX6_copy 57 = .ok (.getfield 11, 3) := by decide +kernel
theorem dX6_copy_60 : decode cX6_copy 60 = .ok (.iload_n 3, 1) := by decide +kernel
theorem dX6_copy_61 : decode cX6_copy 61 = .ok (.aaload, 1) := by decide +kernel
theorem dX6_copy_62 : decode cX6_copy 62 = .ok (.invokevirtual 99, 3) := by decide +kernel
theorem dX6_copy_65 : decode cX6_copy 65 = .ok (.if_icmp .eq 9, 3) := by decide +kernel
theorem dX6_copy_68 : decode cX6_copy 68 = .ok (.aload_n 0, 1) := by decide +kernel
theorem dX6_copy_69 : decode cX6_copy 69 = .ok (.iconst 5, 1) := by decide +kernel
theorem dX6_copy_70 : decode cX6_copy 70 = .ok (.invokevirtual 76, 3) := by decide +kernel
theorem dX6_copy_73 : decode cX6_copy 73 = .ok (.ireturn, 1) := by decide +kernel
theorem dX6_copy_74 : decode cX6_copy 74 = .ok (.aload_n 0, 1) := by decide +kernel
theorem dX6_copy_75 : decode cX6_copy 75 = .ok (.getfield 11, 3) := by decide +kernel
theorem dX6_copy_78 : decode cX6_copy 78 = .ok (.iload_n 1, 1) := by decide +kernel
theorem dX6_copy_79 : decode cX6_copy 79 = .ok (.aaload, 1) := by decide +kernel
theorem dX6_copy_80 : decode cX6_copy 80 = .ok (.iload_n 2, 1) := by decide +kernel
theorem dX6_copy_81 : decode cX6_copy 81 = .ok (.iload 5, 2) := by decide +kernel
theorem dX6_copy_83 : decode cX6_copy 83 = .ok (.invokevirtual 102, 3) := by decide +kernel
theorem dX6_copy_86 : decode cX6_copy 86 = .ok (.ifCond .eq 19, 3) := by decide +kernel
theorem dX6_copy_89 : decode cX6_copy 89 = .ok (.aload_n 0, 1) := by decide +kernel
theorem dX6_copy_90 : decode cX6_copy 90 = .ok (.getfield 11, 3) := by decide +kernel
theorem dX6_copy_93 : decode cX6_copy 93 = .ok (.iload_n 3, 1) := by decide +kernel
theorem dX6_copy_94 : decode cX6_copy 94 = .ok (.aaload, 1) := by decide +kernel
theorem dX6_copy_95 : decode cX6_copy 95 = .ok (.iload 4, 2) := by decide +kernel
theorem dX6_copy_97 : decode cX6_copy 97 = .ok (.iload 5, 2) := by decide +kernel
theorem dX6_copy_99 : decode cX6_copy 99 = .ok (.invokevirtual 102, 3) := by decide +kernel
theorem dX6_copy_102 : decode cX6_copy 102 = .ok (.ifCond .ne 9, 3) := by decide +kernel
theorem dX6_copy_105 : decode cX6_copy 105 = .ok (.aload_n 0, 1) := by decide +kernel
theorem dX6_copy_106 : decode cX6_copy 106 = .ok (.iconst 2, 1) := by decide +kernel
theorem dX6_copy_107 : decode cX6_copy 107 = .ok (.invokevirtual 76, 3) := by decide +kernel
theorem dX6_copy_110 : decode cX6_copy 110 = .ok (.ireturn, 1) := by decide +kernel
theorem dX6_copy_111 : decode cX6_copy 111 = .ok (.aload_n 0, 1) := by decide +kernel
theorem dX6_copy_112 : decode cX6_copy 112 = .ok (.getfield 11, 3) := by decide +kernel
theorem dX6_copy_115 : decode cX6_copy 115 = .ok (.iload_n 3, 1) := by decide +kernel
theorem dX6_copy_116 : decode cX6_copy 116 = .ok (.aaload, 1) := by decide +kernel
theorem dX6_copy_117 : decode cX6_copy 117 = .ok (.aload_n 0, 1) := by decide +kernel
theorem dX6_copy_118 : decode cX6_copy 118 = .ok (.getfield 11, 3) := by decide +kernel
theorem dX6_copy_121 : decode cX6_copy 121 = .ok (.iload_n 1, 1) := by decide +kernel
theorem dX6_copy_122 : decode cX6_copy 122 = .ok (.aaload, 1) := by decide +kernel
theorem dX6_copy_123 : decode cX6_copy 123 = .ok (.iload_n 2, 1) := by decide +kernel
theorem dX6_copy_124 : decode cX6_copy 124 = .ok (.iload 4, 2) := by decide +kernel
theorem dX6_copy_126 : decode cX6_copy 126 = .ok (.iload 5, 2) := by decide +kernel
theorem dX6_copy_128 : decode cX6_copy 128 = .ok (.invokevirtual 106, 3) := by decide +kernel
theorem dX6_copy_131 : decode cX6_copy 131 = .ok (.aload_n 0, 1) := by decide +kernel
theorem dX6_copy_132 : decode cX6_copy 132 = .ok (.iload 5, 2) := by decide +kernel
theorem dX6_copy_134 : decode cX6_copy 134 = .ok (.invokevirtual 84, 3) := by decide +kernel
theorem dX6_copy_137 : decode cX6_copy 137 = .ok (.ireturn, 1) := by decide +kernel
theorem dX6_drop_0 : decode cX6_drop 0 = .ok (.iload_n 1, 1) := by decide +kernel
theorem dX6_drop_1 : decode cX6_drop 1 = .ok (.invokestatic 67, 3) := by decide +kernel
theorem dX6_drop_4 : decode cX6_drop 4 = .ok (.ifCond .ne 6, 3) := by decide +kernel
theorem dX6_drop_7 : decode cX6_drop 7 = .ok (.ldc 75, 2) := by decide +kernel
theorem dX6_drop_9 : decode cX6_drop 9 = .ok (.ireturn, 1) := by decide +kernel
theorem dX6_drop_10 : decode cX6_drop 10 = .ok (.aload_n 0, 1) := by decide +kernel
theorem dX6_drop_11 : decode cX6_drop 11 = .ok (.getfield 11, 3) := by decide +kernel
theorem dX6_drop_14 : decode cX6_drop 14 = .ok (.iload_n 1, 1) := by decide +kernel
theorem dX6_drop_15 : decode cX6_drop 15 = .ok (.aaload, 1) := by decide +kernel
theorem dX6_drop_16 : decode cX6_drop 16 = .ok (.invokevirtual 87, 3) := by decide +kernel
theorem dX6_drop_19 : decode cX6_drop 19 = .ok (.ifCond .eq 9, 3) := by decide +kernel
theorem dX6_drop_22 : decode cX6_drop 22 = .ok (.aload_n 0, 1) := by decide +kernel
theorem dX6_drop_23 : decode cX6_drop 23 = .ok (.iconst 1, 1) := by decide +kernel
theorem dX6_drop_24 : decode cX6_drop 24 = .ok (.invokevirtual 76, 3) := by decide +kernel
theorem dX6_drop_27 : decode cX6_drop 27 = .ok (.ireturn, 1) := by decide +kernel
theorem dX6_drop_28 : decode cX6_drop 28 = .ok (.aload_n 0, 1) := by decide +kernel
theorem dX6_drop_29 : decode cX6_drop 29 = .ok (.getfield 11, 3) := by decide +kernel
theorem dX6_drop_32 : decode cX6_drop 32 = .ok (.iload_n 1, 1) := by decide +kernel
theorem dX6_drop_33 : decode cX6_drop 33 = .ok (.aaload, 1) := by decide +kernel
theorem dX6_drop_34 : decode cX6_drop 34 = .ok (.invokevirtual 91, 3) := by decide +kernel
theorem dX6_drop_37 : decode cX6_drop 37 = .ok (.istore_n 2, 1) := by decide +kernel
theorem dX6_drop_38 : decode cX6_drop 38 = .ok (.aload_n 0, 1) := by decide +kernel
theorem dX6_drop_39 : decode cX6_drop 39 = .ok (.getfield 11, 3) := by decide +kernel
theorem dX6_drop_42 : decode cX6_drop 42 = .ok (.iload_n 1, 1) := by decide +kernel
theorem dX6_drop_43 : decode cX6_drop 43 = .ok (.aaload, 1) := by decide +kernel
theorem dX6_drop_44 : decode cX6_drop 44 = .ok (.invokevirtual 110, 3) := by decide +kernel
theorem dX6_drop_47 : decode cX6_drop 47 = .ok (.aload_n 0, 1) := by decide +kernel
theorem dX6_drop_48 : decode cX6_drop 48 = .ok (.iload_n 2, 1) := by decide +kernel
theorem dX6_drop_49 : decode cX6_drop 49 = .ok (.invokevirtual 84, 3) := by decide +kernel
theorem dX6_drop_52 : decode cX6_drop 52 = .ok (.ireturn, 1) := by decide +kernel
theorem dX6_feed_0 : decode cX6_feed 0 = .ok (.iload_n 1, 1) := by decide +kernel
theorem dX6_feed_1 : decode cX6_feed 1 = .ok (.iconst 0, 1) := by decide +kernel
theorem dX6_feed_2 : decode cX6_feed 2 = .ok (.sipush 255, 3) := by decide +kernel
theorem dX6_feed_5 : decode cX6_feed 5 = .ok (.invokestatic 71, 3) := by decide +kernel
theorem dX6_feed_8 : decode cX6_feed 8 = .ok (.ifCond .ne 6, 3) := by decide +kernel
theorem dX6_feed_11 : decode cX6_feed 11 = .ok (.ldc 75, 2) := by decide +kernel
theorem dX6_feed_13 : decode cX6_feed 13 = .ok (.ireturn, 1) := by decide +kernel
theorem dX6_feed_14 : decode cX6_feed 14 = .ok (.aload_n 0, 1) := by decide +kernel
theorem dX6_feed_15 : decode cX6_feed 15 = .ok (.getfield 18, 3) := by decide +kernel
theorem dX6_feed_18 : decode cX6_feed 18 = .ok (.iload_n 1, 1) := by decide +kernel
theorem dX6_feed_19 : decode cX6_feed 19 = .ok (.invokevirtual 113, 3) := by decide +kernel
theorem dX6_feed_22 : decode cX6_feed 22 = .ok (.ifCond .eq 13, 3) := by decide +kernel
theorem dX6_feed_25 : decode cX6_feed 25 = .ok (.aload_n 0, 1) := by decide +kernel
theorem dX6_feed_26 : decode cX6_feed 26 = .ok (.getfield 18, 3) := by decide +kernel
theorem dX6_feed_29 : decode cX6_feed 29 = .ok (.invokevirtual 116, 3) := by decide +kernel
theorem dX6_feed_32 : decode cX6_feed 32 = .ok (.goto 5, 3) := by decide +kernel
theorem dX6_feed_35 : decode cX6_feed 35 = .ok (.ldc 117, 2) := by decide +kernel
theorem dX6_feed_37 : decode cX6_feed 37 = .ok (.ireturn, 1) := by decide +kernel
theorem dX6_weave_0 : decode cX6_weave 0 = .ok (.aload_n 0, 1) := by decide +kernel
theorem dX6_weave_1 : decode cX6_weave 1 = .ok (.getfield 18, 3) := by decide +kernel
theorem dX6_weave_4 : decode cX6_weave 4 = .ok (.aload_n 0, 1) := by decide +kernel
theorem dX6_weave_5 : decode cX6_weave 5 = .ok (.getfield 29, 3) := by decide +kernel
theorem dX6_weave_8 : decode cX6_weave 8 = .ok (.invokevirtual 118, 3) := by decide +kernel
theorem dX6_weave_11 : decode cX6_weave 11 = .ok (.istore_n 1, 1) := by decide +kernel
theorem dX6_weave_12 : decode cX6_weave 12 = .ok (.iload_n 1, 1) := by decide +kernel
theorem dX6_weave_13 : decode cX6_weave 13 = .ok (.ifCond .eq 19, 3) := by decide +kernel
theorem dX6_weave_16 : decode cX6_weave 16 = .ok (.aload_n 0, 1) := by decide +kernel
theorem dX6_weave_17 : decode cX6_weave 17 = .ok (.iload_n 1, 1) := by decide +kernel
theorem dX6_weave_18 : decode cX6_weave 18 = .ok (.putfield 59, 3) := by decide +kernel
theorem dX6_weave_21 : decode cX6_weave 21 = .ok (.ldc 122, 2) := by decide +kernel
theorem dX6_weave_23 : decode cX6_weave 23 = .ok (.aload_n 0, 1) := by decide +kernel
theorem dX6_weave_24 : decode cX6_weave 24 = .ok (.getfield 18, 3) := by decide +kernel
theorem dX6_weave_27 : decode cX6_weave 27 = .ok (.invokevirtual 123, 3) := by decide +kernel
theorem dX6_weave_30 : decode cX6_weave 30 = .ok (.isub, 1) := by decide +kernel
theorem dX6_weave_31 : decode cX6_weave 31 = .ok (.ireturn, 1) := by decide +kernel
theorem dX6_weave_32 : decode cX6_weave 32 = .ok (.aload_n 0, 1) := by decide +kernel
theorem dX6_weave_33 : decode cX6_weave 33 = .ok (.getfield 25, 3) := by decide +kernel
theorem dX6_weave_36 : decode cX6_weave 36 = .ok (.aload_n 0, 1) := by decide +kernel
theorem dX6_weave_37 : decode cX6_weave 37 = .ok (.getfield 29, 3) := by decide +kernel
theorem dX6_weave_40 : decode cX6_weave 40 = .ok (.invokevirtual 126, 3) := by decide +kernel
theorem dX6_weave_43 : decode cX6_weave 43 = .ok (.aload_n 0, 1) := by decide +kernel
theorem dX6_weave_44 : decode cX6_weave 44 = .ok (.getfield 39, 3) := by decide +kernel
theorem dX6_weave_47 : decode cX6_weave 47 = .ok (.invokevirtual 128, 3) := by decide +kernel
theorem dX6_weave_50 : decode cX6_weave 50 = .ok (.aload_n 0, 1) := by decide +kernel
theorem dX6_weave_51 : decode cX6_weave 51 = .ok (.getfield 25, 3) := by decide +kernel
theorem dX6_weave_54 : decode cX6_weave 54 = .ok (.invokevirtual 131, 3) := by decide +kernel
theorem dX6_weave_57 : decode cX6_weave 57 = .ok (.ireturn, 1) := by decide +kernel
theorem dX6_fault_0 : decode cX6_fault 0 = .ok (.aload_n 0, 1) := by decide +kernel
theorem dX6_fault_1 : decode cX6_fault 1 = .ok (.getfield 59, 3) := by decide +kernel
theorem dX6_fault_4 : decode cX6_fault 4 = .ok (.ireturn, 1) := by decide +kernel
theorem dX6_change_0 : decode cX6_change 0 = .ok (.aload_n 0, 1) := by decide +kernel
theorem dX6_change_1 : decode cX6_change 1 = .ok (.iload_n 1, 1) := by decide +kernel
theorem dX6_change_2 : decode cX6_change 2 = .ok (.invokevirtual 134, 3) := by decide +kernel
theorem dX6_change_5 : decode cX6_change 5 = .ok (.ifCond .ne 6, 3) := by decide +kernel
theorem dX6_change_8 : decode cX6_change 8 = .ok (.ldc 75, 2) := by decide +kernel
theorem dX6_change_10 : decode cX6_change 10 = .ok (.ireturn, 1) := by decide +kernel
theorem dX6_change_11 : decode cX6_change 11 = .ok (.iload_n 2, 1) := by decide +kernel
theorem dX6_change_12 : decode cX6_change 12 = .ok (.ifCond .ne 21, 3) := by decide +kernel
theorem dX6_change_15 : decode cX6_change 15 = .ok (.iload_n 3, 1) := by decide +kernel
theorem dX6_change_16 : decode cX6_change 16 = .ok (.iconst 1, 1) := by decide +kernel
theorem dX6_change_17 : decode cX6_change 17 = .ok (.bipush 99, 2) := by decide +kernel
theorem dX6_change_19 : decode cX6_change 19 = .ok (.invokestatic 71, 3) := by decide +kernel
theorem dX6_change_22 : decode cX6_change 22 = .ok (.ifCond .eq 11, 3) := by decide +kernel
theorem dX6_change_25 : decode cX6_change 25 = .ok (.aload_n 0, 1) := by decide +kernel
theorem dX6_change_26 : decode cX6_change 26 = .ok (.iload_n 1, 1) := by decide +kernel
theorem dX6_change_27 : decode cX6_change 27 = .ok (.iconst 0, 1) := by decide +kernel
theorem dX6_change_28 : decode cX6_change 28 = .ok (.iload_n 3, 1) := by decide +kernel
theorem dX6_change_29 : decode cX6_change 29 = .ok (.invokevirtual 137, 3) := by decide +kernel
theorem dX6_change_32 : decode cX6_change 32 = .ok (.ireturn, 1) := by decide +kernel
theorem dX6_change_33 : decode cX6_change 33 = .ok (.iload_n 2, 1) := by decide +kernel
theorem dX6_change_34 : decode cX6_change 34 = .ok (.iconst 1, 1) := by decide +kernel
theorem dX6_change_35 : decode cX6_change 35 = .ok (.if_icmp .ne 21, 3) := by decide +kernel
theorem dX6_change_38 : decode cX6_change 38 = .ok (.iload_n 3, 1) := by decide +kernel
theorem dX6_change_39 : decode cX6_change 39 = .ok (.iconst 0, 1) := by decide +kernel
theorem dX6_change_40 : decode cX6_change 40 = .ok (.bipush 10, 2) := by decide +kernel
theorem dX6_change_42 : decode cX6_change 42 = .ok (.invokestatic 71, 3) := by decide +kernel
theorem dX6_change_45 : decode cX6_change 45 = .ok (.ifCond .eq 11, 3) := by decide +kernel
theorem dX6_change_48 : decode cX6_change 48 = .ok (.aload_n 0, 1) := by decide +kernel
theorem dX6_change_49 : decode cX6_change 49 = .ok (.iload_n 1, 1) := by decide +kernel
theorem dX6_change_50 : decode cX6_change 50 = .ok (.iconst 3, 1) := by decide +kernel
theorem dX6_change_51 : decode cX6_change 51 = .ok (.iload_n 3, 1) := by decide +kernel
theorem dX6_change_52 : decode cX6_change 52 = .ok (.invokevirtual 137, 3) := by decide +kernel
theorem dX6_change_55 : decode cX6_change 55 = .ok (.ireturn, 1) := by decide +kernel
theorem dX6_change_56 : decode cX6_change 56 = .ok (.iload_n 2, 1) := by decide +kernel
theorem dX6_change_57 : decode cX6_change 57 = .ok (.iconst 2, 1) := by decide +kernel
theorem dX6_change_58 : decode cX6_change 58 = .ok (.if_icmp .ne 21, 3) := by decide +kernel
theorem dX6_change_61 : decode cX6_change 61 = .ok (.iload_n 3, 1) := by decide +kernel
theorem dX6_change_62 : decode cX6_change 62 = .ok (.iconst 0, 1) := by decide +kernel
theorem dX6_change_63 : decode cX6_change 63 = .ok (.bipush 6, 2) := by decide +kernel
theorem dX6_change_65 : decode cX6_change 65 = .ok (.invokestatic 71, 3) := by decide +kernel
theorem dX6_change_68 : decode cX6_change 68 = .ok (.ifCond .eq 11, 3) := by decide +kernel
theorem dX6_change_71 : decode cX6_change 71 = .ok (.aload_n 0, 1) := by decide +kernel
theorem dX6_change_72 : decode cX6_change 72 = .ok (.iload_n 1, 1) := by decide +kernel
theorem dX6_change_73 : decode cX6_change 73 = .ok (.iconst 4, 1) := by decide +kernel
theorem dX6_change_74 : decode cX6_change 74 = .ok (.iload_n 3, 1) := by decide +kernel
theorem dX6_change_75 : decode cX6_change 75 = .ok (.invokevirtual 137, 3) := by decide +kernel
theorem dX6_change_78 : decode cX6_change 78 = .ok (.ireturn, 1) := by decide +kernel
theorem dX6_change_79 : decode cX6_change 79 = .ok (.ldc 75, 2) := by decide +kernel
theorem dX6_change_81 : decode cX6_change 81 = .ok (.ireturn, 1) := by decide +kernel
theorem dX6_become_0 : decode cX6_become 0 = .ok (.aload_n 0, 1) := by decide +kernel
theorem dX6_become_1 : decode cX6_become 1 = .ok (.iload_n 1, 1) := by decide +kernel
theorem dX6_become_2 : decode cX6_become 2 = .ok (.invokevirtual 134, 3) := by decide +kernel
theorem dX6_become_5 : decode cX6_become 5 = .ok (.ifCond .eq 12, 3) := by decide +kernel
theorem dX6_become_8 : decode cX6_become 8 = .ok (.iload_n 2, 1) := by decide +kernel
theorem dX6_become_9 : decode cX6_become 9 = .ok (.iconst 1, 1) := by decide +kernel
theorem dX6_become_10 : decode cX6_become 10 = .ok (.iconst 5, 1) := by decide +kernel
theorem dX6_become_11 : decode cX6_become 11 = .ok (.invokestatic 71, 3) := by decide +kernel
theorem dX6_become_14 : decode cX6_become 14 = .ok (.ifCond .ne 6, 3) := by decide +kernel
theorem dX6_become_17 : decode cX6_become 17 = .ok (.ldc 75, 2) := by decide +kernel
theorem dX6_become_19 : decode cX6_become 19 = .ok (.ireturn, 1) := by decide +kernel
theorem dX6_become_20 : decode cX6_become 20 = .ok (.aload_n 0, 1) := by decide +kernel
theorem dX6_become_21 : decode cX6_become 21 = .ok (.getfield 25, 3) := by decide +kernel
theorem dX6_become_24 : decode cX6_become 24 = .ok (.iload_n 1, 1) := by decide +kernel
theorem dX6_become_25 : decode cX6_become 25 = .ok (.iconst 5, 1) := by decide +kernel
theorem dX6_become_26 : decode cX6_become 26 = .ok (.invokevirtual 141, 3) := by decide +kernel
theorem dX6_become_29 : decode cX6_become 29 = .ok (.iload_n 2, 1) := by decide +kernel
theorem dX6_become_30 : decode cX6_become 30 = .ok (.if_icmp .ne 6, 3) := by decide +kernel
theorem dX6_become_33 : decode cX6_become 33 = .ok (.ldc 144, 2) := by decide +kernel
theorem dX6_become_35 : decode cX6_become 35 = .ok (.ireturn, 1) := by decide +kernel
theorem dX6_become_36 : decode cX6_become 36 = .ok (.aload_n 0, 1) := by decide +kernel
theorem dX6_become_37 : decode cX6_become 37 = .ok (.iload_n 1, 1) := by decide +kernel
theorem dX6_become_38 : decode cX6_become 38 = .ok (.iconst 5, 1) := by decide +kernel
theorem dX6_become_39 : decode cX6_become 39 = .ok (.iload_n 2, 1) := by decide +kernel
theorem dX6_become_40 : decode cX6_become 40 = .ok (.invokevirtual 137, 3) := by decide +kernel
theorem dX6_become_43 : decode cX6_become 43 = .ok (.ireturn, 1) := by decide +kernel
theorem dX6_swap_0 : decode cX6_swap 0 = .ok (.aload_n 0, 1) := by decide +kernel
theorem dX6_swap_1 : decode cX6_swap 1 = .ok (.iload_n 1, 1) := by decide +kernel
theorem dX6_swap_2 : decode cX6_swap 2 = .ok (.invokevirtual 134, 3) := by decide +kernel
theorem dX6_swap_5 : decode cX6_swap 5 = .ok (.ifCond .eq 11, 3) := by decide +kernel
theorem dX6_swap_8 : decode cX6_swap 8 = .ok (.aload_n 0, 1) := by decide +kernel
theorem dX6_swap_9 : decode cX6_swap 9 = .ok (.iload_n 2, 1) := by decide +kernel
theorem dX6_swap_10 : decode cX6_swap 10 = .ok (.invokevirtual 134, 3) := by decide +kernel
theorem dX6_swap_13 : decode cX6_swap 13 = .ok (.ifCond .ne 6, 3) := by decide +kernel
theorem dX6_swap_16 : decode cX6_swap 16 = .ok (.ldc 75, 2) := by decide +kernel
theorem dX6_swap_18 : decode cX6_swap 18 = .ok (.ireturn, 1) := by decide +kernel
theorem dX6_swap_19 : decode cX6_swap 19 = .ok (.iload_n 1, 1) := by decide +kernel
theorem dX6_swap_20 : decode cX6_swap 20 = .ok (.iload_n 2, 1) := by decide +kernel
theorem dX6_swap_21 : decode cX6_swap 21 = .ok (.if_icmp .ne 6, 3) := by decide +kernel
theorem dX6_swap_24 : decode cX6_swap 24 = .ok (.ldc 144, 2) := by decide +kernel
theorem dX6_swap_26 : decode cX6_swap 26 = .ok (.ireturn, 1) := by decide +kernel
theorem dX6_swap_27 : decode cX6_swap 27 = .ok (.aload_n 0, 1) := by decide +kernel
theorem dX6_swap_28 : decode cX6_swap 28 = .ok (.getfield 39, 3) := by decide +kernel
theorem dX6_swap_31 : decode cX6_swap 31 = .ok (.iload_n 1, 1) := by decide +kernel
theorem dX6_swap_32 : decode cX6_swap 32 = .ok (.iload_n 2, 1) := by decide +kernel
theorem dX6_swap_33 : decode cX6_swap 33 = .ok (.invokevirtual 145, 3) := by decide +kernel
theorem dX6_swap_36 : decode cX6_swap 36 = .ok (.aload_n 0, 1) := by decide +kernel
theorem dX6_swap_37 : decode cX6_swap 37 = .ok (.getfield 25, 3) := by decide +kernel
theorem dX6_swap_40 : decode cX6_swap 40 = .ok (.iload_n 1, 1) := by decide +kernel
theorem dX6_swap_41 : decode cX6_swap 41 = .ok (.iload_n 2, 1) := by decide +kernel
theorem dX6_swap_42 : decode cX6_swap 42 = .ok (.invokevirtual 148, 3) := by decide +kernel
theorem dX6_swap_45 : decode cX6_swap 45 = .ok (.iload_n 1, 1) := by decide +kernel
theorem dX6_swap_46 : decode cX6_swap 46 = .ok (.iload_n 2, 1) := by decide +kernel
theorem dX6_swap_47 : decode cX6_swap 47 = .ok (.isub, 1) := by decide +kernel
theorem dX6_swap_48 : decode cX6_swap 48 = .ok (.invokestatic 151, 3) := by decide +kernel
theorem dX6_swap_51 : decode cX6_swap 51 = .ok (.iconst 1, 1) := by decide +kernel
theorem dX6_swap_52 : decode cX6_swap 52 = .ok (.iadd, 1) := by decide +kernel
theorem dX6_swap_53 : decode cX6_swap 53 = .ok (.ireturn, 1) := by decide +kernel
theorem dX6_state_0 : decode cX6_state 0 = .ok (.aload_n 0, 1) := by decide +kernel
theorem dX6_state_1 : decode cX6_state 1 = .ok (.iload_n 1, 1) := by decide +kernel
theorem dX6_state_2 : decode cX6_state 2 = .ok (.invokevirtual 156, 3) := by decide +kernel
theorem dX6_state_5 : decode cX6_state 5 = .ok (.ifCond .eq 29, 3) := by decide +kernel
theorem dX6_state_8 : decode cX6_state 8 = .ok (.iload_n 2, 1) := by decide +kernel
theorem dX6_state_9 : decode cX6_state 9 = .ok (.ifCond .lt 25, 3) := by decide +kernel
theorem dX6_state_12 : decode cX6_state 12 = .ok (.iload_n 2, 1) := by decide +kernel
theorem dX6_state_13 : decode cX6_state 13 = .ok (.aload_n 0, 1) := by decide +kernel
theorem dX6_state_14 : decode cX6_state 14 = .ok (.getfield 25, 3) := by decide +kernel
theorem dX6_state_17 : decode cX6_state 17 = .ok (.iload_n 1, 1) := by decide +kernel
theorem dX6_state_18 : decode cX6_state 18 = .ok (.invokevirtual 159, 3) := by decide +kernel
theorem dX6_state_21 : decode cX6_state 21 = .ok (.if_icmp .ge 13, 3) := by decide +kernel
theorem dX6_state_24 : decode cX6_state 24 = .ok (.aload_n 0, 1) := by decide +kernel
theorem dX6_state_25 : decode cX6_state 25 = .ok (.iload_n 3, 1) := by decide +kernel
theorem dX6_state_26 : decode cX6_state 26 = .ok (.iload 4, 2) := by decide +kernel
theorem dX6_state_28 : decode cX6_state 28 = .ok (.invokevirtual 162, 3) := by decide +kernel
theorem dX6_state_31 : decode cX6_state 31 = .ok (.ifCond .ne 6, 3) := by decide +kernel
theorem dX6_state_34 : decode cX6_state 34 = .ok (.ldc 75, 2) := by decide +kernel
theorem dX6_state_36 : decode cX6_state 36 = .ok (.ireturn, 1) := by decide +kernel
theorem dX6_state_37 : decode cX6_state 37 = .ok (.aload_n 0, 1) := by decide +kernel
theorem dX6_state_38 : decode cX6_state 38 = .ok (.getfield 25, 3) := by decide +kernel
theorem dX6_state_41 : decode cX6_state 41 = .ok (.iload_n 1, 1) := by decide +kernel
theorem dX6_state_42 : decode cX6_state 42 = .ok (.iload_n 2, 1) := by decide +kernel
theorem dX6_state_43 : decode cX6_state 43 = .ok (.invokevirtual 165, 3) := by decide +kernel
theorem dX6_state_46 : decode cX6_state 46 = .ok (.istore 5, 2) := by decide +kernel
theorem dX6_state_48 : decode cX6_state 48 = .ok (.aload_n 0, 1) := by decide +kernel
theorem dX6_state_49 : decode cX6_state 49 = .ok (.getfield 39, 3) := by decide +kernel
theorem dX6_state_52 : decode cX6_state 52 = .ok (.iload_n 1, 1) := by decide +kernel
theorem dX6_state_53 : decode cX6_state 53 = .ok (.iload_n 2, 1) := by decide +kernel
theorem dX6_state_54 : decode cX6_state 54 = .ok (.iload 5, 2) := by decide +kernel
theorem dX6_state_56 : decode cX6_state 56 = .ok (.aload_n 0, 1) := by decide +kernel
theorem dX6_state_57 : decode cX6_state 57 = .ok (.getfield 25, 3) := by decide +kernel
theorem dX6_state_60 : decode cX6_state 60 = .ok (.iload_n 1, 1) := by decide +kernel
theorem dX6_state_61 : decode cX6_state 61 = .ok (.iload_n 2, 1) := by decide +kernel
theorem dX6_state_62 : decode cX6_state 62 = .ok (.invokevirtual 168, 3) := by decide +kernel
theorem dX6_state_65 : decode cX6_state 65 = .ok (.invokevirtual 171, 3) := by decide +kernel
theorem dX6_state_68 : decode cX6_state 68 = .ok (.aload_n 0, 1) := by decide +kernel
theorem dX6_state_69 : decode cX6_state 69 = .ok (.getfield 25, 3) := by decide +kernel
theorem dX6_state_72 : decode cX6_state 72 = .ok (.iload_n 1, 1) := by decide +kernel
theorem dX6_state_73 : decode cX6_state 73 = .ok (.iload_n 2, 1) := by decide +kernel
theorem dX6_state_74 : decode cX6_state 74 = .ok (.iload_n 3, 1) := by decide +kernel
theorem dX6_state_75 : decode cX6_state 75 = .ok (.iload 4, 2) := by decide +kernel
theorem dX6_state_77 : decode cX6_state 77 = .ok (.invokevirtual 175, 3) := by decide +kernel
theorem dX6_state_80 : decode cX6_state 80 = .ok (.iload 5, 2) := by decide +kernel
theorem dX6_state_82 : decode cX6_state 82 = .ok (.ireturn, 1) := by decide +kernel
theorem dX6_belong_0 : decode cX6_belong 0 = .ok (.aload_n 0, 1) := by decide +kernel
theorem dX6_belong_1 : decode cX6_belong 1 = .ok (.iload_n 1, 1) := by decide +kernel
theorem dX6_belong_2 : decode cX6_belong 2 = .ok (.invokevirtual 156, 3) := by decide +kernel
theorem dX6_belong_5 : decode cX6_belong 5 = .ok (.ifCond .eq 12, 3) := by decide +kernel
theorem dX6_belong_8 : decode cX6_belong 8 = .ok (.iload_n 2, 1) := by decide +kernel
theorem dX6_belong_9 : decode cX6_belong 9 = .ok (.iconst 0, 1) := by decide +kernel
theorem dX6_belong_10 : decode cX6_belong 10 = .ok (.iconst 3, 1) := by decide +kernel
theorem dX6_belong_11 : decode cX6_belong 11 = .ok (.invokestatic 71, 3) := by decide +kernel
theorem dX6_belong_14 : decode cX6_belong 14 = .ok (.ifCond .ne 6, 3) := by decide +kernel
theorem dX6_belong_17 : decode cX6_belong 17 = .ok (.ldc 75, 2) := by decide +kernel
theorem dX6_belong_19 : decode cX6_belong 19 = .ok (.ireturn, 1) := by decide +kernel
theorem dX6_belong_20 : decode cX6_belong 20 = .ok (.aload_n 0, 1) := by decide +kernel
theorem dX6_belong_21 : decode cX6_belong 21 = .ok (.getfield 25, 3) := by decide +kernel
theorem dX6_belong_24 : decode cX6_belong 24 = .ok (.iload_n 1, 1) := by decide +kernel
theorem dX6_belong_25 : decode cX6_belong 25 = .ok (.invokevirtual 178, 3) := by decide +kernel
theorem dX6_belong_28 : decode cX6_belong 28 = .ok (.istore_n 3, 1) := by decide +kernel
theorem dX6_belong_29 : decode cX6_belong 29 = .ok (.iload_n 3, 1) := by decide +kernel
theorem dX6_belong_30 : decode cX6_belong 30 = .ok (.iload_n 2, 1) := by decide +kernel
theorem dX6_belong_31 : decode cX6_belong 31 = .ok (.if_icmp .ne 6, 3) := by decide +kernel
theorem dX6_belong_34 : decode cX6_belong 34 = .ok (.ldc 144, 2) := by decide +kernel
theorem dX6_belong_36 : decode cX6_belong 36 = .ok (.ireturn, 1) := by decide +kernel
theorem dX6_belong_37 : decode cX6_belong 37 = .ok (.aload_n 0, 1) := by decide +kernel
theorem dX6_belong_38 : decode cX6_belong 38 = .ok (.getfield 39, 3) := by decide +kernel
theorem dX6_belong_41 : decode cX6_belong 41 = .ok (.iload_n 1, 1) := by decide +kernel
theorem dX6_belong_42 : decode cX6_belong 42 = .ok (.iload_n 3, 1) := by decide +kernel
theorem dX6_belong_43 : decode cX6_belong 43 = .ok (.invokevirtual 181, 3) := by decide +kernel
theorem dX6_belong_46 : decode cX6_belong 46 = .ok (.aload_n 0, 1) := by decide +kernel
theorem dX6_belong_47 : decode cX6_belong 47 = .ok (.getfield 25, 3) := by decide +kernel
theorem dX6_belong_50 : decode cX6_belong 50 = .ok (.iload_n 1, 1) := by decide +kernel
theorem dX6_belong_51 : decode cX6_belong 51 = .ok (.iload_n 2, 1) := by decide +kernel
theorem dX6_belong_52 : decode cX6_belong 52 = .ok (.invokevirtual 184, 3) := by decide +kernel
theorem dX6_belong_55 : decode cX6_belong 55 = .ok (.iload_n 3, 1) := by decide +kernel
theorem dX6_belong_56 : decode cX6_belong 56 = .ok (.ireturn, 1) := by decide +kernel
theorem dX6_undo_0 : decode cX6_undo 0 = .ok (.aload_n 0, 1) := by decide +kernel
theorem dX6_undo_1 : decode cX6_undo 1 = .ok (.getfield 39, 3) := by decide +kernel
theorem dX6_undo_4 : decode cX6_undo 4 = .ok (.invokevirtual 187, 3) := by decide +kernel
theorem dX6_undo_7 : decode cX6_undo 7 = .ok (.ifCond .ne 6, 3) := by decide +kernel
theorem dX6_undo_10 : decode cX6_undo 10 = .ok (.ldc 144, 2) := by decide +kernel
theorem dX6_undo_12 : decode cX6_undo 12 = .ok (.ireturn, 1) := by decide +kernel
theorem dX6_undo_13 : decode cX6_undo 13 = .ok (.aload_n 0, 1) := by decide +kernel
theorem dX6_undo_14 : decode cX6_undo 14 = .ok (.getfield 39, 3) := by decide +kernel
theorem dX6_undo_17 : decode cX6_undo 17 = .ok (.aload_n 0, 1) := by decide +kernel
theorem dX6_undo_18 : decode cX6_undo 18 = .ok (.getfield 25, 3) := by decide +kernel
theorem dX6_undo_21 : decode cX6_undo 21 = .ok (.invokevirtual 188, 3) := by decide +kernel
theorem dX6_undo_24 : decode cX6_undo 24 = .ok (.aload_n 0, 1) := by decide +kernel
theorem dX6_undo_25 : decode cX6_undo 25 = .ok (.getfield 39, 3) := by decide +kernel
theorem dX6_undo_28 : decode cX6_undo 28 = .ok (.invokevirtual 187, 3) := by decide +kernel
theorem dX6_undo_31 : decode cX6_undo 31 = .ok (.ireturn, 1) := by decide +kernel
theorem dX6_method_0 : decode cX6_method 0 = .ok (.aload_n 0, 1) := by decide +kernel
theorem dX6_method_1 : decode cX6_method 1 = .ok (.iload_n 1, 1) := by decide +kernel
theorem dX6_method_2 : decode cX6_method 2 = .ok (.invokevirtual 156, 3) := by decide +kernel
theorem dX6_method_5 : decode cX6_method 5 = .ok (.ifCond .ne 6, 3) := by decide +kernel
theorem dX6_method_8 : decode cX6_method 8 = .ok (.ldc 75, 2) := by decide +kernel
theorem dX6_method_10 : decode cX6_method 10 = .ok (.ireturn, 1) := by decide +kernel
theorem dX6_method_11 : decode cX6_method 11 = .ok (.iload_n 2, 1) := by decide +kernel
theorem dX6_method_12 : decode cX6_method 12 = .ok (.tableswitch 55 0 2 #[28, 37, 46], 28) := by decide +kernel
theorem dX6_method_40 : decode cX6_method 40 = .ok (.aload_n 0, 1) := by decide +kernel
theorem dX6_method_41 : decode cX6_method 41 = .ok (.getfield 25, 3) := by decide +kernel
theorem dX6_method_44 : decode cX6_method 44 = .ok (.iload_n 1, 1) := by decide +kernel
theorem dX6_method_45 : decode cX6_method 45 = .ok (.invokevirtual 178, 3) := by decide +kernel
theorem dX6_method_48 : decode cX6_method 48 = .ok (.ireturn, 1) := by decide +kernel
theorem dX6_method_49 : decode cX6_method 49 = .ok (.aload_n 0, 1) := by decide +kernel
theorem dX6_method_50 : decode cX6_method 50 = .ok (.getfield 25, 3) := by decide +kernel
theorem dX6_method_53 : decode cX6_method 53 = .ok (.iload_n 1, 1) := by decide +kernel
theorem dX6_method_54 : decode cX6_method 54 = .ok (.invokevirtual 159, 3) := by decide +kernel
theorem dX6_method_57 : decode cX6_method 57 = .ok (.ireturn, 1) := by decide +kernel
theorem dX6_method_58 : decode cX6_method 58 = .ok (.aload_n 0, 1) := by decide +kernel
theorem dX6_method_59 : decode cX6_method 59 = .ok (.getfield 25, 3) := by decide +kernel
theorem dX6_method_62 : decode cX6_method 62 = .ok (.iload_n 1, 1) := by decide +kernel
theorem dX6_method_63 : decode cX6_method 63 = .ok (.invokevirtual 191, 3) := by decide +kernel
theorem dX6_method_66 : decode cX6_method 66 = .ok (.ireturn, 1) := by decide +kernel
theorem dX6_method_67 : decode cX6_method 67 = .ok (.aload_n 0, 1) := by decide +kernel
theorem dX6_method_68 : decode cX6_method 68 = .ok (.iload_n 1, 1) := by decide +kernel
theorem dX6_method_69 : decode cX6_method 69 = .ok (.iload_n 2, 1) := by decide +kernel
theorem dX6_method_70 : decode cX6_method 70 = .ok (.invokevirtual 194, 3) := by decide +kernel
theorem dX6_method_73 : decode cX6_method 73 = .ok (.ireturn, 1) := by decide +kernel
theorem dX6_advice_0 : decode cX6_advice 0 = .ok (.aload_n 0, 1) := by decide +kernel
theorem dX6_advice_1 : decode cX6_advice 1 = .ok (.iload_n 1, 1) := by decide +kernel
theorem dX6_advice_2 : decode cX6_advice 2 = .ok (.invokevirtual 134, 3) := by decide +kernel
theorem dX6_advice_5 : decode cX6_advice 5 = .ok (.ifCond .eq 12, 3) := by decide +kernel
theorem dX6_advice_8 : decode cX6_advice 8 = .ok (.iload_n 2, 1) := by decide +kernel
theorem dX6_advice_9 : decode cX6_advice 9 = .ok (.iconst 0, 1) := by decide +kernel
theorem dX6_advice_10 : decode cX6_advice 10 = .ok (.iconst 4, 1) := by decide +kernel
theorem dX6_advice_11 : decode cX6_advice 11 = .ok (.invokestatic 71, 3) := by decide +kernel
theorem dX6_advice_14 : decode cX6_advice 14 = .ok (.ifCond .ne 6, 3) := by decide +kernel
theorem dX6_advice_17 : decode cX6_advice 17 = .ok (.ldc 75, 2) := by decide +kernel
theorem dX6_advice_19 : decode cX6_advice 19 = .ok (.ireturn, 1) := by decide +kernel
theorem dX6_advice_20 : decode cX6_advice 20 = .ok (.aload_n 0, 1) := by decide +kernel
theorem dX6_advice_21 : decode cX6_advice 21 = .ok (.getfield 25, 3) := by decide +kernel
theorem dX6_advice_24 : decode cX6_advice 24 = .ok (.iload_n 1, 1) := by decide +kernel
theorem dX6_advice_25 : decode cX6_advice 25 = .ok (.iload_n 2, 1) := by decide +kernel
theorem dX6_advice_26 : decode cX6_advice 26 = .ok (.invokevirtual 141, 3) := by decide +kernel
theorem dX6_advice_29 : decode cX6_advice 29 = .ok (.ireturn, 1) := by decide +kernel
theorem dX6_ahead_0 : decode cX6_ahead 0 = .ok (.aload_n 0, 1) := by decide +kernel
theorem dX6_ahead_1 : decode cX6_ahead 1 = .ok (.iload_n 1, 1) := by decide +kernel
theorem dX6_ahead_2 : decode cX6_ahead 2 = .ok (.invokevirtual 156, 3) := by decide +kernel
theorem dX6_ahead_5 : decode cX6_ahead 5 = .ok (.ifCond .eq 11, 3) := by decide +kernel
theorem dX6_ahead_8 : decode cX6_ahead 8 = .ok (.aload_n 0, 1) := by decide +kernel
theorem dX6_ahead_9 : decode cX6_ahead 9 = .ok (.iload_n 2, 1) := by decide +kernel
theorem dX6_ahead_10 : decode cX6_ahead 10 = .ok (.invokevirtual 134, 3) := by decide +kernel
theorem dX6_ahead_13 : decode cX6_ahead 13 = .ok (.ifCond .ne 6, 3) := by decide +kernel
theorem dX6_ahead_16 : decode cX6_ahead 16 = .ok (.ldc 75, 2) := by decide +kernel
theorem dX6_ahead_18 : decode cX6_ahead 18 = .ok (.ireturn, 1) := by decide +kernel
theorem dX6_ahead_19 : decode cX6_ahead 19 = .ok (.aload_n 0, 1) := by decide +kernel
theorem dX6_ahead_20 : decode cX6_ahead 20 = .ok (.getfield 25, 3) := by decide +kernel
theorem dX6_ahead_23 : decode cX6_ahead 23 = .ok (.iload_n 1, 1) := by decide +kernel
theorem dX6_ahead_24 : decode cX6_ahead 24 = .ok (.iload_n 2, 1) := by decide +kernel
theorem dX6_ahead_25 : decode cX6_ahead 25 = .ok (.invokevirtual 197, 3) := by decide +kernel
theorem dX6_ahead_28 : decode cX6_ahead 28 = .ok (.ireturn, 1) := by decide +kernel
theorem dX6_run_0 : decode cX6_run 0 = .ok (.aload_n 0, 1) := by decide +kernel
theorem dX6_run_1 : decode cX6_run 1 = .ok (.iload_n 1, 1) := by decide +kernel
theorem dX6_run_2 : decode cX6_run 2 = .ok (.invokevirtual 156, 3) := by decide +kernel
theorem dX6_run_5 : decode cX6_run 5 = .ok (.ifCond .eq 16, 3) := by decide +kernel
theorem dX6_run_8 : decode cX6_run 8 = .ok (.iload_n 2, 1) := by decide +kernel
theorem dX6_run_9 : decode cX6_run 9 = .ok (.invokestatic 200, 3) := by decide +kernel
theorem dX6_run_12 : decode cX6_run 12 = .ok (.ifCond .eq 9, 3) := by decide +kernel
theorem dX6_run_15 : decode cX6_run 15 = .ok (.iload_n 3, 1) := by decide +kernel
theorem dX6_run_16 : decode cX6_run 16 = .ok (.bipush (-5), 2) := by decide +kernel
theorem dX6_run_18 : decode cX6_run 18 = .ok (.if_icmp .ge 6, 3) := by decide +kernel
theorem dX6_run_21 : decode cX6_run 21 = .ok (.ldc 75, 2) := by decide +kernel
theorem dX6_run_23 : decode cX6_run 23 = .ok (.ireturn, 1) := by decide +kernel
theorem dX6_run_24 : decode cX6_run 24 = .ok (.aload_n 0, 1) := by decide +kernel
theorem dX6_run_25 : decode cX6_run 25 = .ok (.getfield 48, 3) := by decide +kernel
theorem dX6_run_28 : decode cX6_run 28 = .ok (.aload_n 0, 1) := by decide +kernel
theorem dX6_run_29 : decode cX6_run 29 = .ok (.getfield 25, 3) := by decide +kernel
theorem dX6_run_32 : decode cX6_run 32 = .ok (.iload_n 1, 1) := by decide +kernel
theorem dX6_run_33 : decode cX6_run 33 = .ok (.iload_n 2, 1) := by decide +kernel
theorem dX6_run_34 : decode cX6_run 34 = .ok (.invokevirtual 203, 3) := by decide +kernel
theorem dX6_run_37 : decode cX6_run 37 = .ok (.aload_n 0, 1) := by decide +kernel
theorem dX6_run_38 : decode cX6_run 38 = .ok (.getfield 48, 3) := by decide +kernel
theorem dX6_run_41 : decode cX6_run 41 = .ok (.invokevirtual 206, 3) := by decide +kernel
theorem dX6_run_44 : decode cX6_run 44 = .ok (.ifCond .eq 6, 3) := by decide +kernel
theorem dX6_run_47 : decode cX6_run 47 = .ok (.ldc 117, 2) := by decide +kernel
theorem dX6_run_49 : decode cX6_run 49 = .ok (.ireturn, 1) := by decide +kernel
theorem dX6_run_50 : decode cX6_run 50 = .ok (.iload_n 3, 1) := by decide +kernel
theorem dX6_run_51 : decode cX6_run 51 = .ok (.tableswitch 73 (-5) (-1) #[65, 57, 49, 41, 33], 33) := by decide +kernel
theorem dX6_run_84 : decode cX6_run 84 = .ok (.aload_n 0, 1) := by decide +kernel
theorem dX6_run_85 : decode cX6_run 85 = .ok (.getfield 48, 3) := by decide +kernel
theorem dX6_run_88 : decode cX6_run 88 = .ok (.invokevirtual 209, 3) := by decide +kernel
theorem dX6_run_91 : decode cX6_run 91 = .ok (.ireturn, 1) := by decide +kernel
theorem dX6_run_92 : decode cX6_run 92 = .ok (.aload_n 0, 1) := by decide +kernel
theorem dX6_run_93 : decode cX6_run 93 = .ok (.getfield 48, 3) := by decide +kernel
theorem dX6_run_96 : decode cX6_run 96 = .ok (.invokevirtual 210, 3) := by decide +kernel
theorem dX6_run_99 : decode cX6_run 99 = .ok (.ireturn, 1) := by decide +kernel
theorem dX6_run_100 : decode cX6_run 100 = .ok (.aload_n 0, 1) := by decide +kernel
theorem dX6_run_101 : decode cX6_run 101 = .ok (.getfield 48, 3) := by decide +kernel
theorem dX6_run_104 : decode cX6_run 104 = .ok (.invokevirtual 213, 3) := by decide +kernel
theorem dX6_run_107 : decode cX6_run 107 = .ok (.ireturn, 1) := by decide +kernel
theorem dX6_run_108 : decode cX6_run 108 = .ok (.aload_n 0, 1) := by decide +kernel
theorem dX6_run_109 : decode cX6_run 109 = .ok (.getfield 48, 3) := by decide +kernel
theorem dX6_run_112 : decode cX6_run 112 = .ok (.invokevirtual 216, 3) := by decide +kernel
theorem dX6_run_115 : decode cX6_run 115 = .ok (.ireturn, 1) := by decide +kernel
theorem dX6_run_116 : decode cX6_run 116 = .ok (.aload_n 0, 1) := by decide +kernel
theorem dX6_run_117 : decode cX6_run 117 = .ok (.getfield 48, 3) := by decide +kernel
theorem dX6_run_120 : decode cX6_run 120 = .ok (.invokevirtual 219, 3) := by decide +kernel
theorem dX6_run_123 : decode cX6_run 123 = .ok (.ireturn, 1) := by decide +kernel
theorem dX6_run_124 : decode cX6_run 124 = .ok (.aload_n 0, 1) := by decide +kernel
theorem dX6_run_125 : decode cX6_run 125 = .ok (.getfield 48, 3) := by decide +kernel
theorem dX6_run_128 : decode cX6_run 128 = .ok (.iload_n 3, 1) := by decide +kernel
theorem dX6_run_129 : decode cX6_run 129 = .ok (.invokevirtual 222, 3) := by decide +kernel
theorem dX6_run_132 : decode cX6_run 132 = .ok (.ireturn, 1) := by decide +kernel
theorem dX6_least_0 : decode cX6_least 0 = .ok (.aload_n 0, 1) := by decide +kernel
theorem dX6_least_1 : decode cX6_least 1 = .ok (.iload_n 1, 1) := by decide +kernel
theorem dX6_least_2 : decode cX6_least 2 = .ok (.invokevirtual 156, 3) := by decide +kernel
theorem dX6_least_5 : decode cX6_least 5 = .ok (.ifCond .ne 6, 3) := by decide +kernel
theorem dX6_least_8 : decode cX6_least 8 = .ok (.ldc 75, 2) := by decide +kernel
theorem dX6_least_10 : decode cX6_least 10 = .ok (.ireturn, 1) := by decide +kernel
theorem dX6_least_11 : decode cX6_least 11 = .ok (.iconst 0, 1) := by decide +kernel
theorem dX6_least_12 : decode cX6_least 12 = .ok (.istore_n 2, 1) := by decide +kernel
theorem dX6_least_13 : decode cX6_least 13 = .ok (.iload_n 2, 1) := by decide +kernel
theorem dX6_least_14 : decode cX6_least 14 = .ok (.bipush 9, 2) := by decide +kernel
theorem dX6_least_16 : decode cX6_least 16 = .ok (.if_icmp .gt 34, 3) := by decide +kernel
theorem dX6_least_19 : decode cX6_least 19 = .ok (.aload_n 0, 1) := by decide +kernel
theorem dX6_least_20 : decode cX6_least 20 = .ok (.getfield 48, 3) := by decide +kernel
theorem dX6_least_23 : decode cX6_least 23 = .ok (.aload_n 0, 1) := by decide +kernel
theorem dX6_least_24 : decode cX6_least 24 = .ok (.getfield 25, 3) := by decide +kernel
theorem dX6_least_27 : decode cX6_least 27 = .ok (.iload_n 1, 1) := by decide +kernel
theorem dX6_least_28 : decode cX6_least 28 = .ok (.iload_n 2, 1) := by decide +kernel
theorem dX6_least_29 : decode cX6_least 29 = .ok (.invokevirtual 203, 3) := by decide +kernel
theorem dX6_least_32 : decode cX6_least 32 = .ok (.aload_n 0, 1) := by decide +kernel
theorem dX6_least_33 : decode cX6_least 33 = .ok (.getfield 48, 3) := by decide +kernel
theorem dX6_least_36 : decode cX6_least 36 = .ok (.invokevirtual 225, 3) := by decide +kernel
theorem dX6_least_39 : decode cX6_least 39 = .ok (.ifCond .eq 5, 3) := by decide +kernel
theorem dX6_least_42 : decode cX6_least 42 = .ok (.iload_n 2, 1) := by decide +kernel
theorem dX6_least_43 : decode cX6_least 43 = .ok (.ireturn, 1) := by decide +kernel
theorem dX6_least_44 : decode cX6_least 44 = .ok (.iinc 2 1, 3) := by decide +kernel
theorem dX6_least_47 : decode cX6_least 47 = .ok (.goto (-34), 3) := by decide +kernel
theorem dX6_least_50 : decode cX6_least 50 = .ok (.ldc 228, 2) := by decide +kernel
theorem dX6_least_52 : decode cX6_least 52 = .ok (.ireturn, 1) := by decide +kernel
theorem dX6_needed_0 : decode cX6_needed 0 = .ok (.aload_n 0, 1) := by decide +kernel
theorem dX6_needed_1 : decode cX6_needed 1 = .ok (.iload_n 1, 1) := by decide +kernel
theorem dX6_needed_2 : decode cX6_needed 2 = .ok (.invokevirtual 156, 3) := by decide +kernel
theorem dX6_needed_5 : decode cX6_needed 5 = .ok (.ifCond .eq 10, 3) := by decide +kernel
theorem dX6_needed_8 : decode cX6_needed 8 = .ok (.iload_n 2, 1) := by decide +kernel
theorem dX6_needed_9 : decode cX6_needed 9 = .ok (.invokestatic 200, 3) := by decide +kernel
theorem dX6_needed_12 : decode cX6_needed 12 = .ok (.ifCond .ne 6, 3) := by decide +kernel
theorem dX6_needed_15 : decode cX6_needed 15 = .ok (.ldc 75, 2) := by decide +kernel
theorem dX6_needed_17 : decode cX6_needed 17 = .ok (.ireturn, 1) := by decide +kernel
theorem dX6_needed_18 : decode cX6_needed 18 = .ok (.aload_n 0, 1) := by decide +kernel
theorem dX6_needed_19 : decode cX6_needed 19 = .ok (.getfield 48, 3) := by decide +kernel
theorem dX6_needed_22 : decode cX6_needed 22 = .ok (.aload_n 0, 1) := by decide +kernel
theorem dX6_needed_23 : decode cX6_needed 23 = .ok (.getfield 25, 3) := by decide +kernel
theorem dX6_needed_26 : decode cX6_needed 26 = .ok (.iload_n 1, 1) := by decide +kernel
theorem dX6_needed_27 : decode cX6_needed 27 = .ok (.iload_n 2, 1) := by decide +kernel
theorem dX6_needed_28 : decode cX6_needed 28 = .ok (.invokevirtual 203, 3) := by decide +kernel
theorem dX6_needed_31 : decode cX6_needed 31 = .ok (.aload_n 0, 1) := by decide +kernel
theorem dX6_needed_32 : decode cX6_needed 32 = .ok (.getfield 48, 3) := by decide +kernel
theorem dX6_needed_35 : decode cX6_needed 35 = .ok (.invokevirtual 206, 3) := by decide +kernel
theorem dX6_needed_38 : decode cX6_needed 38 = .ok (.ifCond .eq 6, 3) := by decide +kernel
theorem dX6_needed_41 : decode cX6_needed 41 = .ok (.ldc 117, 2) := by decide +kernel
theorem dX6_needed_43 : decode cX6_needed 43 = .ok (.ireturn, 1) := by decide +kernel
theorem dX6_needed_44 : decode cX6_needed 44 = .ok (.aload_n 0, 1) := by decide +kernel
theorem dX6_needed_45 : decode cX6_needed 45 = .ok (.getfield 48, 3) := by decide +kernel
theorem dX6_needed_48 : decode cX6_needed 48 = .ok (.invokevirtual 209, 3) := by decide +kernel
theorem dX6_needed_51 : decode cX6_needed 51 = .ok (.istore_n 3, 1) := by decide +kernel
theorem dX6_needed_52 : decode cX6_needed 52 = .ok (.aload_n 0, 1) := by decide +kernel
theorem dX6_needed_53 : decode cX6_needed 53 = .ok (.getfield 48, 3) := by decide +kernel
theorem dX6_needed_56 : decode cX6_needed 56 = .ok (.invokevirtual 210, 3) := by decide +kernel
theorem dX6_needed_59 : decode cX6_needed 59 = .ok (.istore 4, 2) := by decide +kernel
theorem dX6_needed_61 : decode cX6_needed 61 = .ok (.aload_n 0, 1) := by decide +kernel
theorem dX6_needed_62 : decode cX6_needed 62 = .ok (.getfield 48, 3) := by decide +kernel
theorem dX6_needed_65 : decode cX6_needed 65 = .ok (.invokevirtual 213, 3) := by decide +kernel
theorem dX6_needed_68 : decode cX6_needed 68 = .ok (.istore 5, 2) := by decide +kernel
theorem dX6_needed_70 : decode cX6_needed 70 = .ok (.iconst 0, 1) := by decide +kernel
theorem dX6_needed_71 : decode cX6_needed 71 = .ok (.istore 6, 2) := by decide +kernel
theorem dX6_needed_73 : decode cX6_needed 73 = .ok (.iconst 0, 1) := by decide +kernel
theorem dX6_needed_74 : decode cX6_needed 74 = .ok (.istore 7, 2) := by decide +kernel
theorem dX6_needed_76 : decode cX6_needed 76 = .ok (.iload 7, 2) := by decide +kernel
theorem dX6_needed_78 : decode cX6_needed 78 = .ok (.aload_n 0, 1) := by decide +kernel
theorem dX6_needed_79 : decode cX6_needed 79 = .ok (.getfield 25, 3) := by decide +kernel
theorem dX6_needed_82 : decode cX6_needed 82 = .ok (.invokevirtual 229, 3) := by decide +kernel
theorem dX6_needed_85 : decode cX6_needed 85 = .ok (.if_icmp .ge 68, 3) := by decide +kernel
theorem dX6_needed_88 : decode cX6_needed 88 = .ok (.aload_n 0, 1) := by decide +kernel
theorem dX6_needed_89 : decode cX6_needed 89 = .ok (.getfield 29, 3) := by decide +kernel
theorem dX6_needed_92 : decode cX6_needed 92 = .ok (.aload_n 0, 1) := by decide +kernel
theorem dX6_needed_93 : decode cX6_needed 93 = .ok (.getfield 25, 3) := by decide +kernel
theorem dX6_needed_96 : decode cX6_needed 96 = .ok (.invokevirtual 126, 3) := by decide +kernel
theorem dX6_needed_99 : decode cX6_needed 99 = .ok (.aload_n 0, 1) := by decide +kernel
theorem dX6_needed_100 : decode cX6_needed 100 = .ok (.getfield 29, 3) := by decide +kernel
theorem dX6_needed_103 : decode cX6_needed 103 = .ok (.iload 7, 2) := by decide +kernel
theorem dX6_needed_105 : decode cX6_needed 105 = .ok (.iconst 3, 1) := by decide +kernel
theorem dX6_needed_106 : decode cX6_needed 106 = .ok (.iconst 0, 1) := by decide +kernel
theorem dX6_needed_107 : decode cX6_needed 107 = .ok (.invokevirtual 232, 3) := by decide +kernel
theorem dX6_needed_110 : decode cX6_needed 110 = .ok (.aload_n 0, 1) := by decide +kernel
theorem dX6_needed_111 : decode cX6_needed 111 = .ok (.getfield 48, 3) := by decide +kernel
theorem dX6_needed_114 : decode cX6_needed 114 = .ok (.aload_n 0, 1) := by decide +kernel
theorem dX6_needed_115 : decode cX6_needed 115 = .ok (.getfield 29, 3) := by decide +kernel
theorem dX6_needed_118 : decode cX6_needed 118 = .ok (.iload_n 1, 1) := by decide +kernel
theorem dX6_needed_119 : decode cX6_needed 119 = .ok (.iload_n 2, 1) := by decide +kernel
theorem dX6_needed_120 : decode cX6_needed 120 = .ok (.invokevirtual 203, 3) := by decide +kernel
theorem dX6_needed_123 : decode cX6_needed 123 = .ok (.aload_n 0, 1) := by decide +kernel
theorem dX6_needed_124 : decode cX6_needed 124 = .ok (.getfield 48, 3) := by decide +kernel
theorem dX6_needed_127 : decode cX6_needed 127 = .ok (.iload_n 3, 1) := by decide +kernel
theorem dX6_needed_128 : decode cX6_needed 128 = .ok (.iload 4, 2) := by decide +kernel
theorem dX6_needed_130 : decode cX6_needed 130 = .ok (.iload 5, 2) := by decide +kernel
theorem dX6_needed_132 : decode cX6_needed 132 = .ok (.invokevirtual 236, 3) := by decide +kernel
theorem dX6_needed_135 : decode cX6_needed 135 = .ok (.ifCond .ne 12, 3) := by decide +kernel
theorem dX6_needed_138 : decode cX6_needed 138 = .ok (.iload 6, 2) := by decide +kernel
theorem dX6_needed_140 : decode cX6_needed 140 = .ok (.iconst 1, 1) := by decide +kernel
theorem dX6_needed_141 : decode cX6_needed 141 = .ok (.iload 7, 2) := by decide +kernel
theorem dX6_needed_143 : decode cX6_needed 143 = .ok (.ishl, 1) := by decide +kernel
theorem dX6_needed_144 : decode cX6_needed 144 = .ok (.ior, 1) := by decide +kernel
theorem dX6_needed_145 : decode cX6_needed 145 = .ok (.istore 6, 2) := by decide +kernel
theorem dX6_needed_147 : decode cX6_needed 147 = .ok (.iinc 7 1, 3) := by decide +kernel
theorem dX6_needed_150 : decode cX6_needed 150 = .ok (.goto (-74), 3) := by decide +kernel
theorem dX6_needed_153 : decode cX6_needed 153 = .ok (.iload 6, 2) := by decide +kernel
theorem dX6_needed_155 : decode cX6_needed 155 = .ok (.ireturn, 1) := by decide +kernel
theorem dX6_fits_0 : decode cX6_fits 0 = .ok (.aload_n 0, 1) := by decide +kernel
theorem dX6_fits_1 : decode cX6_fits 1 = .ok (.iload_n 1, 1) := by decide +kernel
theorem dX6_fits_2 : decode cX6_fits 2 = .ok (.invokevirtual 134, 3) := by decide +kernel
theorem dX6_fits_5 : decode cX6_fits 5 = .ok (.ifCond .eq 36, 3) := by decide +kernel
theorem dX6_fits_8 : decode cX6_fits 8 = .ok (.aload_n 0, 1) := by decide +kernel
theorem dX6_fits_9 : decode cX6_fits 9 = .ok (.iload_n 2, 1) := by decide +kernel
theorem dX6_fits_10 : decode cX6_fits 10 = .ok (.invokevirtual 156, 3) := by decide +kernel
theorem dX6_fits_13 : decode cX6_fits 13 = .ok (.ifCond .eq 28, 3) := by decide +kernel
theorem dX6_fits_16 : decode cX6_fits 16 = .ok (.iload_n 3, 1) := by decide +kernel
theorem dX6_fits_17 : decode cX6_fits 17 = .ok (.invokestatic 200, 3) := by decide +kernel
theorem dX6_fits_20 : decode cX6_fits 20 = .ok (.ifCond .eq 21, 3) := by decide +kernel
theorem dX6_fits_23 : decode cX6_fits 23 = .ok (.iload 4, 2) := by decide +kernel
theorem dX6_fits_25 : decode cX6_fits 25 = .ok (.invokestatic 67, 3) := by decide +kernel
theorem dX6_fits_28 : decode cX6_fits 28 = .ok (.ifCond .eq 13, 3) := by decide +kernel
theorem dX6_fits_31 : decode cX6_fits 31 = .ok (.iload 5, 2) := by decide +kernel
theorem dX6_fits_33 : decode cX6_fits 33 = .ok (.iconst 0, 1) := by decide +kernel
theorem dX6_fits_34 : decode cX6_fits 34 = .ok (.iconst 2, 1) := by decide +kernel
theorem dX6_fits_35 : decode cX6_fits 35 = .ok (.invokestatic 71, 3) := by decide +kernel
theorem dX6_fits_38 : decode cX6_fits 38 = .ok (.ifCond .ne 6, 3) := by decide +kernel
theorem dX6_fits_41 : decode cX6_fits 41 = .ok (.ldc 75, 2) := by decide +kernel
theorem dX6_fits_43 : decode cX6_fits 43 = .ok (.ireturn, 1) := by decide +kernel
theorem dX6_fits_44 : decode cX6_fits 44 = .ok (.aload_n 0, 1) := by decide +kernel
theorem dX6_fits_45 : decode cX6_fits 45 = .ok (.getfield 11, 3) := by decide +kernel
theorem dX6_fits_48 : decode cX6_fits 48 = .ok (.iload 4, 2) := by decide +kernel
theorem dX6_fits_50 : decode cX6_fits 50 = .ok (.aaload, 1) := by decide +kernel
theorem dX6_fits_51 : decode cX6_fits 51 = .ok (.invokevirtual 87, 3) := by decide +kernel
theorem dX6_fits_54 : decode cX6_fits 54 = .ok (.ifCond .eq 9, 3) := by decide +kernel
theorem dX6_fits_57 : decode cX6_fits 57 = .ok (.aload_n 0, 1) := by decide +kernel
theorem dX6_fits_58 : decode cX6_fits 58 = .ok (.iconst 1, 1) := by decide +kernel
theorem dX6_fits_59 : decode cX6_fits 59 = .ok (.invokevirtual 76, 3) := by decide +kernel
theorem dX6_fits_62 : decode cX6_fits 62 = .ok (.ireturn, 1) := by decide +kernel
theorem dX6_fits_63 : decode cX6_fits 63 = .ok (.aload_n 0, 1) := by decide +kernel
theorem dX6_fits_64 : decode cX6_fits 64 = .ok (.getfield 11, 3) := by decide +kernel
theorem dX6_fits_67 : decode cX6_fits 67 = .ok (.iload 4, 2) := by decide +kernel
theorem dX6_fits_69 : decode cX6_fits 69 = .ok (.aaload, 1) := by decide +kernel
theorem dX6_fits_70 : decode cX6_fits 70 = .ok (.invokevirtual 91, 3) := by decide +kernel
theorem dX6_fits_73 : decode cX6_fits 73 = .ok (.ifCond .ne 9, 3) := by decide +kernel
theorem dX6_fits_76 : decode cX6_fits 76 = .ok (.aload_n 0, 1) := by decide +kernel
theorem dX6_fits_77 : decode cX6_fits 77 = .ok (.iconst 2, 1) := by decide +kernel
theorem dX6_fits_78 : decode cX6_fits 78 = .ok (.invokevirtual 76, 3) := by decide +kernel
theorem dX6_fits_81 : decode cX6_fits 81 = .ok (.ireturn, 1) := by decide +kernel
theorem dX6_fits_82 : decode cX6_fits 82 = .ok (.iload 5, 2) := by decide +kernel
theorem dX6_fits_84 : decode cX6_fits 84 = .ok (.ifCond .ne 7, 3) := by decide +kernel
theorem dX6_fits_87 : decode cX6_fits 87 = .ok (.iconst 1, 1) := by decide +kernel
theorem dX6_fits_88 : decode cX6_fits 88 = .ok (.goto 4, 3) := by decide +kernel
theorem dX6_fits_91 : decode cX6_fits 91 = .ok (.iconst 0, 1) := by decide +kernel
theorem dX6_fits_92 : decode cX6_fits 92 = .ok (.istore 6, 2) := by decide +kernel
theorem dX6_fits_94 : decode cX6_fits 94 = .ok (.iconst 0, 1) := by decide +kernel
theorem dX6_fits_95 : decode cX6_fits 95 = .ok (.istore 7, 2) := by decide +kernel
theorem dX6_fits_97 : decode cX6_fits 97 = .ok (.iload 6, 2) := by decide +kernel
theorem dX6_fits_99 : decode cX6_fits 99 = .ok (.istore 8, 2) := by decide +kernel
theorem dX6_fits_101 : decode cX6_fits 101 = .ok (.iload 8, 2) := by decide +kernel
theorem dX6_fits_103 : decode cX6_fits 103 = .ok (.aload_n 0, 1) := by decide +kernel
theorem dX6_fits_104 : decode cX6_fits 104 = .ok (.iload 5, 2) := by decide +kernel
theorem dX6_fits_106 : decode cX6_fits 106 = .ok (.invokevirtual 239, 3) := by decide +kernel
theorem dX6_fits_109 : decode cX6_fits 109 = .ok (.if_icmp .gt 68, 3) := by decide +kernel
theorem dX6_fits_112 : decode cX6_fits 112 = .ok (.aload_n 0, 1) := by decide +kernel
theorem dX6_fits_113 : decode cX6_fits 113 = .ok (.getfield 29, 3) := by decide +kernel
theorem dX6_fits_116 : decode cX6_fits 116 = .ok (.aload_n 0, 1) := by decide +kernel
theorem dX6_fits_117 : decode cX6_fits 117 = .ok (.getfield 25, 3) := by decide +kernel
theorem dX6_fits_120 : decode cX6_fits 120 = .ok (.invokevirtual 126, 3) := by decide +kernel
theorem dX6_fits_123 : decode cX6_fits 123 = .ok (.aload_n 0, 1) := by decide +kernel
theorem dX6_fits_124 : decode cX6_fits 124 = .ok (.iload_n 1, 1) := by decide +kernel
theorem dX6_fits_125 : decode cX6_fits 125 = .ok (.iload 5, 2) := by decide +kernel
theorem dX6_fits_127 : decode cX6_fits 127 = .ok (.iload 8, 2) := by decide +kernel
theorem dX6_fits_129 : decode cX6_fits 129 = .ok (.invokevirtual 242, 3) := by decide +kernel
theorem dX6_fits_132 : decode cX6_fits 132 = .ok (.aload_n 0, 1) := by decide +kernel
theorem dX6_fits_133 : decode cX6_fits 133 = .ok (.getfield 48, 3) := by decide +kernel
theorem dX6_fits_136 : decode cX6_fits 136 = .ok (.aload_n 0, 1) := by decide +kernel
theorem dX6_fits_137 : decode cX6_fits 137 = .ok (.getfield 29, 3) := by decide +kernel
theorem dX6_fits_140 : decode cX6_fits 140 = .ok (.iload_n 2, 1) := by decide +kernel
theorem dX6_fits_141 : decode cX6_fits 141 = .ok (.iload_n 3, 1) := by decide +kernel
theorem dX6_fits_142 : decode cX6_fits 142 = .ok (.invokevirtual 203, 3) := by decide +kernel
theorem dX6_fits_145 : decode cX6_fits 145 = .ok (.aload_n 0, 1) := by decide +kernel
theorem dX6_fits_146 : decode cX6_fits 146 = .ok (.getfield 48, 3) := by decide +kernel
theorem dX6_fits_149 : decode cX6_fits 149 = .ok (.aload_n 0, 1) := by decide +kernel
theorem dX6_fits_150 : decode cX6_fits 150 = .ok (.getfield 11, 3) := by decide +kernel
theorem dX6_fits_153 : decode cX6_fits 153 = .ok (.iload 4, 2) := by decide +kernel
theorem dX6_fits_155 : decode cX6_fits 155 = .ok (.aaload, 1) := by decide +kernel
theorem dX6_fits_156 : decode cX6_fits 156 = .ok (.invokevirtual 245, 3) := by decide +kernel
theorem dX6_fits_159 : decode cX6_fits 159 = .ok (.ifCond .eq 12, 3) := by decide +kernel
theorem dX6_fits_162 : decode cX6_fits 162 = .ok (.iload 7, 2) := by decide +kernel
theorem dX6_fits_164 : decode cX6_fits 164 = .ok (.iconst 1, 1) := by decide +kernel
theorem dX6_fits_165 : decode cX6_fits 165 = .ok (.iload 8, 2) := by decide +kernel
theorem dX6_fits_167 : decode cX6_fits 167 = .ok (.ishl, 1) := by decide +kernel
theorem dX6_fits_168 : decode cX6_fits 168 = .ok (.ior, 1) := by decide +kernel
theorem dX6_fits_169 : decode cX6_fits 169 = .ok (.istore 7, 2) := by decide +kernel
theorem dX6_fits_171 : decode cX6_fits 171 = .ok (.iinc 8 1, 3) := by decide +kernel
theorem dX6_fits_174 : decode cX6_fits 174 = .ok (.goto (-73), 3) := by decide +kernel
theorem dX6_fits_177 : decode cX6_fits 177 = .ok (.aload_n 0, 1) := by decide +kernel
theorem dX6_fits_178 : decode cX6_fits 178 = .ok (.iload 7, 2) := by decide +kernel
theorem dX6_fits_180 : decode cX6_fits 180 = .ok (.invokevirtual 84, 3) := by decide +kernel
theorem dX6_fits_183 : decode cX6_fits 183 = .ok (.ireturn, 1) := by decide +kernel
theorem dX6_drawn_0 : decode cX6_drawn 0 = .ok (.aload_n 0, 1) := by decide +kernel
theorem dX6_drawn_1 : decode cX6_drawn 1 = .ok (.getfield 25, 3) := by decide +kernel
theorem dX6_drawn_4 : decode cX6_drawn 4 = .ok (.invokevirtual 131, 3) := by decide +kernel
theorem dX6_drawn_7 : decode cX6_drawn 7 = .ok (.istore 4, 2) := by decide +kernel
theorem dX6_drawn_9 : decode cX6_drawn 9 = .ok (.iload 4, 2) := by decide +kernel
theorem dX6_drawn_11 : decode cX6_drawn 11 = .ok (.ifCond .ne 6, 3) := by decide +kernel
theorem dX6_drawn_14 : decode cX6_drawn 14 = .ok (.ldc 144, 2) := by decide +kernel
theorem dX6_drawn_16 : decode cX6_drawn 16 = .ok (.ireturn, 1) := by decide +kernel
theorem dX6_drawn_17 : decode cX6_drawn 17 = .ok (.iload_n 1, 1) := by decide +kernel
theorem dX6_drawn_18 : decode cX6_drawn 18 = .ok (.iconst 0, 1) := by decide +kernel
theorem dX6_drawn_19 : decode cX6_drawn 19 = .ok (.bipush 20, 2) := by decide +kernel
theorem dX6_drawn_21 : decode cX6_drawn 21 = .ok (.invokestatic 71, 3) := by decide +kernel
theorem dX6_drawn_24 : decode cX6_drawn 24 = .ok (.ifCond .eq 22, 3) := by decide +kernel
theorem dX6_drawn_27 : decode cX6_drawn 27 = .ok (.iload_n 2, 1) := by decide +kernel
theorem dX6_drawn_28 : decode cX6_drawn 28 = .ok (.iconst 1, 1) := by decide +kernel
theorem dX6_drawn_29 : decode cX6_drawn 29 = .ok (.ldc 249, 2) := by decide +kernel
theorem dX6_drawn_31 : decode cX6_drawn 31 = .ok (.invokestatic 71, 3) := by decide +kernel
theorem dX6_drawn_34 : decode cX6_drawn 34 = .ok (.ifCond .eq 12, 3) := by decide +kernel
theorem dX6_drawn_37 : decode cX6_drawn 37 = .ok (.iload_n 3, 1) := by decide +kernel
theorem dX6_drawn_38 : decode cX6_drawn 38 = .ok (.iconst 0, 1) := by decide +kernel
theorem dX6_drawn_39 : decode cX6_drawn 39 = .ok (.iconst 1, 1) := by decide +kernel
theorem dX6_drawn_40 : decode cX6_drawn 40 = .ok (.invokestatic 71, 3) := by decide +kernel
theorem dX6_drawn_43 : decode cX6_drawn 43 = .ok (.ifCond .ne 6, 3) := by decide +kernel
theorem dX6_drawn_46 : decode cX6_drawn 46 = .ok (.ldc 75, 2) := by decide +kernel
theorem dX6_drawn_48 : decode cX6_drawn 48 = .ok (.ireturn, 1) := by decide +kernel
theorem dX6_drawn_49 : decode cX6_drawn 49 = .ok (.iload_n 2, 1) := by decide +kernel
theorem dX6_drawn_50 : decode cX6_drawn 50 = .ok (.i2l, 1) := by decide +kernel
theorem dX6_drawn_51 : decode cX6_drawn 51 = .ok (.lstore 5, 2) := by decide +kernel
theorem dX6_drawn_53 : decode cX6_drawn 53 = .ok (.iconst 0, 1) := by decide +kernel
theorem dX6_drawn_54 : decode cX6_drawn 54 = .ok (.istore 7, 2) := by decide +kernel
theorem dX6_drawn_56 : decode cX6_drawn 56 = .ok (.iconst 0, 1) := by decide +kernel
theorem dX6_drawn_57 : decode cX6_drawn 57 = .ok (.istore 8, 2) := by decide +kernel
theorem dX6_drawn_59 : decode cX6_drawn 59 = .ok (.iload 8, 2) := by decide +kernel
theorem dX6_drawn_61 : decode cX6_drawn 61 = .ok (.iload_n 1, 1) := by decide +kernel
theorem dX6_drawn_62 : decode cX6_drawn 62 = .ok (.if_icmp .ge 94, 3) := by decide +kernel
theorem dX6_drawn_65 : decode cX6_drawn 65 = .ok (.lload 5, 2) := by decide +kernel
theorem dX6_drawn_67 : decode cX6_drawn 67 = .ok (.ldc2_w 250, 3) := by decide +kernel
theorem dX6_drawn_70 : decode cX6_drawn 70 = .ok (.lmul, 1) := by decide +kernel
theorem dX6_drawn_71 : decode cX6_drawn 71 = .ok (.ldc2_w 252, 3) := by decide +kernel
theorem dX6_drawn_74 : decode cX6_drawn 74 = .ok (.lrem, 1) := by decide +kernel
theorem dX6_drawn_75 : decode cX6_drawn 75 = .ok (.lstore 5, 2) := by decide +kernel
theorem dX6_drawn_77 : decode cX6_drawn 77 = .ok (.aload_n 0, 1) := by decide +kernel
theorem dX6_drawn_78 : decode cX6_drawn 78 = .ok (.getfield 48, 3) := by decide +kernel
theorem dX6_drawn_81 : decode cX6_drawn 81 = .ok (.aload_n 0, 1) := by decide +kernel
theorem dX6_drawn_82 : decode cX6_drawn 82 = .ok (.getfield 25, 3) := by decide +kernel
theorem dX6_drawn_85 : decode cX6_drawn 85 = .ok (.lload 5, 2) := by decide +kernel
theorem dX6_drawn_87 : decode cX6_drawn 87 = .ok (.iload 4, 2) := by decide +kernel
theorem dX6_drawn_89 : decode cX6_drawn 89 = .ok (.i2l, 1) := by decide +kernel
theorem dX6_drawn_90 : decode cX6_drawn 90 = .ok (.lrem, 1) := by decide +kernel
theorem dX6_drawn_91 : decode cX6_drawn 91 = .ok (.l2i, 1) := by decide +kernel
theorem dX6_drawn_92 : decode cX6_drawn 92 = .ok (.lload 5, 2) := by decide +kernel
theorem dX6_drawn_94 : decode cX6_drawn 94 = .ok (.ldc2_w 254, 3) := by decide +kernel
theorem dX6_drawn_97 : decode cX6_drawn 97 = .ok (.ldiv, 1) := by decide +kernel
theorem dX6_drawn_98 : decode cX6_drawn 98 = .ok (.ldc2_w 256, 3) := by decide +kernel
theorem dX6_drawn_101 : decode cX6_drawn 101 = .ok (.lrem, 1) := by decide +kernel
theorem dX6_drawn_102 : decode cX6_drawn 102 = .ok (.l2i, 1) := by decide +kernel
theorem dX6_drawn_103 : decode cX6_drawn 103 = .ok (.invokevirtual 203, 3) := by decide +kernel
theorem dX6_drawn_106 : decode cX6_drawn 106 = .ok (.aload_n 0, 1) := by decide +kernel
theorem dX6_drawn_107 : decode cX6_drawn 107 = .ok (.getfield 48, 3) := by decide +kernel
theorem dX6_drawn_110 : decode cX6_drawn 110 = .ok (.invokevirtual 206, 3) := by decide +kernel
theorem dX6_drawn_113 : decode cX6_drawn 113 = .ok (.ifCond .ne 37, 3) := by decide +kernel
theorem dX6_drawn_116 : decode cX6_drawn 116 = .ok (.iload 7, 2) := by decide +kernel
theorem dX6_drawn_118 : decode cX6_drawn 118 = .ok (.iload_n 3, 1) := by decide +kernel
theorem dX6_drawn_119 : decode cX6_drawn 119 = .ok (.ifCond .ne 13, 3) := by decide +kernel
theorem dX6_drawn_122 : decode cX6_drawn 122 = .ok (.aload_n 0, 1) := by decide +kernel
theorem dX6_drawn_123 : decode cX6_drawn 123 = .ok (.getfield 48, 3) := by decide +kernel
theorem dX6_drawn_126 : decode cX6_drawn 126 = .ok (.invokevirtual 209, 3) := by decide +kernel
theorem dX6_drawn_129 : decode cX6_drawn 129 = .ok (.goto 18, 3) := by decide +kernel
theorem dX6_drawn_132 : decode cX6_drawn 132 = .ok (.aload_n 0, 1) := by decide +kernel
theorem dX6_drawn_133 : decode cX6_drawn 133 = .ok (.getfield 48, 3) := by decide +kernel
theorem dX6_drawn_136 : decode cX6_drawn 136 = .ok (.invokevirtual 225, 3) := by decide +kernel
theorem dX6_drawn_139 : decode cX6_drawn 139 = .ok (.ifCond .eq 7, 3) := by decide +kernel
theorem dX6_drawn_142 : decode cX6_drawn 142 = .ok (.iconst 1, 1) := by decide +kernel
theorem dX6_drawn_143 : decode cX6_drawn 143 = .ok (.goto 4, 3) := by decide +kernel
theorem dX6_drawn_146 : decode cX6_drawn 146 = .ok (.iconst 0, 1) := by decide +kernel
theorem dX6_drawn_147 : decode cX6_drawn 147 = .ok (.iadd, 1) := by decide +kernel
theorem dX6_drawn_148 : decode cX6_drawn 148 = .ok (.istore 7, 2) := by decide +kernel
theorem dX6_drawn_150 : decode cX6_drawn 150 = .ok (.iinc 8 1, 3) := by decide +kernel
theorem dX6_drawn_153 : decode cX6_drawn 153 = .ok (.goto (-94), 3) := by decide +kernel
theorem dX6_drawn_156 : decode cX6_drawn 156 = .ok (.iload 7, 2) := by decide +kernel
theorem dX6_drawn_158 : decode cX6_drawn 158 = .ok (.ireturn, 1) := by decide +kernel
theorem dX6_image_0 : decode cX6_image 0 = .ok (.iload_n 1, 1) := by decide +kernel
theorem dX6_image_1 : decode cX6_image 1 = .ok (.invokestatic 258, 3) := by decide +kernel
theorem dX6_image_4 : decode cX6_image 4 = .ok (.ifCond .ne 6, 3) := by decide +kernel
theorem dX6_image_7 : decode cX6_image 7 = .ok (.ldc 75, 2) := by decide +kernel
theorem dX6_image_9 : decode cX6_image 9 = .ok (.ireturn, 1) := by decide +kernel
