theorem dX7_readsAdvice_145 : decode cX7_readsAdvice 145 = .ok (.iload_n 2, 1) := by decide +kernel
theorem dX7_readsAdvice_146 : decode cX7_readsAdvice 146 = .ok (.iconst 2, 1) := by decide +kernel
theorem dX7_readsAdvice_147 : decode cX7_readsAdvice 147 = .ok (.iadd, 1) := by decide +kernel
theorem dX7_readsAdvice_148 : decode cX7_readsAdvice 148 = .ok (.iload 4, 2) := by decide +kernel
theorem dX7_readsAdvice_150 : decode cX7_readsAdvice 150 = .ok (.iastore, 1) := by decide +kernel
theorem dX7_readsAdvice_151 : decode cX7_readsAdvice 151 = .ok (.aload_n 0, 1) := by decide +kernel
theorem dX7_readsAdvice_152 : decode cX7_readsAdvice 152 = .ok (.getfield 28, 3) := by decide +kernel
theorem dX7_readsAdvice_155 : decode cX7_readsAdvice 155 = .ok (.iload_n 2, 1) := by decide +kernel
theorem dX7_readsAdvice_156 : decode cX7_readsAdvice 156 = .ok (.iconst 3, 1) := by decide +kernel
theorem dX7_readsAdvice_157 : decode cX7_readsAdvice 157 = .ok (.iadd, 1) := by decide +kernel
theorem dX7_readsAdvice_158 : decode cX7_readsAdvice 158 = .ok (.iload 5, 2) := by decide +kernel
theorem dX7_readsAdvice_160 : decode cX7_readsAdvice 160 = .ok (.iastore, 1) := by decide +kernel
theorem dX7_readsAdvice_161 : decode cX7_readsAdvice 161 = .ok (.aload_n 0, 1) := by decide +kernel
theorem dX7_readsAdvice_162 : decode cX7_readsAdvice 162 = .ok (.getfield 28, 3) := by decide +kernel
theorem dX7_readsAdvice_165 : decode cX7_readsAdvice 165 = .ok (.iload_n 2, 1) := by decide +kernel
theorem dX7_readsAdvice_166 : decode cX7_readsAdvice 166 = .ok (.iconst 4, 1) := by decide +kernel
theorem dX7_readsAdvice_167 : decode cX7_readsAdvice 167 = .ok (.iadd, 1) := by decide +kernel
theorem dX7_readsAdvice_168 : decode cX7_readsAdvice 168 = .ok (.iload 6, 2) := by decide +kernel
theorem dX7_readsAdvice_170 : decode cX7_readsAdvice 170 = .ok (.iastore, 1) := by decide +kernel
theorem dX7_readsAdvice_171 : decode cX7_readsAdvice 171 = .ok (.aload_n 0, 1) := by decide +kernel
theorem dX7_readsAdvice_172 : decode cX7_readsAdvice 172 = .ok (.getfield 28, 3) := by decide +kernel
theorem dX7_readsAdvice_175 : decode cX7_readsAdvice 175 = .ok (.iload_n 2, 1) := by decide +kernel
theorem dX7_readsAdvice_176 : decode cX7_readsAdvice 176 = .ok (.iconst 5, 1) := by decide +kernel
theorem dX7_readsAdvice_177 : decode cX7_readsAdvice 177 = .ok (.iadd, 1) := by decide +kernel
theorem dX7_readsAdvice_178 : decode cX7_readsAdvice 178 = .ok (.iload 7, 2) := by decide +kernel
theorem dX7_readsAdvice_180 : decode cX7_readsAdvice 180 = .ok (.iastore, 1) := by decide +kernel
theorem dX7_readsAdvice_181 : decode cX7_readsAdvice 181 = .ok (.aload_n 0, 1) := by decide +kernel
theorem dX7_readsAdvice_182 : decode cX7_readsAdvice 182 = .ok (.getfield 28, 3) := by decide +kernel
theorem dX7_readsAdvice_185 : decode cX7_readsAdvice 185 = .ok (.iconst 1, 1) := by decide +kernel
theorem dX7_readsAdvice_186 : decode cX7_readsAdvice 186 = .ok (.dup2, 1) := by decide +kernel
theorem dX7_readsAdvice_187 : decode cX7_readsAdvice 187 = .ok (.iaload, 1) := by decide +kernel
theorem dX7_readsAdvice_188 : decode cX7_readsAdvice 188 = .ok (.iconst 1, 1) := by decide +kernel
theorem dX7_readsAdvice_189 : decode cX7_readsAdvice 189 = .ok (.iadd, 1) := by decide +kernel
theorem dX7_readsAdvice_190 : decode cX7_readsAdvice 190 = .ok (.iastore, 1) := by decide +kernel
theorem dX7_readsAdvice_191 : decode cX7_readsAdvice 191 = .ok (.return_, 1) := by decide +kernel
theorem dX7_areThere_0 : decode cX7_areThere 0 = .ok (.iconst 1, 1) := by decide +kernel
theorem dX7_areThere_1 : decode cX7_areThere 1 = .ok (.istore_n 1, 1) := by decide +kernel
theorem dX7_areThere_2 : decode cX7_areThere 2 = .ok (.iconst 0, 1) := by decide +kernel
theorem dX7_areThere_3 : decode cX7_areThere 3 = .ok (.istore_n 2, 1) := by decide +kernel
theorem dX7_areThere_4 : decode cX7_areThere 4 = .ok (.iload_n 2, 1) := by decide +kernel
theorem dX7_areThere_5 : decode cX7_areThere 5 = .ok (.aload_n 0, 1) := by decide +kernel
theorem dX7_areThere_6 : decode cX7_areThere 6 = .ok (.iconst 0, 1) := by decide +kernel
theorem dX7_areThere_7 : decode cX7_areThere 7 = .ok (.iaload, 1) := by decide +kernel
theorem dX7_areThere_8 : decode cX7_areThere 8 = .ok (.if_icmp .ge 81, 3) := by decide +kernel
theorem dX7_areThere_11 : decode cX7_areThere 11 = .ok (.iconst 0, 1) := by decide +kernel
theorem dX7_areThere_12 : decode cX7_areThere 12 = .ok (.istore_n 3, 1) := by decide +kernel
theorem dX7_areThere_13 : decode cX7_areThere 13 = .ok (.iload_n 3, 1) := by decide +kernel
theorem dX7_areThere_14 : decode cX7_areThere 14 = .ok (.aload_n 0, 1) := by decide +kernel
theorem dX7_areThere_15 : decode cX7_areThere 15 = .ok (.iconst 2, 1) := by decide +kernel
theorem dX7_areThere_16 : decode cX7_areThere 16 = .ok (.bipush 10, 2) := by decide +kernel
theorem dX7_areThere_18 : decode cX7_areThere 18 = .ok (.iload_n 2, 1) := by decide +kernel
theorem dX7_areThere_19 : decode cX7_areThere 19 = .ok (.imul, 1) := by decide +kernel
theorem dX7_areThere_20 : decode cX7_areThere 20 = .ok (.iadd, 1) := by decide +kernel
theorem dX7_areThere_21 : decode cX7_areThere 21 = .ok (.iconst 1, 1) := by decide +kernel
theorem dX7_areThere_22 : decode cX7_areThere 22 = .ok (.iadd, 1) := by decide +kernel
theorem dX7_areThere_23 : decode cX7_areThere 23 = .ok (.iaload, 1) := by decide +kernel
theorem dX7_areThere_24 : decode cX7_areThere 24 = .ok (.if_icmp .ge 59, 3) := by decide +kernel
theorem dX7_areThere_27 : decode cX7_areThere 27 = .ok (.iload_n 1, 1) := by decide +kernel
theorem dX7_areThere_28 : decode cX7_areThere 28 = .ok (.ifCond .eq 47, 3) := by decide +kernel
theorem dX7_areThere_31 : decode cX7_areThere 31 = .ok (.aload_n 0, 1) := by decide +kernel
theorem dX7_areThere_32 : decode cX7_areThere 32 = .ok (.iconst 2, 1) := by decide +kernel
theorem dX7_areThere_33 : decode cX7_areThere 33 = .ok (.bipush 10, 2) := by decide +kernel
theorem dX7_areThere_35 : decode cX7_areThere 35 = .ok (.iload_n 2, 1) := by decide +kernel
theorem dX7_areThere_36 : decode cX7_areThere 36 = .ok (.imul, 1) := by decide +kernel
theorem dX7_areThere_37 : decode cX7_areThere 37 = .ok (.iadd, 1) := by decide +kernel
theorem dX7_areThere_38 : decode cX7_areThere 38 = .ok (.iconst 2, 1) := by decide +kernel
theorem dX7_areThere_39 : decode cX7_areThere 39 = .ok (.iadd, 1) := by decide +kernel
theorem dX7_areThere_40 : decode cX7_areThere 40 = .ok (.iconst 2, 1) := by decide +kernel
theorem dX7_areThere_41 : decode cX7_areThere 41 = .ok (.iload_n 3, 1) := by decide +kernel
theorem dX7_areThere_42 : decode cX7_areThere 42 = .ok (.imul, 1) := by decide +kernel
theorem dX7_areThere_43 : decode cX7_areThere 43 = .ok (.iadd, 1) := by decide +kernel
theorem dX7_areThere_44 : decode cX7_areThere 44 = .ok (.iaload, 1) := by decide +kernel
theorem dX7_areThere_45 : decode cX7_areThere 45 = .ok (.iconst 1, 1) := by decide +kernel
theorem dX7_areThere_46 : decode cX7_areThere 46 = .ok (.if_icmp .ne 25, 3) := by decide +kernel
theorem dX7_areThere_49 : decode cX7_areThere 49 = .ok (.aload_n 0, 1) := by decide +kernel
theorem dX7_areThere_50 : decode cX7_areThere 50 = .ok (.iconst 2, 1) := by decide +kernel
theorem dX7_areThere_51 : decode cX7_areThere 51 = .ok (.bipush 10, 2) := by decide +kernel
theorem dX7_areThere_53 : decode cX7_areThere 53 = .ok (.iload_n 2, 1) := by decide +kernel
theorem dX7_areThere_54 : decode cX7_areThere 54 = .ok (.imul, 1) := by decide +kernel
theorem dX7_areThere_55 : decode cX7_areThere 55 = .ok (.iadd, 1) := by decide +kernel
theorem dX7_areThere_56 : decode cX7_areThere 56 = .ok (.iconst 2, 1) := by decide +kernel
theorem dX7_areThere_57 : decode cX7_areThere 57 = .ok (.iadd, 1) := by decide +kernel
theorem dX7_areThere_58 : decode cX7_areThere 58 = .ok (.iconst 2, 1) := by decide +kernel
theorem dX7_areThere_59 : decode cX7_areThere 59 = .ok (.iload_n 3, 1) := by decide +kernel
theorem dX7_areThere_60 : decode cX7_areThere 60 = .ok (.imul, 1) := by decide +kernel
theorem dX7_areThere_61 : decode cX7_areThere 61 = .ok (.iadd, 1) := by decide +kernel
theorem dX7_areThere_62 : decode cX7_areThere 62 = .ok (.iconst 1, 1) := by decide +kernel
theorem dX7_areThere_63 : decode cX7_areThere 63 = .ok (.iadd, 1) := by decide +kernel
theorem dX7_areThere_64 : decode cX7_areThere 64 = .ok (.iaload, 1) := by decide +kernel
theorem dX7_areThere_65 : decode cX7_areThere 65 = .ok (.aload_n 0, 1) := by decide +kernel
theorem dX7_areThere_66 : decode cX7_areThere 66 = .ok (.iconst 0, 1) := by decide +kernel
theorem dX7_areThere_67 : decode cX7_areThere 67 = .ok (.iaload, 1) := by decide +kernel
theorem dX7_areThere_68 : decode cX7_areThere 68 = .ok (.if_icmp .ge 7, 3) := by decide +kernel
theorem dX7_areThere_71 : decode cX7_areThere 71 = .ok (.iconst 1, 1) := by decide +kernel
theorem dX7_areThere_72 : decode cX7_areThere 72 = .ok (.goto 4, 3) := by decide +kernel
theorem dX7_areThere_75 : decode cX7_areThere 75 = .ok (.iconst 0, 1) := by decide +kernel
theorem dX7_areThere_76 : decode cX7_areThere 76 = .ok (.istore_n 1, 1) := by decide +kernel
theorem dX7_areThere_77 : decode cX7_areThere 77 = .ok (.iinc 3 1, 3) := by decide +kernel
theorem dX7_areThere_80 : decode cX7_areThere 80 = .ok (.goto (-67), 3) := by decide +kernel
theorem dX7_areThere_83 : decode cX7_areThere 83 = .ok (.iinc 2 1, 3) := by decide +kernel
theorem dX7_areThere_86 : decode cX7_areThere 86 = .ok (.goto (-82), 3) := by decide +kernel
theorem dX7_areThere_89 : decode cX7_areThere 89 = .ok (.iload_n 1, 1) := by decide +kernel
theorem dX7_areThere_90 : decode cX7_areThere 90 = .ok (.ireturn, 1) := by decide +kernel
theorem dX7_weave_0 : decode cX7_weave 0 = .ok (.iconst 0, 1) := by decide +kernel
theorem dX7_weave_1 : decode cX7_weave 1 = .ok (.istore_n 1, 1) := by decide +kernel
theorem dX7_weave_2 : decode cX7_weave 2 = .ok (.iload_n 1, 1) := by decide +kernel
theorem dX7_weave_3 : decode cX7_weave 3 = .ok (.bipush 92, 2) := by decide +kernel
theorem dX7_weave_5 : decode cX7_weave 5 = .ok (.if_icmp .ge 16, 3) := by decide +kernel
theorem dX7_weave_8 : decode cX7_weave 8 = .ok (.aload_n 0, 1) := by decide +kernel
theorem dX7_weave_9 : decode cX7_weave 9 = .ok (.getfield 28, 3) := by decide +kernel
theorem dX7_weave_12 : decode cX7_weave 12 = .ok (.iload_n 1, 1) := by decide +kernel
theorem dX7_weave_13 : decode cX7_weave 13 = .ok (.iconst 0, 1) := by decide +kernel
theorem dX7_weave_14 : decode cX7_weave 14 = .ok (.iastore, 1) := by decide +kernel
theorem dX7_weave_15 : decode cX7_weave 15 = .ok (.iinc 1 1, 3) := by decide +kernel
theorem dX7_weave_18 : decode cX7_weave 18 = .ok (.goto (-16), 3) := by decide +kernel
theorem dX7_weave_21 : decode cX7_weave 21 = .ok (.aload_n 0, 1) := by decide +kernel
theorem dX7_weave_22 : decode cX7_weave 22 = .ok (.iconst 0, 1) := by decide +kernel
theorem dX7_weave_23 : decode cX7_weave 23 = .ok (.putfield 92, 3) := by decide +kernel
theorem dX7_weave_26 : decode cX7_weave 26 = .ok (.aload_n 0, 1) := by decide +kernel
theorem dX7_weave_27 : decode cX7_weave 27 = .ok (.iconst (-1), 1) := by decide +kernel
theorem dX7_weave_28 : decode cX7_weave 28 = .ok (.putfield 107, 3) := by decide +kernel
theorem dX7_weave_31 : decode cX7_weave 31 = .ok (.aload_n 0, 1) := by decide +kernel
theorem dX7_weave_32 : decode cX7_weave 32 = .ok (.invokevirtual 117, 3) := by decide +kernel
theorem dX7_weave_35 : decode cX7_weave 35 = .ok (.aload_n 0, 1) := by decide +kernel
theorem dX7_weave_36 : decode cX7_weave 36 = .ok (.invokevirtual 110, 3) := by decide +kernel
theorem dX7_weave_39 : decode cX7_weave 39 = .ok (.ifCond .eq 27, 3) := by decide +kernel
theorem dX7_weave_42 : decode cX7_weave 42 = .ok (.aload_n 0, 1) := by decide +kernel
theorem dX7_weave_43 : decode cX7_weave 43 = .ok (.getfield 104, 3) := by decide +kernel
theorem dX7_weave_46 : decode cX7_weave 46 = .ok (.iconst 1, 1) := by decide +kernel
theorem dX7_weave_47 : decode cX7_weave 47 = .ok (.if_icmp .ne 19, 3) := by decide +kernel
theorem dX7_weave_50 : decode cX7_weave 50 = .ok (.aload_n 0, 1) := by decide +kernel
theorem dX7_weave_51 : decode cX7_weave 51 = .ok (.getfield 101, 3) := by decide +kernel
theorem dX7_weave_54 : decode cX7_weave 54 = .ok (.bipush 109, 2) := by decide +kernel
theorem dX7_weave_56 : decode cX7_weave 56 = .ok (.if_icmp .ne 10, 3) := by decide +kernel
theorem dX7_weave_59 : decode cX7_weave 59 = .ok (.aload_n 0, 1) := by decide +kernel
theorem dX7_weave_60 : decode cX7_weave 60 = .ok (.invokevirtual 136, 3) := by decide +kernel
theorem dX7_weave_63 : decode cX7_weave 63 = .ok (.goto (-28), 3) := by decide +kernel
theorem dX7_weave_66 : decode cX7_weave 66 = .ok (.aload_n 0, 1) := by decide +kernel
theorem dX7_weave_67 : decode cX7_weave 67 = .ok (.aload_n 0, 1) := by decide +kernel
theorem dX7_weave_68 : decode cX7_weave 68 = .ok (.getfield 28, 3) := by decide +kernel
theorem dX7_weave_71 : decode cX7_weave 71 = .ok (.iconst 0, 1) := by decide +kernel
theorem dX7_weave_72 : decode cX7_weave 72 = .ok (.iaload, 1) := by decide +kernel
theorem dX7_weave_73 : decode cX7_weave 73 = .ok (.ifCond .le 7, 3) := by decide +kernel
theorem dX7_weave_76 : decode cX7_weave 76 = .ok (.iconst 1, 1) := by decide +kernel
theorem dX7_weave_77 : decode cX7_weave 77 = .ok (.goto 4, 3) := by decide +kernel
theorem dX7_weave_80 : decode cX7_weave 80 = .ok (.iconst 0, 1) := by decide +kernel
theorem dX7_weave_81 : decode cX7_weave 81 = .ok (.iconst 1, 1) := by decide +kernel
theorem dX7_weave_82 : decode cX7_weave 82 = .ok (.invokevirtual 139, 3) := by decide +kernel
theorem dX7_weave_85 : decode cX7_weave 85 = .ok (.aload_n 0, 1) := by decide +kernel
theorem dX7_weave_86 : decode cX7_weave 86 = .ok (.invokevirtual 110, 3) := by decide +kernel
theorem dX7_weave_89 : decode cX7_weave 89 = .ok (.ifCond .eq 28, 3) := by decide +kernel
theorem dX7_weave_92 : decode cX7_weave 92 = .ok (.aload_n 0, 1) := by decide +kernel
theorem dX7_weave_93 : decode cX7_weave 93 = .ok (.getfield 104, 3) := by decide +kernel
theorem dX7_weave_96 : decode cX7_weave 96 = .ok (.iconst 1, 1) := by decide +kernel
theorem dX7_weave_97 : decode cX7_weave 97 = .ok (.if_icmp .ne 20, 3) := by decide +kernel
theorem dX7_weave_100 : decode cX7_weave 100 = .ok (.aload_n 0, 1) := by decide +kernel
theorem dX7_weave_101 : decode cX7_weave 101 = .ok (.getfield 101, 3) := by decide +kernel
theorem dX7_weave_104 : decode cX7_weave 104 = .ok (.invokestatic 130, 3) := by decide +kernel
theorem dX7_weave_107 : decode cX7_weave 107 = .ok (.ifCond .le 10, 3) := by decide +kernel
theorem dX7_weave_110 : decode cX7_weave 110 = .ok (.aload_n 0, 1) := by decide +kernel
theorem dX7_weave_111 : decode cX7_weave 111 = .ok (.invokevirtual 143, 3) := by decide +kernel
theorem dX7_weave_114 : decode cX7_weave 114 = .ok (.goto (-29), 3) := by decide +kernel
theorem dX7_weave_117 : decode cX7_weave 117 = .ok (.aload_n 0, 1) := by decide +kernel
theorem dX7_weave_118 : decode cX7_weave 118 = .ok (.aload_n 0, 1) := by decide +kernel
theorem dX7_weave_119 : decode cX7_weave 119 = .ok (.getfield 104, 3) := by decide +kernel
theorem dX7_weave_122 : decode cX7_weave 122 = .ok (.ifCond .ne 7, 3) := by decide +kernel
theorem dX7_weave_125 : decode cX7_weave 125 = .ok (.iconst 1, 1) := by decide +kernel
theorem dX7_weave_126 : decode cX7_weave 126 = .ok (.goto 4, 3) := by decide +kernel
theorem dX7_weave_129 : decode cX7_weave 129 = .ok (.iconst 0, 1) := by decide +kernel
theorem dX7_weave_130 : decode cX7_weave 130 = .ok (.iconst 1, 1) := by decide +kernel
theorem dX7_weave_131 : decode cX7_weave 131 = .ok (.invokevirtual 139, 3) := by decide +kernel
theorem dX7_weave_134 : decode cX7_weave 134 = .ok (.aload_n 0, 1) := by decide +kernel
theorem dX7_weave_135 : decode cX7_weave 135 = .ok (.aload_n 0, 1) := by decide +kernel
theorem dX7_weave_136 : decode cX7_weave 136 = .ok (.getfield 28, 3) := by decide +kernel
theorem dX7_weave_139 : decode cX7_weave 139 = .ok (.invokestatic 146, 3) := by decide +kernel
theorem dX7_weave_142 : decode cX7_weave 142 = .ok (.iconst 4, 1) := by decide +kernel
theorem dX7_weave_143 : decode cX7_weave 143 = .ok (.invokevirtual 139, 3) := by decide +kernel
theorem dX7_weave_146 : decode cX7_weave 146 = .ok (.aload_n 0, 1) := by decide +kernel
theorem dX7_weave_147 : decode cX7_weave 147 = .ok (.iconst 0, 1) := by decide +kernel
theorem dX7_weave_148 : decode cX7_weave 148 = .ok (.putfield 88, 3) := by decide +kernel
theorem dX7_weave_151 : decode cX7_weave 151 = .ok (.aload_n 0, 1) := by decide +kernel
theorem dX7_weave_152 : decode cX7_weave 152 = .ok (.invokevirtual 110, 3) := by decide +kernel
theorem dX7_weave_155 : decode cX7_weave 155 = .ok (.ifCond .ne 11, 3) := by decide +kernel
theorem dX7_weave_158 : decode cX7_weave 158 = .ok (.ldc 150, 2) := by decide +kernel
theorem dX7_weave_160 : decode cX7_weave 160 = .ok (.aload_n 0, 1) := by decide +kernel
theorem dX7_weave_161 : decode cX7_weave 161 = .ok (.getfield 107, 3) := by decide +kernel
theorem dX7_weave_164 : decode cX7_weave 164 = .ok (.isub, 1) := by decide +kernel
theorem dX7_weave_165 : decode cX7_weave 165 = .ok (.ireturn, 1) := by decide +kernel
theorem dX7_weave_166 : decode cX7_weave 166 = .ok (.aload_n 0, 1) := by decide +kernel
theorem dX7_weave_167 : decode cX7_weave 167 = .ok (.getfield 28, 3) := by decide +kernel
theorem dX7_weave_170 : decode cX7_weave 170 = .ok (.iconst 0, 1) := by decide +kernel
theorem dX7_weave_171 : decode cX7_weave 171 = .ok (.aload_n 0, 1) := by decide +kernel
theorem dX7_weave_172 : decode cX7_weave 172 = .ok (.getfield 25, 3) := by decide +kernel
theorem dX7_weave_175 : decode cX7_weave 175 = .ok (.iconst 0, 1) := by decide +kernel
theorem dX7_weave_176 : decode cX7_weave 176 = .ok (.invokestatic 151, 3) := by decide +kernel
theorem dX7_weave_179 : decode cX7_weave 179 = .ok (.aload_n 0, 1) := by decide +kernel
theorem dX7_weave_180 : decode cX7_weave 180 = .ok (.iconst 0, 1) := by decide +kernel
theorem dX7_weave_181 : decode cX7_weave 181 = .ok (.putfield 155, 3) := by decide +kernel
theorem dX7_weave_184 : decode cX7_weave 184 = .ok (.aload_n 0, 1) := by decide +kernel
theorem dX7_weave_185 : decode cX7_weave 185 = .ok (.getfield 25, 3) := by decide +kernel
theorem dX7_weave_188 : decode cX7_weave 188 = .ok (.iconst 0, 1) := by decide +kernel
theorem dX7_weave_189 : decode cX7_weave 189 = .ok (.iaload, 1) := by decide +kernel
theorem dX7_weave_190 : decode cX7_weave 190 = .ok (.ireturn, 1) := by decide +kernel
theorem dX7_fault_0 : decode cX7_fault 0 = .ok (.aload_n 0, 1) := by decide +kernel
theorem dX7_fault_1 : decode cX7_fault 1 = .ok (.getfield 114, 3) := by decide +kernel
theorem dX7_fault_4 : decode cX7_fault 4 = .ok (.ireturn, 1) := by decide +kernel
theorem dX7_isWeave_0 : decode cX7_isWeave 0 = .ok (.aload_n 0, 1) := by decide +kernel
theorem dX7_isWeave_1 : decode cX7_isWeave 1 = .ok (.getfield 25, 3) := by decide +kernel
theorem dX7_isWeave_4 : decode cX7_isWeave 4 = .ok (.iconst 0, 1) := by decide +kernel
theorem dX7_isWeave_5 : decode cX7_isWeave 5 = .ok (.iaload, 1) := by decide +kernel
theorem dX7_isWeave_6 : decode cX7_isWeave 6 = .ok (.ifCond .le 7, 3) := by decide +kernel
theorem dX7_isWeave_9 : decode cX7_isWeave 9 = .ok (.iconst 1, 1) := by decide +kernel
theorem dX7_isWeave_10 : decode cX7_isWeave 10 = .ok (.goto 4, 3) := by decide +kernel
theorem dX7_isWeave_13 : decode cX7_isWeave 13 = .ok (.iconst 0, 1) := by decide +kernel
theorem dX7_isWeave_14 : decode cX7_isWeave 14 = .ok (.ireturn, 1) := by decide +kernel
theorem dX7_isMethod_0 : decode cX7_isMethod 0 = .ok (.iload_n 1, 1) := by decide +kernel
theorem dX7_isMethod_1 : decode cX7_isMethod 1 = .ok (.iconst 0, 1) := by decide +kernel
theorem dX7_isMethod_2 : decode cX7_isMethod 2 = .ok (.aload_n 0, 1) := by decide +kernel
theorem dX7_isMethod_3 : decode cX7_isMethod 3 = .ok (.getfield 25, 3) := by decide +kernel
theorem dX7_isMethod_6 : decode cX7_isMethod 6 = .ok (.iconst 0, 1) := by decide +kernel
theorem dX7_isMethod_7 : decode cX7_isMethod 7 = .ok (.iaload, 1) := by decide +kernel
theorem dX7_isMethod_8 : decode cX7_isMethod 8 = .ok (.iconst 1, 1) := by decide +kernel
theorem dX7_isMethod_9 : decode cX7_isMethod 9 = .ok (.isub, 1) := by decide +kernel
theorem dX7_isMethod_10 : decode cX7_isMethod 10 = .ok (.invokestatic 62, 3) := by decide +kernel
theorem dX7_isMethod_13 : decode cX7_isMethod 13 = .ok (.ireturn, 1) := by decide +kernel
theorem dX7_isAdvice_0 : decode cX7_isAdvice 0 = .ok (.iload_n 1, 1) := by decide +kernel
theorem dX7_isAdvice_1 : decode cX7_isAdvice 1 = .ok (.iconst 0, 1) := by decide +kernel
theorem dX7_isAdvice_2 : decode cX7_isAdvice 2 = .ok (.aload_n 0, 1) := by decide +kernel
theorem dX7_isAdvice_3 : decode cX7_isAdvice 3 = .ok (.getfield 25, 3) := by decide +kernel
theorem dX7_isAdvice_6 : decode cX7_isAdvice 6 = .ok (.iconst 1, 1) := by decide +kernel
theorem dX7_isAdvice_7 : decode cX7_isAdvice 7 = .ok (.iaload, 1) := by decide +kernel
theorem dX7_isAdvice_8 : decode cX7_isAdvice 8 = .ok (.iconst 1, 1) := by decide +kernel
theorem dX7_isAdvice_9 : decode cX7_isAdvice 9 = .ok (.isub, 1) := by decide +kernel
theorem dX7_isAdvice_10 : decode cX7_isAdvice 10 = .ok (.invokestatic 62, 3) := by decide +kernel
theorem dX7_isAdvice_13 : decode cX7_isAdvice 13 = .ok (.ireturn, 1) := by decide +kernel
theorem dX7_isBelow_0 : decode cX7_isBelow 0 = .ok (.iload_n 1, 1) := by decide +kernel
theorem dX7_isBelow_1 : decode cX7_isBelow 1 = .ok (.iconst 4, 1) := by decide +kernel
theorem dX7_isBelow_2 : decode cX7_isBelow 2 = .ok (.if_icmp .eq 22, 3) := by decide +kernel
theorem dX7_isBelow_5 : decode cX7_isBelow 5 = .ok (.iload_n 1, 1) := by decide +kernel
theorem dX7_isBelow_6 : decode cX7_isBelow 6 = .ok (.ifCond .eq 18, 3) := by decide +kernel
theorem dX7_isBelow_9 : decode cX7_isBelow 9 = .ok (.iload_n 0, 1) := by decide +kernel
theorem dX7_isBelow_10 : decode cX7_isBelow 10 = .ok (.iload_n 1, 1) := by decide +kernel
theorem dX7_isBelow_11 : decode cX7_isBelow 11 = .ok (.if_icmp .eq 13, 3) := by decide +kernel
theorem dX7_isBelow_14 : decode cX7_isBelow 14 = .ok (.iload_n 1, 1) := by decide +kernel
theorem dX7_isBelow_15 : decode cX7_isBelow 15 = .ok (.iconst 1, 1) := by decide +kernel
theorem dX7_isBelow_16 : decode cX7_isBelow 16 = .ok (.if_icmp .ne 12, 3) := by decide +kernel
theorem dX7_isBelow_19 : decode cX7_isBelow 19 = .ok (.iload_n 0, 1) := by decide +kernel
theorem dX7_isBelow_20 : decode cX7_isBelow 20 = .ok (.iconst 3, 1) := by decide +kernel
theorem dX7_isBelow_21 : decode cX7_isBelow 21 = .ok (.if_icmp .ne 7, 3) := by decide +kernel
theorem dX7_isBelow_24 : decode cX7_isBelow 24 = .ok (.iconst 1, 1) := by decide +kernel
theorem dX7_isBelow_25 : decode cX7_isBelow 25 = .ok (.goto 4, 3) := by decide +kernel
theorem dX7_isBelow_28 : decode cX7_isBelow 28 = .ok (.iconst 0, 1) := by decide +kernel
theorem dX7_isBelow_29 : decode cX7_isBelow 29 = .ok (.ireturn, 1) := by decide +kernel
theorem dX7_isPlace_0 : decode cX7_isPlace 0 = .ok (.bipush 62, 2) := by decide +kernel
theorem dX7_isPlace_2 : decode cX7_isPlace 2 = .ok (.bipush 6, 2) := by decide +kernel
theorem dX7_isPlace_4 : decode cX7_isPlace 4 = .ok (.iload_n 2, 1) := by decide +kernel
theorem dX7_isPlace_5 : decode cX7_isPlace 5 = .ok (.imul, 1) := by decide +kernel
theorem dX7_isPlace_6 : decode cX7_isPlace 6 = .ok (.iadd, 1) := by decide +kernel
theorem dX7_isPlace_7 : decode cX7_isPlace 7 = .ok (.istore_n 3, 1) := by decide +kernel
theorem dX7_isPlace_8 : decode cX7_isPlace 8 = .ok (.aload_n 0, 1) := by decide +kernel
theorem dX7_isPlace_9 : decode cX7_isPlace 9 = .ok (.iconst 2, 1) := by decide +kernel
theorem dX7_isPlace_10 : decode cX7_isPlace 10 = .ok (.bipush 10, 2) := by decide +kernel
theorem dX7_isPlace_12 : decode cX7_isPlace 12 = .ok (.iload_n 1, 1) := by decide +kernel
theorem dX7_isPlace_13 : decode cX7_isPlace 13 = .ok (.imul, 1) := by decide +kernel
theorem dX7_isPlace_14 : decode cX7_isPlace 14 = .ok (.iadd, 1) := by decide +kernel
theorem dX7_isPlace_15 : decode cX7_isPlace 15 = .ok (.iaload, 1) := by decide +kernel
theorem dX7_isPlace_16 : decode cX7_isPlace 16 = .ok (.aload_n 0, 1) := by decide +kernel
theorem dX7_isPlace_17 : decode cX7_isPlace 17 = .ok (.iload_n 3, 1) := by decide +kernel
theorem dX7_isPlace_18 : decode cX7_isPlace 18 = .ok (.iconst 2, 1) := by decide +kernel
theorem dX7_isPlace_19 : decode cX7_isPlace 19 = .ok (.iadd, 1) := by decide +kernel
theorem dX7_isPlace_20 : decode cX7_isPlace 20 = .ok (.iaload, 1) := by decide +kernel
theorem dX7_isPlace_21 : decode cX7_isPlace 21 = .ok (.invokestatic 158, 3) := by decide +kernel
theorem dX7_isPlace_24 : decode cX7_isPlace 24 = .ok (.ifCond .eq 26, 3) := by decide +kernel
theorem dX7_isPlace_27 : decode cX7_isPlace 27 = .ok (.aload_n 0, 1) := by decide +kernel
theorem dX7_isPlace_28 : decode cX7_isPlace 28 = .ok (.iload_n 3, 1) := by decide +kernel
theorem dX7_isPlace_29 : decode cX7_isPlace 29 = .ok (.iconst 3, 1) := by decide +kernel
theorem dX7_isPlace_30 : decode cX7_isPlace 30 = .ok (.iadd, 1) := by decide +kernel
theorem dX7_isPlace_31 : decode cX7_isPlace 31 = .ok (.iaload, 1) := by decide +kernel
theorem dX7_isPlace_32 : decode cX7_isPlace 32 = .ok (.bipush 6, 2) := by decide +kernel
theorem dX7_isPlace_34 : decode cX7_isPlace 34 = .ok (.if_icmp .eq 12, 3) := by decide +kernel
theorem dX7_isPlace_37 : decode cX7_isPlace 37 = .ok (.aload_n 0, 1) := by decide +kernel
theorem dX7_isPlace_38 : decode cX7_isPlace 38 = .ok (.iload_n 3, 1) := by decide +kernel
theorem dX7_isPlace_39 : decode cX7_isPlace 39 = .ok (.iconst 3, 1) := by decide +kernel
theorem dX7_isPlace_40 : decode cX7_isPlace 40 = .ok (.iadd, 1) := by decide +kernel
theorem dX7_isPlace_41 : decode cX7_isPlace 41 = .ok (.iaload, 1) := by decide +kernel
theorem dX7_isPlace_42 : decode cX7_isPlace 42 = .ok (.iload_n 1, 1) := by decide +kernel
theorem dX7_isPlace_43 : decode cX7_isPlace 43 = .ok (.if_icmp .ne 7, 3) := by decide +kernel
theorem dX7_isPlace_46 : decode cX7_isPlace 46 = .ok (.iconst 1, 1) := by decide +kernel
theorem dX7_isPlace_47 : decode cX7_isPlace 47 = .ok (.goto 4, 3) := by decide +kernel
theorem dX7_isPlace_50 : decode cX7_isPlace 50 = .ok (.iconst 0, 1) := by decide +kernel
theorem dX7_isPlace_51 : decode cX7_isPlace 51 = .ok (.ireturn, 1) := by decide +kernel
theorem dX7_callsOf_0 : decode cX7_callsOf 0 = .ok (.iconst 0, 1) := by decide +kernel
theorem dX7_callsOf_1 : decode cX7_callsOf 1 = .ok (.istore_n 2, 1) := by decide +kernel
theorem dX7_callsOf_2 : decode cX7_callsOf 2 = .ok (.iconst 0, 1) := by decide +kernel
theorem dX7_callsOf_3 : decode cX7_callsOf 3 = .ok (.istore_n 3, 1) := by decide +kernel
theorem dX7_callsOf_4 : decode cX7_callsOf 4 = .ok (.iload_n 3, 1) := by decide +kernel
theorem dX7_callsOf_5 : decode cX7_callsOf 5 = .ok (.aload_n 0, 1) := by decide +kernel
theorem dX7_callsOf_6 : decode cX7_callsOf 6 = .ok (.iconst 2, 1) := by decide +kernel
theorem dX7_callsOf_7 : decode cX7_callsOf 7 = .ok (.bipush 10, 2) := by decide +kernel
theorem dX7_callsOf_9 : decode cX7_callsOf 9 = .ok (.iload_n 1, 1) := by decide +kernel
theorem dX7_callsOf_10 : decode cX7_callsOf 10 = .ok (.imul, 1) := by decide +kernel
theorem dX7_callsOf_11 : decode cX7_callsOf 11 = .ok (.iadd, 1) := by decide +kernel
theorem dX7_callsOf_12 : decode cX7_callsOf 12 = .ok (.iconst 1, 1) := by decide +kernel
theorem dX7_callsOf_13 : decode cX7_callsOf 13 = .ok (.iadd, 1) := by decide +kernel
theorem dX7_callsOf_14 : decode cX7_callsOf 14 = .ok (.iaload, 1) := by decide +kernel
theorem dX7_callsOf_15 : decode cX7_callsOf 15 = .ok (.if_icmp .ge 46, 3) := by decide +kernel
theorem dX7_callsOf_18 : decode cX7_callsOf 18 = .ok (.iconst 2, 1) := by decide +kernel
theorem dX7_callsOf_19 : decode cX7_callsOf 19 = .ok (.bipush 10, 2) := by decide +kernel
theorem dX7_callsOf_21 : decode cX7_callsOf 21 = .ok (.iload_n 1, 1) := by decide +kernel
theorem dX7_callsOf_22 : decode cX7_callsOf 22 = .ok (.imul, 1) := by decide +kernel
theorem dX7_callsOf_23 : decode cX7_callsOf 23 = .ok (.iadd, 1) := by decide +kernel
theorem dX7_callsOf_24 : decode cX7_callsOf 24 = .ok (.iconst 2, 1) := by decide +kernel
theorem dX7_callsOf_25 : decode cX7_callsOf 25 = .ok (.iadd, 1) := by decide +kernel
theorem dX7_callsOf_26 : decode cX7_callsOf 26 = .ok (.iconst 2, 1) := by decide +kernel
theorem dX7_callsOf_27 : decode cX7_callsOf 27 = .ok (.iload_n 3, 1) := by decide +kernel
theorem dX7_callsOf_28 : decode cX7_callsOf 28 = .ok (.imul, 1) := by decide +kernel
theorem dX7_callsOf_29 : decode cX7_callsOf 29 = .ok (.iadd, 1) := by decide +kernel
theorem dX7_callsOf_30 : decode cX7_callsOf 30 = .ok (.istore 4, 2) := by decide +kernel
theorem dX7_callsOf_32 : decode cX7_callsOf 32 = .ok (.iload_n 2, 1) := by decide +kernel
theorem dX7_callsOf_33 : decode cX7_callsOf 33 = .ok (.aload_n 0, 1) := by decide +kernel
theorem dX7_callsOf_34 : decode cX7_callsOf 34 = .ok (.iload 4, 2) := by decide +kernel
theorem dX7_callsOf_36 : decode cX7_callsOf 36 = .ok (.iaload, 1) := by decide +kernel
theorem dX7_callsOf_37 : decode cX7_callsOf 37 = .ok (.iconst 1, 1) := by decide +kernel
theorem dX7_callsOf_38 : decode cX7_callsOf 38 = .ok (.if_icmp .ne 14, 3) := by decide +kernel
theorem dX7_callsOf_41 : decode cX7_callsOf 41 = .ok (.iconst 1, 1) := by decide +kernel
theorem dX7_callsOf_42 : decode cX7_callsOf 42 = .ok (.aload_n 0, 1) := by decide +kernel
theorem dX7_callsOf_43 : decode cX7_callsOf 43 = .ok (.iload 4, 2) := by decide +kernel
theorem dX7_callsOf_45 : decode cX7_callsOf 45 = .ok (.iconst 1, 1) := by decide +kernel
theorem dX7_callsOf_46 : decode cX7_callsOf 46 = .ok (.iadd, 1) := by decide +kernel
theorem dX7_callsOf_47 : decode cX7_callsOf 47 = .ok (.iaload, 1) := by decide +kernel
theorem dX7_callsOf_48 : decode cX7_callsOf 48 = .ok (.ishl, 1) := by decide +kernel
theorem dX7_callsOf_49 : decode cX7_callsOf 49 = .ok (.goto 4, 3) := by decide +kernel
theorem dX7_callsOf_52 : decode cX7_callsOf 52 = .ok (.iconst 0, 1) := by decide +kernel
theorem dX7_callsOf_53 : decode cX7_callsOf 53 = .ok (.ior, 1) := by decide +kernel
theorem dX7_callsOf_54 : decode cX7_callsOf 54 = .ok (.istore_n 2, 1) := by decide +kernel
theorem dX7_callsOf_55 : decode cX7_callsOf 55 = .ok (.iinc 3 1, 3) := by decide +kernel
theorem dX7_callsOf_58 : decode cX7_callsOf 58 = .ok (.goto (-54), 3) := by decide +kernel
theorem dX7_callsOf_61 : decode cX7_callsOf 61 = .ok (.iload_n 2, 1) := by decide +kernel
theorem dX7_callsOf_62 : decode cX7_callsOf 62 = .ok (.ireturn, 1) := by decide +kernel
theorem dX7_reachedOf_0 : decode cX7_reachedOf 0 = .ok (.aload_n 0, 1) := by decide +kernel
theorem dX7_reachedOf_1 : decode cX7_reachedOf 1 = .ok (.iload_n 1, 1) := by decide +kernel
theorem dX7_reachedOf_2 : decode cX7_reachedOf 2 = .ok (.invokestatic 162, 3) := by decide +kernel
theorem dX7_reachedOf_5 : decode cX7_reachedOf 5 = .ok (.istore_n 2, 1) := by decide +kernel
theorem dX7_reachedOf_6 : decode cX7_reachedOf 6 = .ok (.iconst 0, 1) := by decide +kernel
theorem dX7_reachedOf_7 : decode cX7_reachedOf 7 = .ok (.istore_n 3, 1) := by decide +kernel
theorem dX7_reachedOf_8 : decode cX7_reachedOf 8 = .ok (.iload_n 3, 1) := by decide +kernel
theorem dX7_reachedOf_9 : decode cX7_reachedOf 9 = .ok (.bipush 6, 2) := by decide +kernel
theorem dX7_reachedOf_11 : decode cX7_reachedOf 11 = .ok (.if_icmp .ge 48, 3) := by decide +kernel
theorem dX7_reachedOf_14 : decode cX7_reachedOf 14 = .ok (.iconst 0, 1) := by decide +kernel
theorem dX7_reachedOf_15 : decode cX7_reachedOf 15 = .ok (.istore 4, 2) := by decide +kernel
theorem dX7_reachedOf_17 : decode cX7_reachedOf 17 = .ok (.iload 4, 2) := by decide +kernel
theorem dX7_reachedOf_19 : decode cX7_reachedOf 19 = .ok (.aload_n 0, 1) := by decide +kernel
theorem dX7_reachedOf_20 : decode cX7_reachedOf 20 = .ok (.iconst 0, 1) := by decide +kernel
theorem dX7_reachedOf_21 : decode cX7_reachedOf 21 = .ok (.iaload, 1) := by decide +kernel
theorem dX7_reachedOf_22 : decode cX7_reachedOf 22 = .ok (.if_icmp .ge 31, 3) := by decide +kernel
theorem dX7_reachedOf_25 : decode cX7_reachedOf 25 = .ok (.iload_n 2, 1) := by decide +kernel
theorem dX7_reachedOf_26 : decode cX7_reachedOf 26 = .ok (.iload_n 2, 1) := by decide +kernel
theorem dX7_reachedOf_27 : decode cX7_reachedOf 27 = .ok (.iload 4, 2) := by decide +kernel
theorem dX7_reachedOf_29 : decode cX7_reachedOf 29 = .ok (.invokestatic 166, 3) := by decide +kernel
theorem dX7_reachedOf_32 : decode cX7_reachedOf 32 = .ok (.ifCond .eq 12, 3) := by decide +kernel
theorem dX7_reachedOf_35 : decode cX7_reachedOf 35 = .ok (.aload_n 0, 1) := by decide +kernel
theorem dX7_reachedOf_36 : decode cX7_reachedOf 36 = .ok (.iload 4, 2) := by decide +kernel
theorem dX7_reachedOf_38 : decode cX7_reachedOf 38 = .ok (.invokestatic 162, 3) := by decide +kernel
theorem dX7_reachedOf_41 : decode cX7_reachedOf 41 = .ok (.goto 4, 3) := by decide +kernel
theorem dX7_reachedOf_44 : decode cX7_reachedOf 44 = .ok (.iconst 0, 1) := by decide +kernel
theorem dX7_reachedOf_45 : decode cX7_reachedOf 45 = .ok (.ior, 1) := by decide +kernel
theorem dX7_reachedOf_46 : decode cX7_reachedOf 46 = .ok (.istore_n 2, 1) := by decide +kernel
theorem dX7_reachedOf_47 : decode cX7_reachedOf 47 = .ok (.iinc 4 1, 3) := by decide +kernel
theorem dX7_reachedOf_50 : decode cX7_reachedOf 50 = .ok (.goto (-33), 3) := by decide +kernel
theorem dX7_reachedOf_53 : decode cX7_reachedOf 53 = .ok (.iinc 3 1, 3) := by decide +kernel
theorem dX7_reachedOf_56 : decode cX7_reachedOf 56 = .ok (.goto (-48), 3) := by decide +kernel
theorem dX7_reachedOf_59 : decode cX7_reachedOf 59 = .ok (.iload_n 2, 1) := by decide +kernel
theorem dX7_reachedOf_60 : decode cX7_reachedOf 60 = .ok (.ireturn, 1) := by decide +kernel
theorem dX7_aheadOf_0 : decode cX7_aheadOf 0 = .ok (.bipush 62, 2) := by decide +kernel
theorem dX7_aheadOf_2 : decode cX7_aheadOf 2 = .ok (.bipush 6, 2) := by decide +kernel
theorem dX7_aheadOf_4 : decode cX7_aheadOf 4 = .ok (.iload_n 2, 1) := by decide +kernel
theorem dX7_aheadOf_5 : decode cX7_aheadOf 5 = .ok (.imul, 1) := by decide +kernel
theorem dX7_aheadOf_6 : decode cX7_aheadOf 6 = .ok (.iadd, 1) := by decide +kernel
theorem dX7_aheadOf_7 : decode cX7_aheadOf 7 = .ok (.istore_n 3, 1) := by decide +kernel
theorem dX7_aheadOf_8 : decode cX7_aheadOf 8 = .ok (.aload_n 0, 1) := by decide +kernel
theorem dX7_aheadOf_9 : decode cX7_aheadOf 9 = .ok (.iload_n 3, 1) := by decide +kernel
theorem dX7_aheadOf_10 : decode cX7_aheadOf 10 = .ok (.iconst 5, 1) := by decide +kernel
theorem dX7_aheadOf_11 : decode cX7_aheadOf 11 = .ok (.iadd, 1) := by decide +kernel
theorem dX7_aheadOf_12 : decode cX7_aheadOf 12 = .ok (.iaload, 1) := by decide +kernel
theorem dX7_aheadOf_13 : decode cX7_aheadOf 13 = .ok (.istore 4, 2) := by decide +kernel
theorem dX7_aheadOf_15 : decode cX7_aheadOf 15 = .ok (.iload 4, 2) := by decide +kernel
theorem dX7_aheadOf_17 : decode cX7_aheadOf 17 = .ok (.bipush 6, 2) := by decide +kernel
theorem dX7_aheadOf_19 : decode cX7_aheadOf 19 = .ok (.if_icmp .eq 30, 3) := by decide +kernel
theorem dX7_aheadOf_22 : decode cX7_aheadOf 22 = .ok (.iload 4, 2) := by decide +kernel
theorem dX7_aheadOf_24 : decode cX7_aheadOf 24 = .ok (.aload_n 0, 1) := by decide +kernel
theorem dX7_aheadOf_25 : decode cX7_aheadOf 25 = .ok (.iconst 0, 1) := by decide +kernel
theorem dX7_aheadOf_26 : decode cX7_aheadOf 26 = .ok (.iaload, 1) := by decide +kernel
theorem dX7_aheadOf_27 : decode cX7_aheadOf 27 = .ok (.if_icmp .ge 26, 3) := by decide +kernel
theorem dX7_aheadOf_30 : decode cX7_aheadOf 30 = .ok (.iload 4, 2) := by decide +kernel
theorem dX7_aheadOf_32 : decode cX7_aheadOf 32 = .ok (.iload_n 1, 1) := by decide +kernel
theorem dX7_aheadOf_33 : decode cX7_aheadOf 33 = .ok (.if_icmp .eq 16, 3) := by decide +kernel
theorem dX7_aheadOf_36 : decode cX7_aheadOf 36 = .ok (.aload_n 0, 1) := by decide +kernel
theorem dX7_aheadOf_37 : decode cX7_aheadOf 37 = .ok (.iload 4, 2) := by decide +kernel
theorem dX7_aheadOf_39 : decode cX7_aheadOf 39 = .ok (.invokestatic 169, 3) := by decide +kernel
theorem dX7_aheadOf_42 : decode cX7_aheadOf 42 = .ok (.iload_n 1, 1) := by decide +kernel
theorem dX7_aheadOf_43 : decode cX7_aheadOf 43 = .ok (.invokestatic 166, 3) := by decide +kernel
theorem dX7_aheadOf_46 : decode cX7_aheadOf 46 = .ok (.ifCond .eq 7, 3) := by decide +kernel
theorem dX7_aheadOf_49 : decode cX7_aheadOf 49 = .ok (.iconst 1, 1) := by decide +kernel
theorem dX7_aheadOf_50 : decode cX7_aheadOf 50 = .ok (.goto 4, 3) := by decide +kernel
theorem dX7_aheadOf_53 : decode cX7_aheadOf 53 = .ok (.iconst 0, 1) := by decide +kernel
theorem dX7_aheadOf_54 : decode cX7_aheadOf 54 = .ok (.istore 5, 2) := by decide +kernel
theorem dX7_aheadOf_56 : decode cX7_aheadOf 56 = .ok (.aload_n 0, 1) := by decide +kernel
theorem dX7_aheadOf_57 : decode cX7_aheadOf 57 = .ok (.iload_n 1, 1) := by decide +kernel
theorem dX7_aheadOf_58 : decode cX7_aheadOf 58 = .ok (.iload_n 2, 1) := by decide +kernel
theorem dX7_aheadOf_59 : decode cX7_aheadOf 59 = .ok (.invokestatic 172, 3) := by decide +kernel
theorem dX7_aheadOf_62 : decode cX7_aheadOf 62 = .ok (.ifCond .eq 16, 3) := by decide +kernel
theorem dX7_aheadOf_65 : decode cX7_aheadOf 65 = .ok (.aload_n 0, 1) := by decide +kernel
theorem dX7_aheadOf_66 : decode cX7_aheadOf 66 = .ok (.iload_n 3, 1) := by decide +kernel
theorem dX7_aheadOf_67 : decode cX7_aheadOf 67 = .ok (.iconst 4, 1) := by decide +kernel
theorem dX7_aheadOf_68 : decode cX7_aheadOf 68 = .ok (.iadd, 1) := by decide +kernel
theorem dX7_aheadOf_69 : decode cX7_aheadOf 69 = .ok (.iaload, 1) := by decide +kernel
theorem dX7_aheadOf_70 : decode cX7_aheadOf 70 = .ok (.ifCond .eq 8, 3) := by decide +kernel
theorem dX7_aheadOf_73 : decode cX7_aheadOf 73 = .ok (.iload 5, 2) := by decide +kernel
theorem dX7_aheadOf_75 : decode cX7_aheadOf 75 = .ok (.ifCond .ne 5, 3) := by decide +kernel
theorem dX7_aheadOf_78 : decode cX7_aheadOf 78 = .ok (.iconst 0, 1) := by decide +kernel
theorem dX7_aheadOf_79 : decode cX7_aheadOf 79 = .ok (.ireturn, 1) := by decide +kernel
theorem dX7_aheadOf_80 : decode cX7_aheadOf 80 = .ok (.aload_n 0, 1) := by decide +kernel
theorem dX7_aheadOf_81 : decode cX7_aheadOf 81 = .ok (.iload_n 3, 1) := by decide +kernel
theorem dX7_aheadOf_82 : decode cX7_aheadOf 82 = .ok (.iconst 4, 1) := by decide +kernel
theorem dX7_aheadOf_83 : decode cX7_aheadOf 83 = .ok (.iadd, 1) := by decide +kernel
theorem dX7_aheadOf_84 : decode cX7_aheadOf 84 = .ok (.iaload, 1) := by decide +kernel
theorem dX7_aheadOf_85 : decode cX7_aheadOf 85 = .ok (.bipush 10, 2) := by decide +kernel
theorem dX7_aheadOf_87 : decode cX7_aheadOf 87 = .ok (.if_icmp .ne 20, 3) := by decide +kernel
theorem dX7_aheadOf_90 : decode cX7_aheadOf 90 = .ok (.iload 4, 2) := by decide +kernel
theorem dX7_aheadOf_92 : decode cX7_aheadOf 92 = .ok (.bipush 6, 2) := by decide +kernel
theorem dX7_aheadOf_94 : decode cX7_aheadOf 94 = .ok (.if_icmp .eq 9, 3) := by decide +kernel
theorem dX7_aheadOf_97 : decode cX7_aheadOf 97 = .ok (.iload 4, 2) := by decide +kernel
theorem dX7_aheadOf_99 : decode cX7_aheadOf 99 = .ok (.iload_n 1, 1) := by decide +kernel
theorem dX7_aheadOf_100 : decode cX7_aheadOf 100 = .ok (.if_icmp .ne 7, 3) := by decide +kernel
theorem dX7_aheadOf_103 : decode cX7_aheadOf 103 = .ok (.iconst 1, 1) := by decide +kernel
theorem dX7_aheadOf_104 : decode cX7_aheadOf 104 = .ok (.goto 4, 3) := by decide +kernel
theorem dX7_aheadOf_107 : decode cX7_aheadOf 107 = .ok (.iconst 2, 1) := by decide +kernel
theorem dX7_aheadOf_108 : decode cX7_aheadOf 108 = .ok (.ireturn, 1) := by decide +kernel
theorem dX7_emits_0 : decode cX7_emits 0 = .ok (.aload_n 0, 1) := by decide +kernel
theorem dX7_emits_1 : decode cX7_emits 1 = .ok (.getfield 176, 3) := by decide +kernel
theorem dX7_emits_4 : decode cX7_emits 4 = .ok (.bipush 99, 2) := by decide +kernel
theorem dX7_emits_6 : decode cX7_emits 6 = .ok (.if_icmp .ne 11, 3) := by decide +kernel
theorem dX7_emits_9 : decode cX7_emits 9 = .ok (.aload_n 0, 1) := by decide +kernel
theorem dX7_emits_10 : decode cX7_emits 10 = .ok (.iconst 1, 1) := by decide +kernel
theorem dX7_emits_11 : decode cX7_emits 11 = .ok (.putfield 179, 3) := by decide +kernel
theorem dX7_emits_14 : decode cX7_emits 14 = .ok (.goto 23, 3) := by decide +kernel
theorem dX7_emits_17 : decode cX7_emits 17 = .ok (.aload_n 0, 1) := by decide +kernel
theorem dX7_emits_18 : decode cX7_emits 18 = .ok (.getfield 50, 3) := by decide +kernel
theorem dX7_emits_21 : decode cX7_emits 21 = .ok (.aload_n 0, 1) := by decide +kernel
theorem dX7_emits_22 : decode cX7_emits 22 = .ok (.getfield 176, 3) := by decide +kernel
theorem dX7_emits_25 : decode cX7_emits 25 = .ok (.iload_n 1, 1) := by decide +kernel
theorem dX7_emits_26 : decode cX7_emits 26 = .ok (.iastore, 1) := by decide +kernel
theorem dX7_emits_27 : decode cX7_emits 27 = .ok (.aload_n 0, 1) := by decide +kernel
theorem dX7_emits_28 : decode cX7_emits 28 = .ok (.dup, 1) := by decide +kernel
theorem dX7_emits_29 : decode cX7_emits 29 = .ok (.getfield 176, 3) := by decide +kernel
theorem dX7_emits_32 : decode cX7_emits 32 = .ok (.iconst 1, 1) := by decide +kernel
theorem dX7_emits_33 : decode cX7_emits 33 = .ok (.iadd, 1) := by decide +kernel
theorem dX7_emits_34 : decode cX7_emits 34 = .ok (.putfield 176, 3) := by decide +kernel
theorem dX7_emits_37 : decode cX7_emits 37 = .ok (.return_, 1) := by decide +kernel
theorem dX7_pushes_0 : decode cX7_pushes 0 = .ok (.bipush 7, 2) := by decide +kernel
theorem dX7_pushes_2 : decode cX7_pushes 2 = .ok (.aload_n 0, 1) := by decide +kernel
theorem dX7_pushes_3 : decode cX7_pushes 3 = .ok (.getfield 183, 3) := by decide +kernel
theorem dX7_pushes_6 : decode cX7_pushes 6 = .ok (.imul, 1) := by decide +kernel
theorem dX7_pushes_7 : decode cX7_pushes 7 = .ok (.istore 6, 2) := by decide +kernel
theorem dX7_pushes_9 : decode cX7_pushes 9 = .ok (.aload_n 0, 1) := by decide +kernel
theorem dX7_pushes_10 : decode cX7_pushes 10 = .ok (.getfield 44, 3) := by decide +kernel
theorem dX7_pushes_13 : decode cX7_pushes 13 = .ok (.iload 6, 2) := by decide +kernel
theorem dX7_pushes_15 : decode cX7_pushes 15 = .ok (.iconst 0, 1) := by decide +kernel
theorem dX7_pushes_16 : decode cX7_pushes 16 = .ok (.iadd, 1) := by decide +kernel
theorem dX7_pushes_17 : decode cX7_pushes 17 = .ok (.iload_n 1, 1) := by decide +kernel
theorem dX7_pushes_18 : decode cX7_pushes 18 = .ok (.iastore, 1) := by decide +kernel
theorem dX7_pushes_19 : decode cX7_pushes 19 = .ok (.aload_n 0, 1) := by decide +kernel
theorem dX7_pushes_20 : decode cX7_pushes 20 = .ok (.getfield 44, 3) := by decide +kernel
theorem dX7_pushes_23 : decode cX7_pushes 23 = .ok (.iload 6, 2) := by decide +kernel
theorem dX7_pushes_25 : decode cX7_pushes 25 = .ok (.iconst 1, 1) := by decide +kernel
theorem dX7_pushes_26 : decode cX7_pushes 26 = .ok (.iadd, 1) := by decide +kernel
theorem dX7_pushes_27 : decode cX7_pushes 27 = .ok (.iload_n 2, 1) := by decide +kernel
theorem dX7_pushes_28 : decode cX7_pushes 28 = .ok (.iastore, 1) := by decide +kernel
theorem dX7_pushes_29 : decode cX7_pushes 29 = .ok (.aload_n 0, 1) := by decide +kernel
theorem dX7_pushes_30 : decode cX7_pushes 30 = .ok (.getfield 44, 3) := by decide +kernel
theorem dX7_pushes_33 : decode cX7_pushes 33 = .ok (.iload 6, 2) := by decide +kernel
theorem dX7_pushes_35 : decode cX7_pushes 35 = .ok (.iconst 2, 1) := by decide +kernel
theorem dX7_pushes_36 : decode cX7_pushes 36 = .ok (.iadd, 1) := by decide +kernel
theorem dX7_pushes_37 : decode cX7_pushes 37 = .ok (.iload_n 3, 1) := by decide +kernel
theorem dX7_pushes_38 : decode cX7_pushes 38 = .ok (.iastore, 1) := by decide +kernel
theorem dX7_pushes_39 : decode cX7_pushes 39 = .ok (.aload_n 0, 1) := by decide +kernel
theorem dX7_pushes_40 : decode cX7_pushes 40 = .ok (.getfield 44, 3) := by decide +kernel
theorem dX7_pushes_43 : decode cX7_pushes 43 = .ok (.iload 6, 2) := by decide +kernel
theorem dX7_pushes_45 : decode cX7_pushes 45 = .ok (.iconst 3, 1) := by decide +kernel
theorem dX7_pushes_46 : decode cX7_pushes 46 = .ok (.iadd, 1) := by decide +kernel
theorem dX7_pushes_47 : decode cX7_pushes 47 = .ok (.iload 4, 2) := by decide +kernel
theorem dX7_pushes_49 : decode cX7_pushes 49 = .ok (.iastore, 1) := by decide +kernel
theorem dX7_pushes_50 : decode cX7_pushes 50 = .ok (.aload_n 0, 1) := by decide +kernel
theorem dX7_pushes_51 : decode cX7_pushes 51 = .ok (.getfield 44, 3) := by decide +kernel
theorem dX7_pushes_54 : decode cX7_pushes 54 = .ok (.iload 6, 2) := by decide +kernel
theorem dX7_pushes_56 : decode cX7_pushes 56 = .ok (.iconst 4, 1) := by decide +kernel
theorem dX7_pushes_57 : decode cX7_pushes 57 = .ok (.iadd, 1) := by decide +kernel
theorem dX7_pushes_58 : decode cX7_pushes 58 = .ok (.iload 5, 2) := by decide +kernel
theorem dX7_pushes_60 : decode cX7_pushes 60 = .ok (.iastore, 1) := by decide +kernel
theorem dX7_pushes_61 : decode cX7_pushes 61 = .ok (.aload_n 0, 1) := by decide +kernel
theorem dX7_pushes_62 : decode cX7_pushes 62 = .ok (.getfield 44, 3) := by decide +kernel
theorem dX7_pushes_65 : decode cX7_pushes 65 = .ok (.iload 6, 2) := by decide +kernel
theorem dX7_pushes_67 : decode cX7_pushes 67 = .ok (.iconst 5, 1) := by decide +kernel
theorem dX7_pushes_68 : decode cX7_pushes 68 = .ok (.iadd, 1) := by decide +kernel
theorem dX7_pushes_69 : decode cX7_pushes 69 = .ok (.iconst (-1), 1) := by decide +kernel
theorem dX7_pushes_70 : decode cX7_pushes 70 = .ok (.iastore, 1) := by decide +kernel
theorem dX7_pushes_71 : decode cX7_pushes 71 = .ok (.aload_n 0, 1) := by decide +kernel
theorem dX7_pushes_72 : decode cX7_pushes 72 = .ok (.getfield 44, 3) := by decide +kernel
theorem dX7_pushes_75 : decode cX7_pushes 75 = .ok (.iload 6, 2) := by decide +kernel
theorem dX7_pushes_77 : decode cX7_pushes 77 = .ok (.bipush 6, 2) := by decide +kernel
theorem dX7_pushes_79 : decode cX7_pushes 79 = .ok (.iadd, 1) := by decide +kernel
theorem dX7_pushes_80 : decode cX7_pushes 80 = .ok (.iload_n 3, 1) := by decide +kernel
theorem dX7_pushes_81 : decode cX7_pushes 81 = .ok (.iastore, 1) := by decide +kernel
theorem dX7_pushes_82 : decode cX7_pushes 82 = .ok (.aload_n 0, 1) := by decide +kernel
theorem dX7_pushes_83 : decode cX7_pushes 83 = .ok (.dup, 1) := by decide +kernel
theorem dX7_pushes_84 : decode cX7_pushes 84 = .ok (.getfield 183, 3) := by decide +kernel
theorem dX7_pushes_87 : decode cX7_pushes 87 = .ok (.iconst 1, 1) := by decide +kernel
theorem dX7_pushes_88 : decode cX7_pushes 88 = .ok (.iadd, 1) := by decide +kernel
theorem dX7_pushes_89 : decode cX7_pushes 89 = .ok (.putfield 183, 3) := by decide +kernel
theorem dX7_pushes_92 : decode cX7_pushes 92 = .ok (.return_, 1) := by decide +kernel
theorem dX7_goesOn_0 : decode cX7_goesOn 0 = .ok (.iload 5, 2) := by decide +kernel
theorem dX7_goesOn_2 : decode cX7_goesOn 2 = .ok (.istore 6, 2) := by decide +kernel
theorem dX7_goesOn_4 : decode cX7_goesOn 4 = .ok (.iload 6, 2) := by decide +kernel
theorem dX7_goesOn_6 : decode cX7_goesOn 6 = .ok (.aload_n 1, 1) := by decide +kernel
theorem dX7_goesOn_7 : decode cX7_goesOn 7 = .ok (.iconst 1, 1) := by decide +kernel
theorem dX7_goesOn_8 : decode cX7_goesOn 8 = .ok (.iaload, 1) := by decide +kernel
theorem dX7_goesOn_9 : decode cX7_goesOn 9 = .ok (.if_icmp .ge 19, 3) := by decide +kernel
theorem dX7_goesOn_12 : decode cX7_goesOn 12 = .ok (.iload 4, 2) := by decide +kernel
theorem dX7_goesOn_14 : decode cX7_goesOn 14 = .ok (.iload 6, 2) := by decide +kernel
theorem dX7_goesOn_16 : decode cX7_goesOn 16 = .ok (.invokestatic 166, 3) := by decide +kernel
theorem dX7_goesOn_19 : decode cX7_goesOn 19 = .ok (.ifCond .ne 9, 3) := by decide +kernel
theorem dX7_goesOn_22 : decode cX7_goesOn 22 = .ok (.iinc 6 1, 3) := by decide +kernel
theorem dX7_goesOn_25 : decode cX7_goesOn 25 = .ok (.goto (-21), 3) := by decide +kernel
theorem dX7_goesOn_28 : decode cX7_goesOn 28 = .ok (.aload_n 0, 1) := by decide +kernel
theorem dX7_goesOn_29 : decode cX7_goesOn 29 = .ok (.iload 6, 2) := by decide +kernel
theorem dX7_goesOn_31 : decode cX7_goesOn 31 = .ok (.aload_n 1, 1) := by decide +kernel
theorem dX7_goesOn_32 : decode cX7_goesOn 32 = .ok (.iconst 1, 1) := by decide +kernel
theorem dX7_goesOn_33 : decode cX7_goesOn 33 = .ok (.iaload, 1) := by decide +kernel
theorem dX7_goesOn_34 : decode cX7_goesOn 34 = .ok (.if_icmp .ge 7, 3) := by decide +kernel
theorem dX7_goesOn_37 : decode cX7_goesOn 37 = .ok (.iconst 1, 1) := by decide +kernel
theorem dX7_goesOn_38 : decode cX7_goesOn 38 = .ok (.goto 4, 3) := by decide +kernel
theorem dX7_goesOn_41 : decode cX7_goesOn 41 = .ok (.iconst 2, 1) := by decide +kernel
theorem dX7_goesOn_42 : decode cX7_goesOn 42 = .ok (.iload_n 2, 1) := by decide +kernel
theorem dX7_goesOn_43 : decode cX7_goesOn 43 = .ok (.iload_n 3, 1) := by decide +kernel
theorem dX7_goesOn_44 : decode cX7_goesOn 44 = .ok (.iload 4, 2) := by decide +kernel
theorem dX7_goesOn_46 : decode cX7_goesOn 46 = .ok (.iload 6, 2) := by decide +kernel
theorem dX7_goesOn_48 : decode cX7_goesOn 48 = .ok (.aload_n 1, 1) := by decide +kernel
theorem dX7_goesOn_49 : decode cX7_goesOn 49 = .ok (.iconst 1, 1) := by decide +kernel
theorem dX7_goesOn_50 : decode cX7_goesOn 50 = .ok (.iaload, 1) := by decide +kernel
theorem dX7_goesOn_51 : decode cX7_goesOn 51 = .ok (.if_icmp .ge 8, 3) := by decide +kernel
theorem dX7_goesOn_54 : decode cX7_goesOn 54 = .ok (.iload 6, 2) := by decide +kernel
theorem dX7_goesOn_56 : decode cX7_goesOn 56 = .ok (.goto 4, 3) := by decide +kernel
theorem dX7_goesOn_59 : decode cX7_goesOn 59 = .ok (.iconst 0, 1) := by decide +kernel
theorem dX7_goesOn_60 : decode cX7_goesOn 60 = .ok (.invokevirtual 186, 3) := by decide +kernel
theorem dX7_goesOn_63 : decode cX7_goesOn 63 = .ok (.return_, 1) := by decide +kernel
theorem dX7_callsBy_0 : decode cX7_callsBy 0 = .ok (.aload_n 0, 1) := by decide +kernel
theorem dX7_callsBy_1 : decode cX7_callsBy 1 = .ok (.getfield 190, 3) := by decide +kernel
theorem dX7_callsBy_4 : decode cX7_callsBy 4 = .ok (.sipush 300, 3) := by decide +kernel
theorem dX7_callsBy_7 : decode cX7_callsBy 7 = .ok (.if_icmp .ne 9, 3) := by decide +kernel
theorem dX7_callsBy_10 : decode cX7_callsBy 10 = .ok (.aload_n 0, 1) := by decide +kernel
theorem dX7_callsBy_11 : decode cX7_callsBy 11 = .ok (.iconst 1, 1) := by decide +kernel
theorem dX7_callsBy_12 : decode cX7_callsBy 12 = .ok (.putfield 179, 3) := by decide +kernel
theorem dX7_callsBy_15 : decode cX7_callsBy 15 = .ok (.return_, 1) := by decide +kernel
theorem dX7_callsBy_16 : decode cX7_callsBy 16 = .ok (.aload_n 0, 1) := by decide +kernel
theorem dX7_callsBy_17 : decode cX7_callsBy 17 = .ok (.dup, 1) := by decide +kernel
theorem dX7_callsBy_18 : decode cX7_callsBy 18 = .ok (.getfield 190, 3) := by decide +kernel
theorem dX7_callsBy_21 : decode cX7_callsBy 21 = .ok (.iconst 1, 1) := by decide +kernel
theorem dX7_callsBy_22 : decode cX7_callsBy 22 = .ok (.iadd, 1) := by decide +kernel
theorem dX7_callsBy_23 : decode cX7_callsBy 23 = .ok (.putfield 190, 3) := by decide +kernel
theorem dX7_callsBy_26 : decode cX7_callsBy 26 = .ok (.aload_n 0, 1) := by decide +kernel
theorem dX7_callsBy_27 : decode cX7_callsBy 27 = .ok (.getfield 47, 3) := by decide +kernel
theorem dX7_callsBy_30 : decode cX7_callsBy 30 = .ok (.iload_n 2, 1) := by decide +kernel
theorem dX7_callsBy_31 : decode cX7_callsBy 31 = .ok (.dup2, 1) := by decide +kernel
theorem dX7_callsBy_32 : decode cX7_callsBy 32 = .ok (.iaload, 1) := by decide +kernel
theorem dX7_callsBy_33 : decode cX7_callsBy 33 = .ok (.iconst 1, 1) := by decide +kernel
theorem dX7_callsBy_34 : decode cX7_callsBy 34 = .ok (.iadd, 1) := by decide +kernel
theorem dX7_callsBy_35 : decode cX7_callsBy 35 = .ok (.iastore, 1) := by decide +kernel
theorem dX7_callsBy_36 : decode cX7_callsBy 36 = .ok (.iconst 0, 1) := by decide +kernel
theorem dX7_callsBy_37 : decode cX7_callsBy 37 = .ok (.istore 4, 2) := by decide +kernel
theorem dX7_callsBy_39 : decode cX7_callsBy 39 = .ok (.iconst 0, 1) := by decide +kernel
theorem dX7_callsBy_40 : decode cX7_callsBy 40 = .ok (.istore 5, 2) := by decide +kernel
theorem dX7_callsBy_42 : decode cX7_callsBy 42 = .ok (.iload 5, 2) := by decide +kernel
theorem dX7_callsBy_44 : decode cX7_callsBy 44 = .ok (.aload_n 1, 1) := by decide +kernel
theorem dX7_callsBy_45 : decode cX7_callsBy 45 = .ok (.iconst 1, 1) := by decide +kernel
theorem dX7_callsBy_46 : decode cX7_callsBy 46 = .ok (.iaload, 1) := by decide +kernel
theorem dX7_callsBy_47 : decode cX7_callsBy 47 = .ok (.if_icmp .ge 121, 3) := by decide +kernel
theorem dX7_callsBy_50 : decode cX7_callsBy 50 = .ok (.bipush 62, 2) := by decide +kernel
theorem dX7_callsBy_52 : decode cX7_callsBy 52 = .ok (.bipush 6, 2) := by decide +kernel
theorem dX7_callsBy_54 : decode cX7_callsBy 54 = .ok (.iload 5, 2) := by decide +kernel
theorem dX7_callsBy_56 : decode cX7_callsBy 56 = .ok (.imul, 1) := by decide +kernel
theorem dX7_callsBy_57 : decode cX7_callsBy 57 = .ok (.iadd, 1) := by decide +kernel
theorem dX7_callsBy_58 : decode cX7_callsBy 58 = .ok (.istore 6, 2) := by decide +kernel
theorem dX7_callsBy_60 : decode cX7_callsBy 60 = .ok (.aload_n 1, 1) := by decide +kernel
theorem dX7_callsBy_61 : decode cX7_callsBy 61 = .ok (.iload 6, 2) := by decide +kernel
theorem dX7_callsBy_63 : decode cX7_callsBy 63 = .ok (.iconst 5, 1) := by decide +kernel
theorem dX7_callsBy_64 : decode cX7_callsBy 64 = .ok (.iadd, 1) := by decide +kernel
theorem dX7_callsBy_65 : decode cX7_callsBy 65 = .ok (.iaload, 1) := by decide +kernel
theorem dX7_callsBy_66 : decode cX7_callsBy 66 = .ok (.istore 7, 2) := by decide +kernel
theorem dX7_callsBy_68 : decode cX7_callsBy 68 = .ok (.iload 7, 2) := by decide +kernel
theorem dX7_callsBy_70 : decode cX7_callsBy 70 = .ok (.bipush 6, 2) := by decide +kernel
theorem dX7_callsBy_72 : decode cX7_callsBy 72 = .ok (.if_icmp .eq 20, 3) := by decide +kernel
theorem dX7_callsBy_75 : decode cX7_callsBy 75 = .ok (.iload 7, 2) := by decide +kernel
theorem dX7_callsBy_77 : decode cX7_callsBy 77 = .ok (.bipush 6, 2) := by decide +kernel
theorem dX7_callsBy_79 : decode cX7_callsBy 79 = .ok (.if_icmp .ge 17, 3) := by decide +kernel
theorem dX7_callsBy_82 : decode cX7_callsBy 82 = .ok (.aload_n 0, 1) := by decide +kernel
theorem dX7_callsBy_83 : decode cX7_callsBy 83 = .ok (.getfield 47, 3) := by decide +kernel
theorem dX7_callsBy_86 : decode cX7_callsBy 86 = .ok (.iload 7, 2) := by decide +kernel
theorem dX7_callsBy_88 : decode cX7_callsBy 88 = .ok (.iaload, 1) := by decide +kernel
theorem dX7_callsBy_89 : decode cX7_callsBy 89 = .ok (.ifCond .le 7, 3) := by decide +kernel
theorem dX7_callsBy_92 : decode cX7_callsBy 92 = .ok (.iconst 1, 1) := by decide +kernel
theorem dX7_callsBy_93 : decode cX7_callsBy 93 = .ok (.goto 4, 3) := by decide +kernel
theorem dX7_callsBy_96 : decode cX7_callsBy 96 = .ok (.iconst 0, 1) := by decide +kernel
theorem dX7_callsBy_97 : decode cX7_callsBy 97 = .ok (.istore 8, 2) := by decide +kernel
theorem dX7_callsBy_99 : decode cX7_callsBy 99 = .ok (.iload 4, 2) := by decide +kernel
theorem dX7_callsBy_101 : decode cX7_callsBy 101 = .ok (.aload_n 1, 1) := by decide +kernel
theorem dX7_callsBy_102 : decode cX7_callsBy 102 = .ok (.iload_n 2, 1) := by decide +kernel
theorem dX7_callsBy_103 : decode cX7_callsBy 103 = .ok (.iload 5, 2) := by decide +kernel
theorem dX7_callsBy_105 : decode cX7_callsBy 105 = .ok (.invokestatic 172, 3) := by decide +kernel
theorem dX7_callsBy_108 : decode cX7_callsBy 108 = .ok (.ifCond .eq 25, 3) := by decide +kernel
theorem dX7_callsBy_111 : decode cX7_callsBy 111 = .ok (.iload_n 3, 1) := by decide +kernel
theorem dX7_callsBy_112 : decode cX7_callsBy 112 = .ok (.aload_n 1, 1) := by decide +kernel
theorem dX7_callsBy_113 : decode cX7_callsBy 113 = .ok (.iload 6, 2) := by decide +kernel
theorem dX7_callsBy_115 : decode cX7_callsBy 115 = .ok (.iconst 4, 1) := by decide +kernel
theorem dX7_callsBy_116 : decode cX7_callsBy 116 = .ok (.iadd, 1) := by decide +kernel
theorem dX7_callsBy_117 : decode cX7_callsBy 117 = .ok (.iaload, 1) := by decide +kernel
theorem dX7_callsBy_118 : decode cX7_callsBy 118 = .ok (.if_icmp .ge 15, 3) := by decide +kernel
theorem dX7_callsBy_121 : decode cX7_callsBy 121 = .ok (.iload 8, 2) := by decide +kernel
theorem dX7_callsBy_123 : decode cX7_callsBy 123 = .ok (.ifCond .eq 10, 3) := by decide +kernel
theorem dX7_callsBy_126 : decode cX7_callsBy 126 = .ok (.iconst 1, 1) := by decide +kernel
theorem dX7_callsBy_127 : decode cX7_callsBy 127 = .ok (.iload 5, 2) := by decide +kernel
theorem dX7_callsBy_129 : decode cX7_callsBy 129 = .ok (.ishl, 1) := by decide +kernel
theorem dX7_callsBy_130 : decode cX7_callsBy 130 = .ok (.goto 4, 3) := by decide +kernel
theorem dX7_callsBy_133 : decode cX7_callsBy 133 = .ok (.iconst 0, 1) := by decide +kernel
theorem dX7_callsBy_134 : decode cX7_callsBy 134 = .ok (.ior, 1) := by decide +kernel
theorem dX7_callsBy_135 : decode cX7_callsBy 135 = .ok (.istore 4, 2) := by decide +kernel
theorem dX7_callsBy_137 : decode cX7_callsBy 137 = .ok (.aload_n 0, 1) := by decide +kernel
theorem dX7_callsBy_138 : decode cX7_callsBy 138 = .ok (.dup, 1) := by decide +kernel
theorem dX7_callsBy_139 : decode cX7_callsBy 139 = .ok (.getfield 193, 3) := by decide +kernel
theorem dX7_callsBy_142 : decode cX7_callsBy 142 = .ok (.aload_n 1, 1) := by decide +kernel
theorem dX7_callsBy_143 : decode cX7_callsBy 143 = .ok (.iload_n 2, 1) := by decide +kernel
theorem dX7_callsBy_144 : decode cX7_callsBy 144 = .ok (.iload 5, 2) := by decide +kernel
theorem dX7_callsBy_146 : decode cX7_callsBy 146 = .ok (.invokestatic 196, 3) := by decide +kernel
theorem dX7_callsBy_149 : decode cX7_callsBy 149 = .ok (.iconst 2, 1) := by decide +kernel
theorem dX7_callsBy_150 : decode cX7_callsBy 150 = .ok (.if_icmp .ne 7, 3) := by decide +kernel
theorem dX7_callsBy_153 : decode cX7_callsBy 153 = .ok (.iconst 1, 1) := by decide +kernel
theorem dX7_callsBy_154 : decode cX7_callsBy 154 = .ok (.goto 4, 3) := by decide +kernel
theorem dX7_callsBy_157 : decode cX7_callsBy 157 = .ok (.iconst 0, 1) := by decide +kernel
theorem dX7_callsBy_158 : decode cX7_callsBy 158 = .ok (.iadd, 1) := by decide +kernel
theorem dX7_callsBy_159 : decode cX7_callsBy 159 = .ok (.putfield 193, 3) := by decide +kernel
theorem dX7_callsBy_162 : decode cX7_callsBy 162 = .ok (.iinc 5 1, 3) := by decide +kernel
theorem dX7_callsBy_165 : decode cX7_callsBy 165 = .ok (.goto (-123), 3) := by decide +kernel
theorem dX7_callsBy_168 : decode cX7_callsBy 168 = .ok (.aload_n 0, 1) := by decide +kernel
theorem dX7_callsBy_169 : decode cX7_callsBy 169 = .ok (.iconst 0, 1) := by decide +kernel
theorem dX7_callsBy_170 : decode cX7_callsBy 170 = .ok (.iload_n 2, 1) := by decide +kernel
theorem dX7_callsBy_171 : decode cX7_callsBy 171 = .ok (.iload_n 3, 1) := by decide +kernel
theorem dX7_callsBy_172 : decode cX7_callsBy 172 = .ok (.iload 4, 2) := by decide +kernel
theorem dX7_callsBy_174 : decode cX7_callsBy 174 = .ok (.iconst 0, 1) := by decide +kernel
theorem dX7_callsBy_175 : decode cX7_callsBy 175 = .ok (.invokevirtual 186, 3) := by decide +kernel
theorem dX7_callsBy_178 : decode cX7_callsBy 178 = .ok (.aload_n 0, 1) := by decide +kernel
theorem dX7_callsBy_179 : decode cX7_callsBy 179 = .ok (.aload_n 1, 1) := by decide +kernel
theorem dX7_callsBy_180 : decode cX7_callsBy 180 = .ok (.iload_n 2, 1) := by decide +kernel
theorem dX7_callsBy_181 : decode cX7_callsBy 181 = .ok (.iload_n 3, 1) := by decide +kernel
theorem dX7_callsBy_182 : decode cX7_callsBy 182 = .ok (.iload 4, 2) := by decide +kernel
theorem dX7_callsBy_184 : decode cX7_callsBy 184 = .ok (.iconst 0, 1) := by decide +kernel
theorem dX7_callsBy_185 : decode cX7_callsBy 185 = .ok (.invokevirtual 200, 3) := by decide +kernel
theorem dX7_callsBy_188 : decode cX7_callsBy 188 = .ok (.return_, 1) := by decide +kernel
theorem dX7_ends_0 : decode cX7_ends 0 = .ok (.aload_n 0, 1) := by decide +kernel
theorem dX7_ends_1 : decode cX7_ends 1 = .ok (.dup, 1) := by decide +kernel
theorem dX7_ends_2 : decode cX7_ends 2 = .ok (.getfield 183, 3) := by decide +kernel
theorem dX7_ends_5 : decode cX7_ends 5 = .ok (.iconst 1, 1) := by decide +kernel
theorem dX7_ends_6 : decode cX7_ends 6 = .ok (.isub, 1) := by decide +kernel
theorem dX7_ends_7 : decode cX7_ends 7 = .ok (.putfield 183, 3) := by decide +kernel
theorem dX7_ends_10 : decode cX7_ends 10 = .ok (.aload_n 0, 1) := by decide +kernel
theorem dX7_ends_11 : decode cX7_ends 11 = .ok (.iload_n 1, 1) := by decide +kernel
theorem dX7_ends_12 : decode cX7_ends 12 = .ok (.putfield 204, 3) := by decide +kernel
theorem dX7_ends_15 : decode cX7_ends 15 = .ok (.aload_n 0, 1) := by decide +kernel
theorem dX7_ends_16 : decode cX7_ends 16 = .ok (.iload_n 2, 1) := by decide +kernel
theorem dX7_ends_17 : decode cX7_ends 17 = .ok (.putfield 207, 3) := by decide +kernel
theorem dX7_ends_20 : decode cX7_ends 20 = .ok (.return_, 1) := by decide +kernel
theorem dX7_abouts_0 : decode cX7_abouts 0 = .ok (.aload_n 0, 1) := by decide +kernel
theorem dX7_abouts_1 : decode cX7_abouts 1 = .ok (.getfield 44, 3) := by decide +kernel
theorem dX7_abouts_4 : decode cX7_abouts 4 = .ok (.iload_n 2, 1) := by decide +kernel
theorem dX7_abouts_5 : decode cX7_abouts 5 = .ok (.iconst 4, 1) := by decide +kernel
theorem dX7_abouts_6 : decode cX7_abouts 6 = .ok (.iadd, 1) := by decide +kernel
theorem dX7_abouts_7 : decode cX7_abouts 7 = .ok (.iaload, 1) := by decide +kernel
theorem dX7_abouts_8 : decode cX7_abouts 8 = .ok (.istore 4, 2) := by decide +kernel
theorem dX7_abouts_10 : decode cX7_abouts 10 = .ok (.aload_n 1, 1) := by decide +kernel
theorem dX7_abouts_11 : decode cX7_abouts 11 = .ok (.bipush 62, 2) := by decide +kernel
theorem dX7_abouts_13 : decode cX7_abouts 13 = .ok (.bipush 6, 2) := by decide +kernel
theorem dX7_abouts_15 : decode cX7_abouts 15 = .ok (.iload 4, 2) := by decide +kernel
theorem dX7_abouts_17 : decode cX7_abouts 17 = .ok (.imul, 1) := by decide +kernel
theorem dX7_abouts_18 : decode cX7_abouts 18 = .ok (.iadd, 1) := by decide +kernel
theorem dX7_abouts_19 : decode cX7_abouts 19 = .ok (.iaload, 1) := by decide +kernel
theorem dX7_abouts_20 : decode cX7_abouts 20 = .ok (.istore 5, 2) := by decide +kernel
theorem dX7_abouts_22 : decode cX7_abouts 22 = .ok (.aload_n 1, 1) := by decide +kernel
theorem dX7_abouts_23 : decode cX7_abouts 23 = .ok (.bipush 62, 2) := by decide +kernel
theorem dX7_abouts_25 : decode cX7_abouts 25 = .ok (.bipush 6, 2) := by decide +kernel
theorem dX7_abouts_27 : decode cX7_abouts 27 = .ok (.iload 4, 2) := by decide +kernel
theorem dX7_abouts_29 : decode cX7_abouts 29 = .ok (.imul, 1) := by decide +kernel
theorem dX7_abouts_30 : decode cX7_abouts 30 = .ok (.iadd, 1) := by decide +kernel
theorem dX7_abouts_31 : decode cX7_abouts 31 = .ok (.iconst 1, 1) := by decide +kernel
theorem dX7_abouts_32 : decode cX7_abouts 32 = .ok (.iadd, 1) := by decide +kernel
theorem dX7_abouts_33 : decode cX7_abouts 33 = .ok (.iaload, 1) := by decide +kernel
theorem dX7_abouts_34 : decode cX7_abouts 34 = .ok (.istore 6, 2) := by decide +kernel
theorem dX7_abouts_36 : decode cX7_abouts 36 = .ok (.iload 5, 2) := by decide +kernel
theorem dX7_abouts_38 : decode cX7_abouts 38 = .ok (.iconst 4, 1) := by decide +kernel
theorem dX7_abouts_39 : decode cX7_abouts 39 = .ok (.if_icmp .ne 10, 3) := by decide +kernel
theorem dX7_abouts_42 : decode cX7_abouts 42 = .ok (.iload 6, 2) := by decide +kernel
theorem dX7_abouts_44 : decode cX7_abouts 44 = .ok (.iconst 3, 1) := by decide +kernel
theorem dX7_abouts_45 : decode cX7_abouts 45 = .ok (.irem, 1) := by decide +kernel
theorem dX7_abouts_46 : decode cX7_abouts 46 = .ok (.goto 4, 3) := by decide +kernel
theorem dX7_abouts_49 : decode cX7_abouts 49 = .ok (.iconst 1, 1) := by decide +kernel
theorem dX7_abouts_50 : decode cX7_abouts 50 = .ok (.istore 7, 2) := by decide +kernel
theorem dX7_abouts_52 : decode cX7_abouts 52 = .ok (.iload_n 3, 1) := by decide +kernel
theorem dX7_abouts_53 : decode cX7_abouts 53 = .ok (.ifCond .ne 15, 3) := by decide +kernel
theorem dX7_abouts_56 : decode cX7_abouts 56 = .ok (.iload 5, 2) := by decide +kernel
theorem dX7_abouts_58 : decode cX7_abouts 58 = .ok (.iconst 4, 1) := by decide +kernel
theorem dX7_abouts_59 : decode cX7_abouts 59 = .ok (.if_icmp .lt 9, 3) := by decide +kernel
theorem dX7_abouts_62 : decode cX7_abouts 62 = .ok (.aload_n 0, 1) := by decide +kernel
theorem dX7_abouts_63 : decode cX7_abouts 63 = .ok (.iload 6, 2) := by decide +kernel
theorem dX7_abouts_65 : decode cX7_abouts 65 = .ok (.invokevirtual 210, 3) := by decide +kernel
theorem dX7_abouts_68 : decode cX7_abouts 68 = .ok (.aload_n 0, 1) := by decide +kernel
theorem dX7_abouts_69 : decode cX7_abouts 69 = .ok (.getfield 44, 3) := by decide +kernel
theorem dX7_abouts_72 : decode cX7_abouts 72 = .ok (.iload_n 2, 1) := by decide +kernel
theorem dX7_abouts_73 : decode cX7_abouts 73 = .ok (.iconst 5, 1) := by decide +kernel
theorem dX7_abouts_74 : decode cX7_abouts 74 = .ok (.iadd, 1) := by decide +kernel
theorem dX7_abouts_75 : decode cX7_abouts 75 = .ok (.dup2, 1) := by decide +kernel
theorem dX7_abouts_76 : decode cX7_abouts 76 = .ok (.iaload, 1) := by decide +kernel
theorem dX7_abouts_77 : decode cX7_abouts 77 = .ok (.iconst 1, 1) := by decide +kernel
theorem dX7_abouts_78 : decode cX7_abouts 78 = .ok (.iadd, 1) := by decide +kernel
theorem dX7_abouts_79 : decode cX7_abouts 79 = .ok (.iastore, 1) := by decide +kernel
theorem dX7_abouts_80 : decode cX7_abouts 80 = .ok (.iload_n 3, 1) := by decide +kernel
theorem dX7_abouts_81 : decode cX7_abouts 81 = .ok (.ifCond .eq 40, 3) := by decide +kernel
theorem dX7_abouts_84 : decode cX7_abouts 84 = .ok (.aload_n 0, 1) := by decide +kernel
theorem dX7_abouts_85 : decode cX7_abouts 85 = .ok (.getfield 204, 3) := by decide +kernel
theorem dX7_abouts_88 : decode cX7_abouts 88 = .ok (.ifCond .le 33, 3) := by decide +kernel
theorem dX7_abouts_91 : decode cX7_abouts 91 = .ok (.iload 5, 2) := by decide +kernel
theorem dX7_abouts_93 : decode cX7_abouts 93 = .ok (.iconst 1, 1) := by decide +kernel
theorem dX7_abouts_94 : decode cX7_abouts 94 = .ok (.if_icmp .eq 9, 3) := by decide +kernel
theorem dX7_abouts_97 : decode cX7_abouts 97 = .ok (.iload 5, 2) := by decide +kernel
theorem dX7_abouts_99 : decode cX7_abouts 99 = .ok (.iconst 3, 1) := by decide +kernel
theorem dX7_abouts_100 : decode cX7_abouts 100 = .ok (.if_icmp .ne 9, 3) := by decide +kernel
theorem dX7_abouts_103 : decode cX7_abouts 103 = .ok (.aload_n 0, 1) := by decide +kernel
theorem dX7_abouts_104 : decode cX7_abouts 104 = .ok (.iload 6, 2) := by decide +kernel
theorem dX7_abouts_106 : decode cX7_abouts 106 = .ok (.invokevirtual 210, 3) := by decide +kernel
theorem dX7_abouts_109 : decode cX7_abouts 109 = .ok (.aload_n 0, 1) := by decide +kernel
theorem dX7_abouts_110 : decode cX7_abouts 110 = .ok (.aload_n 0, 1) := by decide +kernel
theorem dX7_abouts_111 : decode cX7_abouts 111 = .ok (.getfield 204, 3) := by decide +kernel
theorem dX7_abouts_114 : decode cX7_abouts 114 = .ok (.iconst 0, 1) := by decide +kernel
theorem dX7_abouts_115 : decode cX7_abouts 115 = .ok (.invokevirtual 214, 3) := by decide +kernel
theorem dX7_abouts_118 : decode cX7_abouts 118 = .ok (.goto 117, 3) := by decide +kernel
theorem dX7_abouts_121 : decode cX7_abouts 121 = .ok (.aload_n 0, 1) := by decide +kernel
theorem dX7_abouts_122 : decode cX7_abouts 122 = .ok (.getfield 44, 3) := by decide +kernel
theorem dX7_abouts_125 : decode cX7_abouts 125 = .ok (.iload_n 2, 1) := by decide +kernel
theorem dX7_abouts_126 : decode cX7_abouts 126 = .ok (.iconst 5, 1) := by decide +kernel
theorem dX7_abouts_127 : decode cX7_abouts 127 = .ok (.iadd, 1) := by decide +kernel
theorem dX7_abouts_128 : decode cX7_abouts 128 = .ok (.iaload, 1) := by decide +kernel
theorem dX7_abouts_129 : decode cX7_abouts 129 = .ok (.iload 7, 2) := by decide +kernel
theorem dX7_abouts_131 : decode cX7_abouts 131 = .ok (.if_icmp .ge 39, 3) := by decide +kernel
theorem dX7_abouts_134 : decode cX7_abouts 134 = .ok (.aload_n 0, 1) := by decide +kernel
theorem dX7_abouts_135 : decode cX7_abouts 135 = .ok (.aload_n 1, 1) := by decide +kernel
theorem dX7_abouts_136 : decode cX7_abouts 136 = .ok (.aload_n 0, 1) := by decide +kernel
theorem dX7_abouts_137 : decode cX7_abouts 137 = .ok (.getfield 44, 3) := by decide +kernel
theorem dX7_abouts_140 : decode cX7_abouts 140 = .ok (.iload_n 2, 1) := by decide +kernel
theorem dX7_abouts_141 : decode cX7_abouts 141 = .ok (.iconst 1, 1) := by decide +kernel
theorem dX7_abouts_142 : decode cX7_abouts 142 = .ok (.iadd, 1) := by decide +kernel
theorem dX7_abouts_143 : decode cX7_abouts 143 = .ok (.iaload, 1) := by decide +kernel
theorem dX7_abouts_144 : decode cX7_abouts 144 = .ok (.aload_n 0, 1) := by decide +kernel
theorem dX7_abouts_145 : decode cX7_abouts 145 = .ok (.getfield 44, 3) := by decide +kernel
theorem dX7_abouts_148 : decode cX7_abouts 148 = .ok (.iload_n 2, 1) := by decide +kernel
theorem dX7_abouts_149 : decode cX7_abouts 149 = .ok (.iconst 2, 1) := by decide +kernel
theorem dX7_abouts_150 : decode cX7_abouts 150 = .ok (.iadd, 1) := by decide +kernel
theorem dX7_abouts_151 : decode cX7_abouts 151 = .ok (.iaload, 1) := by decide +kernel
theorem dX7_abouts_152 : decode cX7_abouts 152 = .ok (.aload_n 0, 1) := by decide +kernel
theorem dX7_abouts_153 : decode cX7_abouts 153 = .ok (.getfield 44, 3) := by decide +kernel
theorem dX7_abouts_156 : decode cX7_abouts 156 = .ok (.iload_n 2, 1) := by decide +kernel
theorem dX7_abouts_157 : decode cX7_abouts 157 = .ok (.iconst 3, 1) := by decide +kernel
theorem dX7_abouts_158 : decode cX7_abouts 158 = .ok (.iadd, 1) := by decide +kernel
theorem dX7_abouts_159 : decode cX7_abouts 159 = .ok (.iaload, 1) := by decide +kernel
theorem dX7_abouts_160 : decode cX7_abouts 160 = .ok (.iload 4, 2) := by decide +kernel
theorem dX7_abouts_162 : decode cX7_abouts 162 = .ok (.iconst 1, 1) := by decide +kernel
theorem dX7_abouts_163 : decode cX7_abouts 163 = .ok (.iadd, 1) := by decide +kernel
theorem dX7_abouts_164 : decode cX7_abouts 164 = .ok (.invokevirtual 200, 3) := by decide +kernel
theorem dX7_abouts_167 : decode cX7_abouts 167 = .ok (.goto 68, 3) := by decide +kernel
theorem dX7_abouts_170 : decode cX7_abouts 170 = .ok (.iload 5, 2) := by decide +kernel
theorem dX7_abouts_172 : decode cX7_abouts 172 = .ok (.iconst 4, 1) := by decide +kernel
theorem dX7_abouts_173 : decode cX7_abouts 173 = .ok (.if_icmp .ne 35, 3) := by decide +kernel
theorem dX7_abouts_176 : decode cX7_abouts 176 = .ok (.aload_n 0, 1) := by decide +kernel
theorem dX7_abouts_177 : decode cX7_abouts 177 = .ok (.iload 6, 2) := by decide +kernel
theorem dX7_abouts_179 : decode cX7_abouts 179 = .ok (.bipush 100, 2) := by decide +kernel
theorem dX7_abouts_181 : decode cX7_abouts 181 = .ok (.iadd, 1) := by decide +kernel
theorem dX7_abouts_182 : decode cX7_abouts 182 = .ok (.invokevirtual 210, 3) := by decide +kernel
theorem dX7_abouts_185 : decode cX7_abouts 185 = .ok (.aload_n 0, 1) := by decide +kernel
theorem dX7_abouts_186 : decode cX7_abouts 186 = .ok (.iconst 0, 1) := by decide +kernel
theorem dX7_abouts_187 : decode cX7_abouts 187 = .ok (.iload_n 3, 1) := by decide +kernel
theorem dX7_abouts_188 : decode cX7_abouts 188 = .ok (.ifCond .eq 12, 3) := by decide +kernel
theorem dX7_abouts_191 : decode cX7_abouts 191 = .ok (.aload_n 0, 1) := by decide +kernel
theorem dX7_abouts_192 : decode cX7_abouts 192 = .ok (.getfield 207, 3) := by decide +kernel
theorem dX7_abouts_195 : decode cX7_abouts 195 = .ok (.iconst 1, 1) := by decide +kernel
theorem dX7_abouts_196 : decode cX7_abouts 196 = .ok (.iadd, 1) := by decide +kernel
theorem dX7_abouts_197 : decode cX7_abouts 197 = .ok (.goto 5, 3) := by decide +kernel
theorem dX7_abouts_200 : decode cX7_abouts 200 = .ok (.iload 6, 2) := by decide +kernel
theorem dX7_abouts_202 : decode cX7_abouts 202 = .ok (.invokevirtual 214, 3) := by decide +kernel
theorem dX7_abouts_205 : decode cX7_abouts 205 = .ok (.goto 30, 3) := by decide +kernel
theorem dX7_abouts_208 : decode cX7_abouts 208 = .ok (.iload 5, 2) := by decide +kernel
theorem dX7_abouts_210 : decode cX7_abouts 210 = .ok (.iconst 1, 1) := by decide +kernel
theorem dX7_abouts_211 : decode cX7_abouts 211 = .ok (.if_icmp .eq 9, 3) := by decide +kernel
theorem dX7_abouts_214 : decode cX7_abouts 214 = .ok (.iload 5, 2) := by decide +kernel
theorem dX7_abouts_216 : decode cX7_abouts 216 = .ok (.iconst 2, 1) := by decide +kernel
theorem dX7_abouts_217 : decode cX7_abouts 217 = .ok (.if_icmp .ne 9, 3) := by decide +kernel
theorem dX7_abouts_220 : decode cX7_abouts 220 = .ok (.aload_n 0, 1) := by decide +kernel
theorem dX7_abouts_221 : decode cX7_abouts 221 = .ok (.iload 6, 2) := by decide +kernel
theorem dX7_abouts_223 : decode cX7_abouts 223 = .ok (.invokevirtual 210, 3) := by decide +kernel
theorem dX7_abouts_226 : decode cX7_abouts 226 = .ok (.aload_n 0, 1) := by decide +kernel
theorem dX7_abouts_227 : decode cX7_abouts 227 = .ok (.iconst 0, 1) := by decide +kernel
theorem dX7_abouts_228 : decode cX7_abouts 228 = .ok (.aload_n 0, 1) := by decide +kernel
theorem dX7_abouts_229 : decode cX7_abouts 229 = .ok (.getfield 207, 3) := by decide +kernel
theorem dX7_abouts_232 : decode cX7_abouts 232 = .ok (.invokevirtual 214, 3) := by decide +kernel
theorem dX7_abouts_235 : decode cX7_abouts 235 = .ok (.return_, 1) := by decide +kernel
theorem dX7_bodies_0 : decode cX7_bodies 0 = .ok (.iload_n 3, 1) := by decide +kernel
theorem dX7_bodies_1 : decode cX7_bodies 1 = .ok (.ifCond .eq 20, 3) := by decide +kernel
theorem dX7_bodies_4 : decode cX7_bodies 4 = .ok (.aload_n 0, 1) := by decide +kernel
theorem dX7_bodies_5 : decode cX7_bodies 5 = .ok (.getfield 204, 3) := by decide +kernel
theorem dX7_bodies_8 : decode cX7_bodies 8 = .ok (.ifCond .le 13, 3) := by decide +kernel
theorem dX7_bodies_11 : decode cX7_bodies 11 = .ok (.aload_n 0, 1) := by decide +kernel
theorem dX7_bodies_12 : decode cX7_bodies 12 = .ok (.aload_n 0, 1) := by decide +kernel
theorem dX7_bodies_13 : decode cX7_bodies 13 = .ok (.getfield 204, 3) := by decide +kernel
theorem dX7_bodies_16 : decode cX7_bodies 16 = .ok (.iconst 0, 1) := by decide +kernel
theorem dX7_bodies_17 : decode cX7_bodies 17 = .ok (.invokevirtual 214, 3) := by decide +kernel
theorem dX7_bodies_20 : decode cX7_bodies 20 = .ok (.return_, 1) := by decide +kernel
theorem dX7_bodies_21 : decode cX7_bodies 21 = .ok (.aload_n 0, 1) := by decide +kernel
theorem dX7_bodies_22 : decode cX7_bodies 22 = .ok (.getfield 44, 3) := by decide +kernel
theorem dX7_bodies_25 : decode cX7_bodies 25 = .ok (.iload_n 2, 1) := by decide +kernel
theorem dX7_bodies_26 : decode cX7_bodies 26 = .ok (.bipush 6, 2) := by decide +kernel
theorem dX7_bodies_28 : decode cX7_bodies 28 = .ok (.iadd, 1) := by decide +kernel
theorem dX7_bodies_29 : decode cX7_bodies 29 = .ok (.dup2, 1) := by decide +kernel
theorem dX7_bodies_30 : decode cX7_bodies 30 = .ok (.iaload, 1) := by decide +kernel
theorem dX7_bodies_31 : decode cX7_bodies 31 = .ok (.iload_n 3, 1) := by decide +kernel
theorem dX7_bodies_32 : decode cX7_bodies 32 = .ok (.ifCond .eq 10, 3) := by decide +kernel
theorem dX7_bodies_35 : decode cX7_bodies 35 = .ok (.aload_n 0, 1) := by decide +kernel
theorem dX7_bodies_36 : decode cX7_bodies 36 = .ok (.getfield 207, 3) := by decide +kernel
theorem dX7_bodies_39 : decode cX7_bodies 39 = .ok (.goto 4, 3) := by decide +kernel
theorem dX7_bodies_42 : decode cX7_bodies 42 = .ok (.iconst 0, 1) := by decide +kernel
theorem dX7_bodies_43 : decode cX7_bodies 43 = .ok (.iadd, 1) := by decide +kernel
theorem dX7_bodies_44 : decode cX7_bodies 44 = .ok (.iastore, 1) := by decide +kernel
theorem dX7_bodies_45 : decode cX7_bodies 45 = .ok (.aload_n 0, 1) := by decide +kernel
theorem dX7_bodies_46 : decode cX7_bodies 46 = .ok (.getfield 44, 3) := by decide +kernel
theorem dX7_bodies_49 : decode cX7_bodies 49 = .ok (.iload_n 2, 1) := by decide +kernel
theorem dX7_bodies_50 : decode cX7_bodies 50 = .ok (.iconst 4, 1) := by decide +kernel
theorem dX7_bodies_51 : decode cX7_bodies 51 = .ok (.iadd, 1) := by decide +kernel
theorem dX7_bodies_52 : decode cX7_bodies 52 = .ok (.iaload, 1) := by decide +kernel
theorem dX7_bodies_53 : decode cX7_bodies 53 = .ok (.istore 4, 2) := by decide +kernel
theorem dX7_bodies_55 : decode cX7_bodies 55 = .ok (.iconst 2, 1) := by decide +kernel
theorem dX7_bodies_56 : decode cX7_bodies 56 = .ok (.bipush 10, 2) := by decide +kernel
theorem dX7_bodies_58 : decode cX7_bodies 58 = .ok (.aload_n 0, 1) := by decide +kernel
theorem dX7_bodies_59 : decode cX7_bodies 59 = .ok (.getfield 44, 3) := by decide +kernel
theorem dX7_bodies_62 : decode cX7_bodies 62 = .ok (.iload_n 2, 1) := by decide +kernel
theorem dX7_bodies_63 : decode cX7_bodies 63 = .ok (.iconst 1, 1) := by decide +kernel
theorem dX7_bodies_64 : decode cX7_bodies 64 = .ok (.iadd, 1) := by decide +kernel
theorem dX7_bodies_65 : decode cX7_bodies 65 = .ok (.iaload, 1) := by decide +kernel
theorem dX7_bodies_66 : decode cX7_bodies 66 = .ok (.imul, 1) := by decide +kernel
theorem dX7_bodies_67 : decode cX7_bodies 67 = .ok (.iadd, 1) := by decide +kernel
theorem dX7_bodies_68 : decode cX7_bodies 68 = .ok (.istore 5, 2) := by decide +kernel
theorem dX7_bodies_70 : decode cX7_bodies 70 = .ok (.aload_n 0, 1) := by decide +kernel
theorem dX7_bodies_71 : decode cX7_bodies 71 = .ok (.getfield 44, 3) := by decide +kernel
theorem dX7_bodies_74 : decode cX7_bodies 74 = .ok (.iload_n 2, 1) := by decide +kernel
theorem dX7_bodies_75 : decode cX7_bodies 75 = .ok (.iconst 4, 1) := by decide +kernel
theorem dX7_bodies_76 : decode cX7_bodies 76 = .ok (.iadd, 1) := by decide +kernel
theorem dX7_bodies_77 : decode cX7_bodies 77 = .ok (.dup2, 1) := by decide +kernel
theorem dX7_bodies_78 : decode cX7_bodies 78 = .ok (.iaload, 1) := by decide +kernel
theorem dX7_bodies_79 : decode cX7_bodies 79 = .ok (.iconst 1, 1) := by decide +kernel
theorem dX7_bodies_80 : decode cX7_bodies 80 = .ok (.iadd, 1) := by decide +kernel
theorem dX7_bodies_81 : decode cX7_bodies 81 = .ok (.iastore, 1) := by decide +kernel
theorem dX7_bodies_82 : decode cX7_bodies 82 = .ok (.iload 4, 2) := by decide +kernel
theorem dX7_bodies_84 : decode cX7_bodies 84 = .ok (.aload_n 1, 1) := by decide +kernel
theorem dX7_bodies_85 : decode cX7_bodies 85 = .ok (.iload 5, 2) := by decide +kernel
theorem dX7_bodies_87 : decode cX7_bodies 87 = .ok (.iconst 1, 1) := by decide +kernel
theorem dX7_bodies_88 : decode cX7_bodies 88 = .ok (.iadd, 1) := by decide +kernel
theorem dX7_bodies_89 : decode cX7_bodies 89 = .ok (.iaload, 1) := by decide +kernel
theorem dX7_bodies_90 : decode cX7_bodies 90 = .ok (.if_icmp .lt 20, 3) := by decide +kernel
theorem dX7_bodies_93 : decode cX7_bodies 93 = .ok (.aload_n 0, 1) := by decide +kernel
theorem dX7_bodies_94 : decode cX7_bodies 94 = .ok (.iconst 0, 1) := by decide +kernel
theorem dX7_bodies_95 : decode cX7_bodies 95 = .ok (.aload_n 0, 1) := by decide +kernel
theorem dX7_bodies_96 : decode cX7_bodies 96 = .ok (.getfield 44, 3) := by decide +kernel
theorem dX7_bodies_99 : decode cX7_bodies 99 = .ok (.iload_n 2, 1) := by decide +kernel
theorem dX7_bodies_100 : decode cX7_bodies 100 = .ok (.bipush 6, 2) := by decide +kernel
theorem dX7_bodies_102 : decode cX7_bodies 102 = .ok (.iadd, 1) := by decide +kernel
theorem dX7_bodies_103 : decode cX7_bodies 103 = .ok (.iaload, 1) := by decide +kernel
theorem dX7_bodies_104 : decode cX7_bodies 104 = .ok (.invokevirtual 214, 3) := by decide +kernel
theorem dX7_bodies_107 : decode cX7_bodies 107 = .ok (.goto 112, 3) := by decide +kernel
theorem dX7_bodies_110 : decode cX7_bodies 110 = .ok (.aload_n 1, 1) := by decide +kernel
theorem dX7_bodies_111 : decode cX7_bodies 111 = .ok (.iload 5, 2) := by decide +kernel
theorem dX7_bodies_113 : decode cX7_bodies 113 = .ok (.iconst 2, 1) := by decide +kernel
theorem dX7_bodies_114 : decode cX7_bodies 114 = .ok (.iadd, 1) := by decide +kernel
theorem dX7_bodies_115 : decode cX7_bodies 115 = .ok (.iconst 2, 1) := by decide +kernel
theorem dX7_bodies_116 : decode cX7_bodies 116 = .ok (.iload 4, 2) := by decide +kernel
theorem dX7_bodies_118 : decode cX7_bodies 118 = .ok (.imul, 1) := by decide +kernel
theorem dX7_bodies_119 : decode cX7_bodies 119 = .ok (.iadd, 1) := by decide +kernel
theorem dX7_bodies_120 : decode cX7_bodies 120 = .ok (.iaload, 1) := by decide +kernel
theorem dX7_bodies_121 : decode cX7_bodies 121 = .ok (.ifCond .ne 23, 3) := by decide +kernel
