theorem dX7_fits_17 : decode cX7_fits 17 = .ok (.iconst 0, 1) := by decide +kernel
theorem dX7_fits_18 : decode cX7_fits 18 = .ok (.bipush 9, 2) := by decide +kernel
theorem dX7_fits_20 : decode cX7_fits 20 = .ok (.invokestatic 62, 3) := by decide +kernel
theorem dX7_fits_23 : decode cX7_fits 23 = .ok (.ifCond .eq 21, 3) := by decide +kernel
theorem dX7_fits_26 : decode cX7_fits 26 = .ok (.iload 4, 2) := by decide +kernel
theorem dX7_fits_28 : decode cX7_fits 28 = .ok (.invokestatic 66, 3) := by decide +kernel
theorem dX7_fits_31 : decode cX7_fits 31 = .ok (.ifCond .eq 13, 3) := by decide +kernel
theorem dX7_fits_34 : decode cX7_fits 34 = .ok (.iload 5, 2) := by decide +kernel
theorem dX7_fits_36 : decode cX7_fits 36 = .ok (.iconst 0, 1) := by decide +kernel
theorem dX7_fits_37 : decode cX7_fits 37 = .ok (.iconst 2, 1) := by decide +kernel
theorem dX7_fits_38 : decode cX7_fits 38 = .ok (.invokestatic 62, 3) := by decide +kernel
theorem dX7_fits_41 : decode cX7_fits 41 = .ok (.ifCond .ne 6, 3) := by decide +kernel
theorem dX7_fits_44 : decode cX7_fits 44 = .ok (.ldc 70, 2) := by decide +kernel
theorem dX7_fits_46 : decode cX7_fits 46 = .ok (.ireturn, 1) := by decide +kernel
theorem dX7_fits_47 : decode cX7_fits 47 = .ok (.aload_n 0, 1) := by decide +kernel
theorem dX7_fits_48 : decode cX7_fits 48 = .ok (.iload 4, 2) := by decide +kernel
theorem dX7_fits_50 : decode cX7_fits 50 = .ok (.invokevirtual 78, 3) := by decide +kernel
theorem dX7_fits_53 : decode cX7_fits 53 = .ok (.ifCond .eq 9, 3) := by decide +kernel
theorem dX7_fits_56 : decode cX7_fits 56 = .ok (.aload_n 0, 1) := by decide +kernel
theorem dX7_fits_57 : decode cX7_fits 57 = .ok (.iconst 1, 1) := by decide +kernel
theorem dX7_fits_58 : decode cX7_fits 58 = .ok (.invokevirtual 71, 3) := by decide +kernel
theorem dX7_fits_61 : decode cX7_fits 61 = .ok (.ireturn, 1) := by decide +kernel
theorem dX7_fits_62 : decode cX7_fits 62 = .ok (.aload_n 0, 1) := by decide +kernel
theorem dX7_fits_63 : decode cX7_fits 63 = .ok (.getfield 13, 3) := by decide +kernel
theorem dX7_fits_66 : decode cX7_fits 66 = .ok (.iload 4, 2) := by decide +kernel
theorem dX7_fits_68 : decode cX7_fits 68 = .ok (.iaload, 1) := by decide +kernel
theorem dX7_fits_69 : decode cX7_fits 69 = .ok (.ifCond .ne 9, 3) := by decide +kernel
theorem dX7_fits_72 : decode cX7_fits 72 = .ok (.aload_n 0, 1) := by decide +kernel
theorem dX7_fits_73 : decode cX7_fits 73 = .ok (.iconst 2, 1) := by decide +kernel
theorem dX7_fits_74 : decode cX7_fits 74 = .ok (.invokevirtual 71, 3) := by decide +kernel
theorem dX7_fits_77 : decode cX7_fits 77 = .ok (.ireturn, 1) := by decide +kernel
theorem dX7_fits_78 : decode cX7_fits 78 = .ok (.iconst 0, 1) := by decide +kernel
theorem dX7_fits_79 : decode cX7_fits 79 = .ok (.istore 6, 2) := by decide +kernel
theorem dX7_fits_81 : decode cX7_fits 81 = .ok (.iload 5, 2) := by decide +kernel
theorem dX7_fits_83 : decode cX7_fits 83 = .ok (.ifCond .ne 7, 3) := by decide +kernel
theorem dX7_fits_86 : decode cX7_fits 86 = .ok (.iconst 1, 1) := by decide +kernel
theorem dX7_fits_87 : decode cX7_fits 87 = .ok (.goto 4, 3) := by decide +kernel
theorem dX7_fits_90 : decode cX7_fits 90 = .ok (.iconst 0, 1) := by decide +kernel
theorem dX7_fits_91 : decode cX7_fits 91 = .ok (.istore 7, 2) := by decide +kernel
theorem dX7_fits_93 : decode cX7_fits 93 = .ok (.iload 7, 2) := by decide +kernel
theorem dX7_fits_95 : decode cX7_fits 95 = .ok (.iload 5, 2) := by decide +kernel
theorem dX7_fits_97 : decode cX7_fits 97 = .ok (.ifCond .ne 7, 3) := by decide +kernel
theorem dX7_fits_100 : decode cX7_fits 100 = .ok (.iconst 5, 1) := by decide +kernel
theorem dX7_fits_101 : decode cX7_fits 101 = .ok (.goto 22, 3) := by decide +kernel
theorem dX7_fits_104 : decode cX7_fits 104 = .ok (.iload 5, 2) := by decide +kernel
theorem dX7_fits_106 : decode cX7_fits 106 = .ok (.iconst 1, 1) := by decide +kernel
theorem dX7_fits_107 : decode cX7_fits 107 = .ok (.if_icmp .ne 8, 3) := by decide +kernel
theorem dX7_fits_110 : decode cX7_fits 110 = .ok (.bipush 10, 2) := by decide +kernel
theorem dX7_fits_112 : decode cX7_fits 112 = .ok (.goto 11, 3) := by decide +kernel
theorem dX7_fits_115 : decode cX7_fits 115 = .ok (.aload_n 0, 1) := by decide +kernel
theorem dX7_fits_116 : decode cX7_fits 116 = .ok (.getfield 25, 3) := by decide +kernel
theorem dX7_fits_119 : decode cX7_fits 119 = .ok (.iconst 1, 1) := by decide +kernel
theorem dX7_fits_120 : decode cX7_fits 120 = .ok (.iaload, 1) := by decide +kernel
theorem dX7_fits_121 : decode cX7_fits 121 = .ok (.iconst 1, 1) := by decide +kernel
theorem dX7_fits_122 : decode cX7_fits 122 = .ok (.isub, 1) := by decide +kernel
theorem dX7_fits_123 : decode cX7_fits 123 = .ok (.if_icmp .gt 90, 3) := by decide +kernel
theorem dX7_fits_126 : decode cX7_fits 126 = .ok (.aload_n 0, 1) := by decide +kernel
theorem dX7_fits_127 : decode cX7_fits 127 = .ok (.getfield 25, 3) := by decide +kernel
theorem dX7_fits_130 : decode cX7_fits 130 = .ok (.iconst 0, 1) := by decide +kernel
theorem dX7_fits_131 : decode cX7_fits 131 = .ok (.aload_n 0, 1) := by decide +kernel
theorem dX7_fits_132 : decode cX7_fits 132 = .ok (.getfield 31, 3) := by decide +kernel
theorem dX7_fits_135 : decode cX7_fits 135 = .ok (.iconst 0, 1) := by decide +kernel
theorem dX7_fits_136 : decode cX7_fits 136 = .ok (.invokestatic 151, 3) := by decide +kernel
theorem dX7_fits_139 : decode cX7_fits 139 = .ok (.iload 5, 2) := by decide +kernel
theorem dX7_fits_141 : decode cX7_fits 141 = .ok (.iconst 2, 1) := by decide +kernel
theorem dX7_fits_142 : decode cX7_fits 142 = .ok (.if_icmp .ne 16, 3) := by decide +kernel
theorem dX7_fits_145 : decode cX7_fits 145 = .ok (.aload_n 0, 1) := by decide +kernel
theorem dX7_fits_146 : decode cX7_fits 146 = .ok (.getfield 31, 3) := by decide +kernel
theorem dX7_fits_149 : decode cX7_fits 149 = .ok (.iload_n 1, 1) := by decide +kernel
theorem dX7_fits_150 : decode cX7_fits 150 = .ok (.iload 7, 2) := by decide +kernel
theorem dX7_fits_152 : decode cX7_fits 152 = .ok (.invokestatic 239, 3) := by decide +kernel
theorem dX7_fits_155 : decode cX7_fits 155 = .ok (.goto 28, 3) := by decide +kernel
theorem dX7_fits_158 : decode cX7_fits 158 = .ok (.aload_n 0, 1) := by decide +kernel
theorem dX7_fits_159 : decode cX7_fits 159 = .ok (.getfield 31, 3) := by decide +kernel
theorem dX7_fits_162 : decode cX7_fits 162 = .ok (.bipush 62, 2) := by decide +kernel
theorem dX7_fits_164 : decode cX7_fits 164 = .ok (.bipush 6, 2) := by decide +kernel
theorem dX7_fits_166 : decode cX7_fits 166 = .ok (.iload_n 1, 1) := by decide +kernel
theorem dX7_fits_167 : decode cX7_fits 167 = .ok (.imul, 1) := by decide +kernel
theorem dX7_fits_168 : decode cX7_fits 168 = .ok (.iadd, 1) := by decide +kernel
theorem dX7_fits_169 : decode cX7_fits 169 = .ok (.iload 5, 2) := by decide +kernel
theorem dX7_fits_171 : decode cX7_fits 171 = .ok (.ifCond .ne 7, 3) := by decide +kernel
theorem dX7_fits_174 : decode cX7_fits 174 = .ok (.iconst 0, 1) := by decide +kernel
theorem dX7_fits_175 : decode cX7_fits 175 = .ok (.goto 4, 3) := by decide +kernel
theorem dX7_fits_178 : decode cX7_fits 178 = .ok (.iconst 4, 1) := by decide +kernel
theorem dX7_fits_179 : decode cX7_fits 179 = .ok (.iadd, 1) := by decide +kernel
theorem dX7_fits_180 : decode cX7_fits 180 = .ok (.iload 7, 2) := by decide +kernel
theorem dX7_fits_182 : decode cX7_fits 182 = .ok (.iastore, 1) := by decide +kernel
theorem dX7_fits_183 : decode cX7_fits 183 = .ok (.iload 6, 2) := by decide +kernel
theorem dX7_fits_185 : decode cX7_fits 185 = .ok (.aload_n 0, 1) := by decide +kernel
theorem dX7_fits_186 : decode cX7_fits 186 = .ok (.iload_n 2, 1) := by decide +kernel
theorem dX7_fits_187 : decode cX7_fits 187 = .ok (.iload_n 3, 1) := by decide +kernel
theorem dX7_fits_188 : decode cX7_fits 188 = .ok (.iload 4, 2) := by decide +kernel
theorem dX7_fits_190 : decode cX7_fits 190 = .ok (.invokevirtual 248, 3) := by decide +kernel
theorem dX7_fits_193 : decode cX7_fits 193 = .ok (.ifCond .eq 10, 3) := by decide +kernel
theorem dX7_fits_196 : decode cX7_fits 196 = .ok (.iconst 1, 1) := by decide +kernel
theorem dX7_fits_197 : decode cX7_fits 197 = .ok (.iload 7, 2) := by decide +kernel
theorem dX7_fits_199 : decode cX7_fits 199 = .ok (.ishl, 1) := by decide +kernel
theorem dX7_fits_200 : decode cX7_fits 200 = .ok (.goto 4, 3) := by decide +kernel
theorem dX7_fits_203 : decode cX7_fits 203 = .ok (.iconst 0, 1) := by decide +kernel
theorem dX7_fits_204 : decode cX7_fits 204 = .ok (.ior, 1) := by decide +kernel
theorem dX7_fits_205 : decode cX7_fits 205 = .ok (.istore 6, 2) := by decide +kernel
theorem dX7_fits_207 : decode cX7_fits 207 = .ok (.iinc 7 1, 3) := by decide +kernel
theorem dX7_fits_210 : decode cX7_fits 210 = .ok (.goto (-117), 3) := by decide +kernel
theorem dX7_fits_213 : decode cX7_fits 213 = .ok (.aload_n 0, 1) := by decide +kernel
theorem dX7_fits_214 : decode cX7_fits 214 = .ok (.iload 6, 2) := by decide +kernel
theorem dX7_fits_216 : decode cX7_fits 216 = .ok (.invokevirtual 75, 3) := by decide +kernel
theorem dX7_fits_219 : decode cX7_fits 219 = .ok (.ireturn, 1) := by decide +kernel
theorem dX7_drawn_0 : decode cX7_drawn 0 = .ok (.aload_n 0, 1) := by decide +kernel
theorem dX7_drawn_1 : decode cX7_drawn 1 = .ok (.invokevirtual 251, 3) := by decide +kernel
theorem dX7_drawn_4 : decode cX7_drawn 4 = .ok (.ifCond .ne 6, 3) := by decide +kernel
theorem dX7_drawn_7 : decode cX7_drawn 7 = .ok (.ldc 238, 2) := by decide +kernel
theorem dX7_drawn_9 : decode cX7_drawn 9 = .ok (.ireturn, 1) := by decide +kernel
theorem dX7_drawn_10 : decode cX7_drawn 10 = .ok (.iload_n 1, 1) := by decide +kernel
theorem dX7_drawn_11 : decode cX7_drawn 11 = .ok (.iconst 0, 1) := by decide +kernel
theorem dX7_drawn_12 : decode cX7_drawn 12 = .ok (.bipush 20, 2) := by decide +kernel
theorem dX7_drawn_14 : decode cX7_drawn 14 = .ok (.invokestatic 62, 3) := by decide +kernel
theorem dX7_drawn_17 : decode cX7_drawn 17 = .ok (.ifCond .eq 22, 3) := by decide +kernel
theorem dX7_drawn_20 : decode cX7_drawn 20 = .ok (.iload_n 2, 1) := by decide +kernel
theorem dX7_drawn_21 : decode cX7_drawn 21 = .ok (.iconst 1, 1) := by decide +kernel
theorem dX7_drawn_22 : decode cX7_drawn 22 = .ok (.ldc 254, 2) := by decide +kernel
theorem dX7_drawn_24 : decode cX7_drawn 24 = .ok (.invokestatic 62, 3) := by decide +kernel
theorem dX7_drawn_27 : decode cX7_drawn 27 = .ok (.ifCond .eq 12, 3) := by decide +kernel
theorem dX7_drawn_30 : decode cX7_drawn 30 = .ok (.iload_n 3, 1) := by decide +kernel
theorem dX7_drawn_31 : decode cX7_drawn 31 = .ok (.iconst 0, 1) := by decide +kernel
theorem dX7_drawn_32 : decode cX7_drawn 32 = .ok (.iconst 1, 1) := by decide +kernel
theorem dX7_drawn_33 : decode cX7_drawn 33 = .ok (.invokestatic 62, 3) := by decide +kernel
theorem dX7_drawn_36 : decode cX7_drawn 36 = .ok (.ifCond .ne 6, 3) := by decide +kernel
theorem dX7_drawn_39 : decode cX7_drawn 39 = .ok (.ldc 70, 2) := by decide +kernel
theorem dX7_drawn_41 : decode cX7_drawn 41 = .ok (.ireturn, 1) := by decide +kernel
theorem dX7_drawn_42 : decode cX7_drawn 42 = .ok (.iload_n 2, 1) := by decide +kernel
theorem dX7_drawn_43 : decode cX7_drawn 43 = .ok (.i2l, 1) := by decide +kernel
theorem dX7_drawn_44 : decode cX7_drawn 44 = .ok (.lstore 4, 2) := by decide +kernel
theorem dX7_drawn_46 : decode cX7_drawn 46 = .ok (.iconst 0, 1) := by decide +kernel
theorem dX7_drawn_47 : decode cX7_drawn 47 = .ok (.istore 6, 2) := by decide +kernel
theorem dX7_drawn_49 : decode cX7_drawn 49 = .ok (.iconst 0, 1) := by decide +kernel
theorem dX7_drawn_50 : decode cX7_drawn 50 = .ok (.istore 7, 2) := by decide +kernel
theorem dX7_drawn_52 : decode cX7_drawn 52 = .ok (.iconst 0, 1) := by decide +kernel
theorem dX7_drawn_53 : decode cX7_drawn 53 = .ok (.istore 8, 2) := by decide +kernel
theorem dX7_drawn_55 : decode cX7_drawn 55 = .ok (.iload 8, 2) := by decide +kernel
theorem dX7_drawn_57 : decode cX7_drawn 57 = .ok (.iload_n 1, 1) := by decide +kernel
theorem dX7_drawn_58 : decode cX7_drawn 58 = .ok (.if_icmp .ge 95, 3) := by decide +kernel
theorem dX7_drawn_61 : decode cX7_drawn 61 = .ok (.lload 4, 2) := by decide +kernel
theorem dX7_drawn_63 : decode cX7_drawn 63 = .ok (.ldc2_w 255, 3) := by decide +kernel
theorem dX7_drawn_66 : decode cX7_drawn 66 = .ok (.lmul, 1) := by decide +kernel
theorem dX7_drawn_67 : decode cX7_drawn 67 = .ok (.ldc2_w 257, 3) := by decide +kernel
theorem dX7_drawn_70 : decode cX7_drawn 70 = .ok (.lrem, 1) := by decide +kernel
theorem dX7_drawn_71 : decode cX7_drawn 71 = .ok (.lstore 4, 2) := by decide +kernel
theorem dX7_drawn_73 : decode cX7_drawn 73 = .ok (.aload_n 0, 1) := by decide +kernel
theorem dX7_drawn_74 : decode cX7_drawn 74 = .ok (.aload_n 0, 1) := by decide +kernel
theorem dX7_drawn_75 : decode cX7_drawn 75 = .ok (.getfield 25, 3) := by decide +kernel
theorem dX7_drawn_78 : decode cX7_drawn 78 = .ok (.lload 4, 2) := by decide +kernel
theorem dX7_drawn_80 : decode cX7_drawn 80 = .ok (.aload_n 0, 1) := by decide +kernel
theorem dX7_drawn_81 : decode cX7_drawn 81 = .ok (.getfield 25, 3) := by decide +kernel
theorem dX7_drawn_84 : decode cX7_drawn 84 = .ok (.iconst 0, 1) := by decide +kernel
theorem dX7_drawn_85 : decode cX7_drawn 85 = .ok (.iaload, 1) := by decide +kernel
theorem dX7_drawn_86 : decode cX7_drawn 86 = .ok (.i2l, 1) := by decide +kernel
theorem dX7_drawn_87 : decode cX7_drawn 87 = .ok (.lrem, 1) := by decide +kernel
theorem dX7_drawn_88 : decode cX7_drawn 88 = .ok (.l2i, 1) := by decide +kernel
theorem dX7_drawn_89 : decode cX7_drawn 89 = .ok (.lload 4, 2) := by decide +kernel
theorem dX7_drawn_91 : decode cX7_drawn 91 = .ok (.ldc2_w 259, 3) := by decide +kernel
theorem dX7_drawn_94 : decode cX7_drawn 94 = .ok (.ldiv, 1) := by decide +kernel
theorem dX7_drawn_95 : decode cX7_drawn 95 = .ok (.ldc2_w 261, 3) := by decide +kernel
theorem dX7_drawn_98 : decode cX7_drawn 98 = .ok (.lrem, 1) := by decide +kernel
theorem dX7_drawn_99 : decode cX7_drawn 99 = .ok (.l2i, 1) := by decide +kernel
theorem dX7_drawn_100 : decode cX7_drawn 100 = .ok (.invokevirtual 245, 3) := by decide +kernel
theorem dX7_drawn_103 : decode cX7_drawn 103 = .ok (.iload 6, 2) := by decide +kernel
theorem dX7_drawn_105 : decode cX7_drawn 105 = .ok (.aload_n 0, 1) := by decide +kernel
theorem dX7_drawn_106 : decode cX7_drawn 106 = .ok (.getfield 179, 3) := by decide +kernel
theorem dX7_drawn_109 : decode cX7_drawn 109 = .ok (.ifCond .eq 7, 3) := by decide +kernel
theorem dX7_drawn_112 : decode cX7_drawn 112 = .ok (.iconst 0, 1) := by decide +kernel
theorem dX7_drawn_113 : decode cX7_drawn 113 = .ok (.goto 7, 3) := by decide +kernel
theorem dX7_drawn_116 : decode cX7_drawn 116 = .ok (.aload_n 0, 1) := by decide +kernel
theorem dX7_drawn_117 : decode cX7_drawn 117 = .ok (.getfield 176, 3) := by decide +kernel
theorem dX7_drawn_120 : decode cX7_drawn 120 = .ok (.iadd, 1) := by decide +kernel
theorem dX7_drawn_121 : decode cX7_drawn 121 = .ok (.istore 6, 2) := by decide +kernel
theorem dX7_drawn_123 : decode cX7_drawn 123 = .ok (.iload 7, 2) := by decide +kernel
theorem dX7_drawn_125 : decode cX7_drawn 125 = .ok (.aload_n 0, 1) := by decide +kernel
theorem dX7_drawn_126 : decode cX7_drawn 126 = .ok (.getfield 179, 3) := by decide +kernel
theorem dX7_drawn_129 : decode cX7_drawn 129 = .ok (.ifCond .ne 14, 3) := by decide +kernel
theorem dX7_drawn_132 : decode cX7_drawn 132 = .ok (.aload_n 0, 1) := by decide +kernel
theorem dX7_drawn_133 : decode cX7_drawn 133 = .ok (.getfield 204, 3) := by decide +kernel
theorem dX7_drawn_136 : decode cX7_drawn 136 = .ok (.ifCond .le 7, 3) := by decide +kernel
theorem dX7_drawn_139 : decode cX7_drawn 139 = .ok (.iconst 1, 1) := by decide +kernel
theorem dX7_drawn_140 : decode cX7_drawn 140 = .ok (.goto 4, 3) := by decide +kernel
theorem dX7_drawn_143 : decode cX7_drawn 143 = .ok (.iconst 0, 1) := by decide +kernel
theorem dX7_drawn_144 : decode cX7_drawn 144 = .ok (.iadd, 1) := by decide +kernel
theorem dX7_drawn_145 : decode cX7_drawn 145 = .ok (.istore 7, 2) := by decide +kernel
theorem dX7_drawn_147 : decode cX7_drawn 147 = .ok (.iinc 8 1, 3) := by decide +kernel
theorem dX7_drawn_150 : decode cX7_drawn 150 = .ok (.goto (-95), 3) := by decide +kernel
theorem dX7_drawn_153 : decode cX7_drawn 153 = .ok (.iload_n 3, 1) := by decide +kernel
theorem dX7_drawn_154 : decode cX7_drawn 154 = .ok (.ifCond .ne 8, 3) := by decide +kernel
theorem dX7_drawn_157 : decode cX7_drawn 157 = .ok (.iload 6, 2) := by decide +kernel
theorem dX7_drawn_159 : decode cX7_drawn 159 = .ok (.goto 5, 3) := by decide +kernel
theorem dX7_drawn_162 : decode cX7_drawn 162 = .ok (.iload 7, 2) := by decide +kernel
theorem dX7_drawn_164 : decode cX7_drawn 164 = .ok (.ireturn, 1) := by decide +kernel
theorem dX7_image_0 : decode cX7_image 0 = .ok (.iload_n 1, 1) := by decide +kernel
theorem dX7_image_1 : decode cX7_image 1 = .ok (.iconst 0, 1) := by decide +kernel
theorem dX7_image_2 : decode cX7_image 2 = .ok (.iconst 1, 1) := by decide +kernel
theorem dX7_image_3 : decode cX7_image 3 = .ok (.invokestatic 62, 3) := by decide +kernel
theorem dX7_image_6 : decode cX7_image 6 = .ok (.ifCond .ne 6, 3) := by decide +kernel
theorem dX7_image_9 : decode cX7_image 9 = .ok (.ldc 70, 2) := by decide +kernel
theorem dX7_image_11 : decode cX7_image 11 = .ok (.ireturn, 1) := by decide +kernel
theorem dX7_image_12 : decode cX7_image 12 = .ok (.aload_n 0, 1) := by decide +kernel
theorem dX7_image_13 : decode cX7_image 13 = .ok (.invokevirtual 251, 3) := by decide +kernel
theorem dX7_image_16 : decode cX7_image 16 = .ok (.ifCond .ne 6, 3) := by decide +kernel
theorem dX7_image_19 : decode cX7_image 19 = .ok (.ldc 238, 2) := by decide +kernel
theorem dX7_image_21 : decode cX7_image 21 = .ok (.ireturn, 1) := by decide +kernel
theorem dX7_image_22 : decode cX7_image 22 = .ok (.aload_n 0, 1) := by decide +kernel
theorem dX7_image_23 : decode cX7_image 23 = .ok (.getfield 25, 3) := by decide +kernel
theorem dX7_image_26 : decode cX7_image 26 = .ok (.iconst 0, 1) := by decide +kernel
theorem dX7_image_27 : decode cX7_image 27 = .ok (.aload_n 0, 1) := by decide +kernel
theorem dX7_image_28 : decode cX7_image 28 = .ok (.getfield 37, 3) := by decide +kernel
theorem dX7_image_31 : decode cX7_image 31 = .ok (.bipush 92, 2) := by decide +kernel
theorem dX7_image_33 : decode cX7_image 33 = .ok (.iload_n 1, 1) := by decide +kernel
theorem dX7_image_34 : decode cX7_image 34 = .ok (.imul, 1) := by decide +kernel
theorem dX7_image_35 : decode cX7_image 35 = .ok (.invokestatic 151, 3) := by decide +kernel
theorem dX7_image_38 : decode cX7_image 38 = .ok (.aload_n 0, 1) := by decide +kernel
theorem dX7_image_39 : decode cX7_image 39 = .ok (.getfield 40, 3) := by decide +kernel
theorem dX7_image_42 : decode cX7_image 42 = .ok (.iload_n 1, 1) := by decide +kernel
theorem dX7_image_43 : decode cX7_image 43 = .ok (.iconst 1, 1) := by decide +kernel
theorem dX7_image_44 : decode cX7_image 44 = .ok (.bastore, 1) := by decide +kernel
theorem dX7_image_45 : decode cX7_image 45 = .ok (.iconst 1, 1) := by decide +kernel
theorem dX7_image_46 : decode cX7_image 46 = .ok (.ireturn, 1) := by decide +kernel
theorem dX7_restore_0 : decode cX7_restore 0 = .ok (.iload_n 1, 1) := by decide +kernel
theorem dX7_restore_1 : decode cX7_restore 1 = .ok (.iconst 0, 1) := by decide +kernel
theorem dX7_restore_2 : decode cX7_restore 2 = .ok (.iconst 1, 1) := by decide +kernel
theorem dX7_restore_3 : decode cX7_restore 3 = .ok (.invokestatic 62, 3) := by decide +kernel
theorem dX7_restore_6 : decode cX7_restore 6 = .ok (.ifCond .ne 6, 3) := by decide +kernel
theorem dX7_restore_9 : decode cX7_restore 9 = .ok (.ldc 70, 2) := by decide +kernel
theorem dX7_restore_11 : decode cX7_restore 11 = .ok (.ireturn, 1) := by decide +kernel
theorem dX7_restore_12 : decode cX7_restore 12 = .ok (.aload_n 0, 1) := by decide +kernel
theorem dX7_restore_13 : decode cX7_restore 13 = .ok (.getfield 40, 3) := by decide +kernel
theorem dX7_restore_16 : decode cX7_restore 16 = .ok (.iload_n 1, 1) := by decide +kernel
theorem dX7_restore_17 : decode cX7_restore 17 = .ok (.baload, 1) := by decide +kernel
theorem dX7_restore_18 : decode cX7_restore 18 = .ok (.ifCond .ne 6, 3) := by decide +kernel
theorem dX7_restore_21 : decode cX7_restore 21 = .ok (.ldc 238, 2) := by decide +kernel
theorem dX7_restore_23 : decode cX7_restore 23 = .ok (.ireturn, 1) := by decide +kernel
theorem dX7_restore_24 : decode cX7_restore 24 = .ok (.aload_n 0, 1) := by decide +kernel
theorem dX7_restore_25 : decode cX7_restore 25 = .ok (.getfield 37, 3) := by decide +kernel
theorem dX7_restore_28 : decode cX7_restore 28 = .ok (.bipush 92, 2) := by decide +kernel
theorem dX7_restore_30 : decode cX7_restore 30 = .ok (.iload_n 1, 1) := by decide +kernel
theorem dX7_restore_31 : decode cX7_restore 31 = .ok (.imul, 1) := by decide +kernel
theorem dX7_restore_32 : decode cX7_restore 32 = .ok (.aload_n 0, 1) := by decide +kernel
theorem dX7_restore_33 : decode cX7_restore 33 = .ok (.getfield 25, 3) := by decide +kernel
theorem dX7_restore_36 : decode cX7_restore 36 = .ok (.iconst 0, 1) := by decide +kernel
theorem dX7_restore_37 : decode cX7_restore 37 = .ok (.invokestatic 151, 3) := by decide +kernel
theorem dX7_restore_40 : decode cX7_restore 40 = .ok (.aload_n 0, 1) := by decide +kernel
theorem dX7_restore_41 : decode cX7_restore 41 = .ok (.iconst 0, 1) := by decide +kernel
theorem dX7_restore_42 : decode cX7_restore 42 = .ok (.putfield 155, 3) := by decide +kernel
theorem dX7_restore_45 : decode cX7_restore 45 = .ok (.iconst 1, 1) := by decide +kernel
theorem dX7_restore_46 : decode cX7_restore 46 = .ok (.ireturn, 1) := by decide +kernel
theorem dX7_kindIn_0 : decode cX7_kindIn 0 = .ok (.aload_n 0, 1) := by decide +kernel
theorem dX7_kindIn_1 : decode cX7_kindIn 1 = .ok (.getfield 25, 3) := by decide +kernel
theorem dX7_kindIn_4 : decode cX7_kindIn 4 = .ok (.bipush 62, 2) := by decide +kernel
theorem dX7_kindIn_6 : decode cX7_kindIn 6 = .ok (.bipush 6, 2) := by decide +kernel
theorem dX7_kindIn_8 : decode cX7_kindIn 8 = .ok (.iload_n 1, 1) := by decide +kernel
theorem dX7_kindIn_9 : decode cX7_kindIn 9 = .ok (.imul, 1) := by decide +kernel
theorem dX7_kindIn_10 : decode cX7_kindIn 10 = .ok (.iadd, 1) := by decide +kernel
theorem dX7_kindIn_11 : decode cX7_kindIn 11 = .ok (.iaload, 1) := by decide +kernel
theorem dX7_kindIn_12 : decode cX7_kindIn 12 = .ok (.ireturn, 1) := by decide +kernel
theorem dX7_aboutOf_0 : decode cX7_aboutOf 0 = .ok (.iconst 0, 1) := by decide +kernel
theorem dX7_aboutOf_1 : decode cX7_aboutOf 1 = .ok (.istore_n 2, 1) := by decide +kernel
theorem dX7_aboutOf_2 : decode cX7_aboutOf 2 = .ok (.iconst 0, 1) := by decide +kernel
theorem dX7_aboutOf_3 : decode cX7_aboutOf 3 = .ok (.istore_n 3, 1) := by decide +kernel
theorem dX7_aboutOf_4 : decode cX7_aboutOf 4 = .ok (.iload_n 3, 1) := by decide +kernel
theorem dX7_aboutOf_5 : decode cX7_aboutOf 5 = .ok (.aload_n 0, 1) := by decide +kernel
theorem dX7_aboutOf_6 : decode cX7_aboutOf 6 = .ok (.getfield 25, 3) := by decide +kernel
theorem dX7_aboutOf_9 : decode cX7_aboutOf 9 = .ok (.iconst 0, 1) := by decide +kernel
theorem dX7_aboutOf_10 : decode cX7_aboutOf 10 = .ok (.iaload, 1) := by decide +kernel
theorem dX7_aboutOf_11 : decode cX7_aboutOf 11 = .ok (.if_icmp .ge 29, 3) := by decide +kernel
theorem dX7_aboutOf_14 : decode cX7_aboutOf 14 = .ok (.iload_n 2, 1) := by decide +kernel
theorem dX7_aboutOf_15 : decode cX7_aboutOf 15 = .ok (.aload_n 0, 1) := by decide +kernel
theorem dX7_aboutOf_16 : decode cX7_aboutOf 16 = .ok (.getfield 25, 3) := by decide +kernel
theorem dX7_aboutOf_19 : decode cX7_aboutOf 19 = .ok (.iload_n 3, 1) := by decide +kernel
theorem dX7_aboutOf_20 : decode cX7_aboutOf 20 = .ok (.iload_n 1, 1) := by decide +kernel
theorem dX7_aboutOf_21 : decode cX7_aboutOf 21 = .ok (.invokestatic 196, 3) := by decide +kernel
theorem dX7_aboutOf_24 : decode cX7_aboutOf 24 = .ok (.ifCond .le 7, 3) := by decide +kernel
theorem dX7_aboutOf_27 : decode cX7_aboutOf 27 = .ok (.iconst 1, 1) := by decide +kernel
theorem dX7_aboutOf_28 : decode cX7_aboutOf 28 = .ok (.goto 4, 3) := by decide +kernel
theorem dX7_aboutOf_31 : decode cX7_aboutOf 31 = .ok (.iconst 0, 1) := by decide +kernel
theorem dX7_aboutOf_32 : decode cX7_aboutOf 32 = .ok (.iadd, 1) := by decide +kernel
theorem dX7_aboutOf_33 : decode cX7_aboutOf 33 = .ok (.istore_n 2, 1) := by decide +kernel
theorem dX7_aboutOf_34 : decode cX7_aboutOf 34 = .ok (.iinc 3 1, 3) := by decide +kernel
theorem dX7_aboutOf_37 : decode cX7_aboutOf 37 = .ok (.goto (-33), 3) := by decide +kernel
theorem dX7_aboutOf_40 : decode cX7_aboutOf 40 = .ok (.iload_n 2, 1) := by decide +kernel
theorem dX7_aboutOf_41 : decode cX7_aboutOf 41 = .ok (.ireturn, 1) := by decide +kernel
theorem dX7_kind_0 : decode cX7_kind 0 = .ok (.aload_n 0, 1) := by decide +kernel
theorem dX7_kind_1 : decode cX7_kind 1 = .ok (.iload_n 1, 1) := by decide +kernel
theorem dX7_kind_2 : decode cX7_kind 2 = .ok (.invokevirtual 232, 3) := by decide +kernel
theorem dX7_kind_5 : decode cX7_kind 5 = .ok (.ifCond .eq 11, 3) := by decide +kernel
theorem dX7_kind_8 : decode cX7_kind 8 = .ok (.aload_n 0, 1) := by decide +kernel
theorem dX7_kind_9 : decode cX7_kind 9 = .ok (.iload_n 1, 1) := by decide +kernel
theorem dX7_kind_10 : decode cX7_kind 10 = .ok (.invokevirtual 263, 3) := by decide +kernel
theorem dX7_kind_13 : decode cX7_kind 13 = .ok (.goto 5, 3) := by decide +kernel
theorem dX7_kind_16 : decode cX7_kind 16 = .ok (.ldc 70, 2) := by decide +kernel
theorem dX7_kind_18 : decode cX7_kind 18 = .ok (.ireturn, 1) := by decide +kernel
theorem dX7_as_0 : decode cX7_as 0 = .ok (.aload_n 0, 1) := by decide +kernel
theorem dX7_as_1 : decode cX7_as 1 = .ok (.iload_n 1, 1) := by decide +kernel
theorem dX7_as_2 : decode cX7_as 2 = .ok (.invokevirtual 232, 3) := by decide +kernel
theorem dX7_as_5 : decode cX7_as 5 = .ok (.ifCond .eq 12, 3) := by decide +kernel
theorem dX7_as_8 : decode cX7_as 8 = .ok (.iload_n 2, 1) := by decide +kernel
theorem dX7_as_9 : decode cX7_as 9 = .ok (.iconst 0, 1) := by decide +kernel
theorem dX7_as_10 : decode cX7_as 10 = .ok (.iconst 5, 1) := by decide +kernel
theorem dX7_as_11 : decode cX7_as 11 = .ok (.invokestatic 62, 3) := by decide +kernel
theorem dX7_as_14 : decode cX7_as 14 = .ok (.ifCond .ne 6, 3) := by decide +kernel
theorem dX7_as_17 : decode cX7_as 17 = .ok (.ldc 70, 2) := by decide +kernel
theorem dX7_as_19 : decode cX7_as 19 = .ok (.ireturn, 1) := by decide +kernel
theorem dX7_as_20 : decode cX7_as 20 = .ok (.aload_n 0, 1) := by decide +kernel
theorem dX7_as_21 : decode cX7_as 21 = .ok (.iload_n 1, 1) := by decide +kernel
theorem dX7_as_22 : decode cX7_as 22 = .ok (.invokevirtual 263, 3) := by decide +kernel
theorem dX7_as_25 : decode cX7_as 25 = .ok (.istore_n 3, 1) := by decide +kernel
theorem dX7_as_26 : decode cX7_as 26 = .ok (.iload_n 2, 1) := by decide +kernel
theorem dX7_as_27 : decode cX7_as 27 = .ok (.ifCond .eq 28, 3) := by decide +kernel
theorem dX7_as_30 : decode cX7_as 30 = .ok (.iload_n 2, 1) := by decide +kernel
theorem dX7_as_31 : decode cX7_as 31 = .ok (.iload_n 3, 1) := by decide +kernel
theorem dX7_as_32 : decode cX7_as 32 = .ok (.if_icmp .eq 23, 3) := by decide +kernel
theorem dX7_as_35 : decode cX7_as 35 = .ok (.iload_n 2, 1) := by decide +kernel
theorem dX7_as_36 : decode cX7_as 36 = .ok (.iconst 1, 1) := by decide +kernel
theorem dX7_as_37 : decode cX7_as 37 = .ok (.if_icmp .ne 8, 3) := by decide +kernel
theorem dX7_as_40 : decode cX7_as 40 = .ok (.iload_n 3, 1) := by decide +kernel
theorem dX7_as_41 : decode cX7_as 41 = .ok (.iconst 4, 1) := by decide +kernel
theorem dX7_as_42 : decode cX7_as 42 = .ok (.if_icmp .lt 13, 3) := by decide +kernel
theorem dX7_as_45 : decode cX7_as 45 = .ok (.iload_n 2, 1) := by decide +kernel
theorem dX7_as_46 : decode cX7_as 46 = .ok (.iconst 4, 1) := by decide +kernel
theorem dX7_as_47 : decode cX7_as 47 = .ok (.if_icmp .ne 12, 3) := by decide +kernel
theorem dX7_as_50 : decode cX7_as 50 = .ok (.iload_n 3, 1) := by decide +kernel
theorem dX7_as_51 : decode cX7_as 51 = .ok (.iconst 5, 1) := by decide +kernel
theorem dX7_as_52 : decode cX7_as 52 = .ok (.if_icmp .ne 7, 3) := by decide +kernel
theorem dX7_as_55 : decode cX7_as 55 = .ok (.iconst 1, 1) := by decide +kernel
theorem dX7_as_56 : decode cX7_as 56 = .ok (.goto 4, 3) := by decide +kernel
theorem dX7_as_59 : decode cX7_as 59 = .ok (.iconst 0, 1) := by decide +kernel
theorem dX7_as_60 : decode cX7_as 60 = .ok (.istore 4, 2) := by decide +kernel
theorem dX7_as_62 : decode cX7_as 62 = .ok (.iload 4, 2) := by decide +kernel
theorem dX7_as_64 : decode cX7_as 64 = .ok (.ifCond .eq 11, 3) := by decide +kernel
theorem dX7_as_67 : decode cX7_as 67 = .ok (.aload_n 0, 1) := by decide +kernel
theorem dX7_as_68 : decode cX7_as 68 = .ok (.iload_n 1, 1) := by decide +kernel
theorem dX7_as_69 : decode cX7_as 69 = .ok (.invokevirtual 75, 3) := by decide +kernel
theorem dX7_as_72 : decode cX7_as 72 = .ok (.goto 8, 3) := by decide +kernel
theorem dX7_as_75 : decode cX7_as 75 = .ok (.aload_n 0, 1) := by decide +kernel
theorem dX7_as_76 : decode cX7_as 76 = .ok (.iconst 3, 1) := by decide +kernel
theorem dX7_as_77 : decode cX7_as 77 = .ok (.invokevirtual 71, 3) := by decide +kernel
theorem dX7_as_80 : decode cX7_as 80 = .ok (.ireturn, 1) := by decide +kernel
theorem dX7_begins_0 : decode cX7_begins 0 = .ok (.aload_n 0, 1) := by decide +kernel
theorem dX7_begins_1 : decode cX7_begins 1 = .ok (.getfield 266, 3) := by decide +kernel
theorem dX7_begins_4 : decode cX7_begins 4 = .ok (.bipush 16, 2) := by decide +kernel
theorem dX7_begins_6 : decode cX7_begins 6 = .ok (.if_icmp .ge 23, 3) := by decide +kernel
theorem dX7_begins_9 : decode cX7_begins 9 = .ok (.aload_n 0, 1) := by decide +kernel
theorem dX7_begins_10 : decode cX7_begins 10 = .ok (.getfield 53, 3) := by decide +kernel
theorem dX7_begins_13 : decode cX7_begins 13 = .ok (.aload_n 0, 1) := by decide +kernel
theorem dX7_begins_14 : decode cX7_begins 14 = .ok (.getfield 266, 3) := by decide +kernel
theorem dX7_begins_17 : decode cX7_begins 17 = .ok (.iload_n 1, 1) := by decide +kernel
theorem dX7_begins_18 : decode cX7_begins 18 = .ok (.iastore, 1) := by decide +kernel
theorem dX7_begins_19 : decode cX7_begins 19 = .ok (.aload_n 0, 1) := by decide +kernel
theorem dX7_begins_20 : decode cX7_begins 20 = .ok (.dup, 1) := by decide +kernel
theorem dX7_begins_21 : decode cX7_begins 21 = .ok (.getfield 266, 3) := by decide +kernel
theorem dX7_begins_24 : decode cX7_begins 24 = .ok (.iconst 1, 1) := by decide +kernel
theorem dX7_begins_25 : decode cX7_begins 25 = .ok (.iadd, 1) := by decide +kernel
theorem dX7_begins_26 : decode cX7_begins 26 = .ok (.putfield 266, 3) := by decide +kernel
theorem dX7_begins_29 : decode cX7_begins 29 = .ok (.return_, 1) := by decide +kernel
theorem dX7_afterMark_0 : decode cX7_afterMark 0 = .ok (.aload_n 0, 1) := by decide +kernel
theorem dX7_afterMark_1 : decode cX7_afterMark 1 = .ok (.iload_n 1, 1) := by decide +kernel
theorem dX7_afterMark_2 : decode cX7_afterMark 2 = .ok (.invokevirtual 263, 3) := by decide +kernel
theorem dX7_afterMark_5 : decode cX7_afterMark 5 = .ok (.istore_n 2, 1) := by decide +kernel
theorem dX7_afterMark_6 : decode cX7_afterMark 6 = .ok (.iload_n 2, 1) := by decide +kernel
theorem dX7_afterMark_7 : decode cX7_afterMark 7 = .ok (.iconst 1, 1) := by decide +kernel
theorem dX7_afterMark_8 : decode cX7_afterMark 8 = .ok (.if_icmp .eq 19, 3) := by decide +kernel
theorem dX7_afterMark_11 : decode cX7_afterMark 11 = .ok (.aload_n 0, 1) := by decide +kernel
theorem dX7_afterMark_12 : decode cX7_afterMark 12 = .ok (.iload_n 2, 1) := by decide +kernel
theorem dX7_afterMark_13 : decode cX7_afterMark 13 = .ok (.iconst 2, 1) := by decide +kernel
theorem dX7_afterMark_14 : decode cX7_afterMark 14 = .ok (.if_icmp .ne 8, 3) := by decide +kernel
theorem dX7_afterMark_17 : decode cX7_afterMark 17 = .ok (.bipush 24, 2) := by decide +kernel
theorem dX7_afterMark_19 : decode cX7_afterMark 19 = .ok (.goto 5, 3) := by decide +kernel
theorem dX7_afterMark_22 : decode cX7_afterMark 22 = .ok (.bipush 22, 2) := by decide +kernel
theorem dX7_afterMark_24 : decode cX7_afterMark 24 = .ok (.invokevirtual 269, 3) := by decide +kernel
theorem dX7_afterMark_27 : decode cX7_afterMark 27 = .ok (.aload_n 0, 1) := by decide +kernel
theorem dX7_afterMark_28 : decode cX7_afterMark 28 = .ok (.bipush 21, 2) := by decide +kernel
theorem dX7_afterMark_30 : decode cX7_afterMark 30 = .ok (.invokevirtual 269, 3) := by decide +kernel
theorem dX7_afterMark_33 : decode cX7_afterMark 33 = .ok (.aload_n 0, 1) := by decide +kernel
theorem dX7_afterMark_34 : decode cX7_afterMark 34 = .ok (.bipush 20, 2) := by decide +kernel
theorem dX7_afterMark_36 : decode cX7_afterMark 36 = .ok (.invokevirtual 269, 3) := by decide +kernel
theorem dX7_afterMark_39 : decode cX7_afterMark 39 = .ok (.iload_n 1, 1) := by decide +kernel
theorem dX7_afterMark_40 : decode cX7_afterMark 40 = .ok (.aload_n 0, 1) := by decide +kernel
theorem dX7_afterMark_41 : decode cX7_afterMark 41 = .ok (.iload_n 1, 1) := by decide +kernel
theorem dX7_afterMark_42 : decode cX7_afterMark 42 = .ok (.invokevirtual 272, 3) := by decide +kernel
theorem dX7_afterMark_45 : decode cX7_afterMark 45 = .ok (.iadd, 1) := by decide +kernel
theorem dX7_afterMark_46 : decode cX7_afterMark 46 = .ok (.istore_n 3, 1) := by decide +kernel
theorem dX7_afterMark_47 : decode cX7_afterMark 47 = .ok (.iload_n 2, 1) := by decide +kernel
theorem dX7_afterMark_48 : decode cX7_afterMark 48 = .ok (.iconst 2, 1) := by decide +kernel
theorem dX7_afterMark_49 : decode cX7_afterMark 49 = .ok (.if_icmp .ne 9, 3) := by decide +kernel
theorem dX7_afterMark_52 : decode cX7_afterMark 52 = .ok (.iconst 2, 1) := by decide +kernel
theorem dX7_afterMark_53 : decode cX7_afterMark 53 = .ok (.iload_n 3, 1) := by decide +kernel
theorem dX7_afterMark_54 : decode cX7_afterMark 54 = .ok (.imul, 1) := by decide +kernel
theorem dX7_afterMark_55 : decode cX7_afterMark 55 = .ok (.goto 17, 3) := by decide +kernel
theorem dX7_afterMark_58 : decode cX7_afterMark 58 = .ok (.iload_n 2, 1) := by decide +kernel
theorem dX7_afterMark_59 : decode cX7_afterMark 59 = .ok (.iconst 3, 1) := by decide +kernel
theorem dX7_afterMark_60 : decode cX7_afterMark 60 = .ok (.if_icmp .ne 11, 3) := by decide +kernel
theorem dX7_afterMark_63 : decode cX7_afterMark 63 = .ok (.iload_n 3, 1) := by decide +kernel
theorem dX7_afterMark_64 : decode cX7_afterMark 64 = .ok (.sipush 1000, 3) := by decide +kernel
theorem dX7_afterMark_67 : decode cX7_afterMark 67 = .ok (.isub, 1) := by decide +kernel
theorem dX7_afterMark_68 : decode cX7_afterMark 68 = .ok (.goto 4, 3) := by decide +kernel
theorem dX7_afterMark_71 : decode cX7_afterMark 71 = .ok (.iload_n 3, 1) := by decide +kernel
theorem dX7_afterMark_72 : decode cX7_afterMark 72 = .ok (.ireturn, 1) := by decide +kernel
theorem dX7_aroundSize_0 : decode cX7_aroundSize 0 = .ok (.aload_n 0, 1) := by decide +kernel
theorem dX7_aroundSize_1 : decode cX7_aroundSize 1 = .ok (.iload_n 1, 1) := by decide +kernel
theorem dX7_aroundSize_2 : decode cX7_aroundSize 2 = .ok (.invokevirtual 263, 3) := by decide +kernel
theorem dX7_aroundSize_5 : decode cX7_aroundSize 5 = .ok (.iconst 5, 1) := by decide +kernel
theorem dX7_aroundSize_6 : decode cX7_aroundSize 6 = .ok (.if_icmp .ne 7, 3) := by decide +kernel
theorem dX7_aroundSize_9 : decode cX7_aroundSize 9 = .ok (.iconst 1, 1) := by decide +kernel
theorem dX7_aroundSize_10 : decode cX7_aroundSize 10 = .ok (.goto 4, 3) := by decide +kernel
theorem dX7_aroundSize_13 : decode cX7_aroundSize 13 = .ok (.iconst 0, 1) := by decide +kernel
theorem dX7_aroundSize_14 : decode cX7_aroundSize 14 = .ok (.istore_n 2, 1) := by decide +kernel
theorem dX7_aroundSize_15 : decode cX7_aroundSize 15 = .ok (.iload_n 2, 1) := by decide +kernel
theorem dX7_aroundSize_16 : decode cX7_aroundSize 16 = .ok (.ifCond .eq 9, 3) := by decide +kernel
theorem dX7_aroundSize_19 : decode cX7_aroundSize 19 = .ok (.aload_n 0, 1) := by decide +kernel
theorem dX7_aroundSize_20 : decode cX7_aroundSize 20 = .ok (.bipush 14, 2) := by decide +kernel
theorem dX7_aroundSize_22 : decode cX7_aroundSize 22 = .ok (.invokevirtual 269, 3) := by decide +kernel
theorem dX7_aroundSize_25 : decode cX7_aroundSize 25 = .ok (.aload_n 0, 1) := by decide +kernel
theorem dX7_aroundSize_26 : decode cX7_aroundSize 26 = .ok (.bipush 13, 2) := by decide +kernel
theorem dX7_aroundSize_28 : decode cX7_aroundSize 28 = .ok (.invokevirtual 269, 3) := by decide +kernel
theorem dX7_aroundSize_31 : decode cX7_aroundSize 31 = .ok (.aload_n 0, 1) := by decide +kernel
theorem dX7_aroundSize_32 : decode cX7_aroundSize 32 = .ok (.bipush 10, 2) := by decide +kernel
theorem dX7_aroundSize_34 : decode cX7_aroundSize 34 = .ok (.invokevirtual 269, 3) := by decide +kernel
theorem dX7_aroundSize_37 : decode cX7_aroundSize 37 = .ok (.aload_n 0, 1) := by decide +kernel
theorem dX7_aroundSize_38 : decode cX7_aroundSize 38 = .ok (.getfield 25, 3) := by decide +kernel
theorem dX7_aroundSize_41 : decode cX7_aroundSize 41 = .ok (.bipush 62, 2) := by decide +kernel
theorem dX7_aroundSize_43 : decode cX7_aroundSize 43 = .ok (.bipush 6, 2) := by decide +kernel
theorem dX7_aroundSize_45 : decode cX7_aroundSize 45 = .ok (.iload_n 1, 1) := by decide +kernel
theorem dX7_aroundSize_46 : decode cX7_aroundSize 46 = .ok (.imul, 1) := by decide +kernel
theorem dX7_aroundSize_47 : decode cX7_aroundSize 47 = .ok (.iadd, 1) := by decide +kernel
theorem dX7_aroundSize_48 : decode cX7_aroundSize 48 = .ok (.iconst 1, 1) := by decide +kernel
theorem dX7_aroundSize_49 : decode cX7_aroundSize 49 = .ok (.iadd, 1) := by decide +kernel
theorem dX7_aroundSize_50 : decode cX7_aroundSize 50 = .ok (.iaload, 1) := by decide +kernel
theorem dX7_aroundSize_51 : decode cX7_aroundSize 51 = .ok (.bipush 100, 2) := by decide +kernel
theorem dX7_aroundSize_53 : decode cX7_aroundSize 53 = .ok (.isub, 1) := by decide +kernel
theorem dX7_aroundSize_54 : decode cX7_aroundSize 54 = .ok (.istore_n 3, 1) := by decide +kernel
theorem dX7_aroundSize_55 : decode cX7_aroundSize 55 = .ok (.iload_n 2, 1) := by decide +kernel
theorem dX7_aroundSize_56 : decode cX7_aroundSize 56 = .ok (.ifCond .eq 9, 3) := by decide +kernel
theorem dX7_aroundSize_59 : decode cX7_aroundSize 59 = .ok (.iconst 2, 1) := by decide +kernel
theorem dX7_aroundSize_60 : decode cX7_aroundSize 60 = .ok (.iload_n 3, 1) := by decide +kernel
theorem dX7_aroundSize_61 : decode cX7_aroundSize 61 = .ok (.imul, 1) := by decide +kernel
theorem dX7_aroundSize_62 : decode cX7_aroundSize 62 = .ok (.goto 4, 3) := by decide +kernel
theorem dX7_aroundSize_65 : decode cX7_aroundSize 65 = .ok (.iload_n 3, 1) := by decide +kernel
theorem dX7_aroundSize_66 : decode cX7_aroundSize 66 = .ok (.ireturn, 1) := by decide +kernel
theorem dX7_afterSize_0 : decode cX7_afterSize 0 = .ok (.aload_n 0, 1) := by decide +kernel
theorem dX7_afterSize_1 : decode cX7_afterSize 1 = .ok (.iload_n 1, 1) := by decide +kernel
theorem dX7_afterSize_2 : decode cX7_afterSize 2 = .ok (.invokevirtual 263, 3) := by decide +kernel
theorem dX7_afterSize_5 : decode cX7_afterSize 5 = .ok (.iconst 2, 1) := by decide +kernel
theorem dX7_afterSize_6 : decode cX7_afterSize 6 = .ok (.if_icmp .ne 7, 3) := by decide +kernel
theorem dX7_afterSize_9 : decode cX7_afterSize 9 = .ok (.iconst 1, 1) := by decide +kernel
theorem dX7_afterSize_10 : decode cX7_afterSize 10 = .ok (.goto 4, 3) := by decide +kernel
theorem dX7_afterSize_13 : decode cX7_afterSize 13 = .ok (.iconst 0, 1) := by decide +kernel
theorem dX7_afterSize_14 : decode cX7_afterSize 14 = .ok (.istore_n 2, 1) := by decide +kernel
theorem dX7_afterSize_15 : decode cX7_afterSize 15 = .ok (.iload_n 2, 1) := by decide +kernel
theorem dX7_afterSize_16 : decode cX7_afterSize 16 = .ok (.ifCond .eq 9, 3) := by decide +kernel
theorem dX7_afterSize_19 : decode cX7_afterSize 19 = .ok (.aload_n 0, 1) := by decide +kernel
theorem dX7_afterSize_20 : decode cX7_afterSize 20 = .ok (.bipush 12, 2) := by decide +kernel
theorem dX7_afterSize_22 : decode cX7_afterSize 22 = .ok (.invokevirtual 269, 3) := by decide +kernel
theorem dX7_afterSize_25 : decode cX7_afterSize 25 = .ok (.aload_n 0, 1) := by decide +kernel
theorem dX7_afterSize_26 : decode cX7_afterSize 26 = .ok (.bipush 11, 2) := by decide +kernel
theorem dX7_afterSize_28 : decode cX7_afterSize 28 = .ok (.invokevirtual 269, 3) := by decide +kernel
theorem dX7_afterSize_31 : decode cX7_afterSize 31 = .ok (.aload_n 0, 1) := by decide +kernel
theorem dX7_afterSize_32 : decode cX7_afterSize 32 = .ok (.bipush 10, 2) := by decide +kernel
theorem dX7_afterSize_34 : decode cX7_afterSize 34 = .ok (.invokevirtual 269, 3) := by decide +kernel
theorem dX7_afterSize_37 : decode cX7_afterSize 37 = .ok (.aload_n 0, 1) := by decide +kernel
theorem dX7_afterSize_38 : decode cX7_afterSize 38 = .ok (.getfield 25, 3) := by decide +kernel
theorem dX7_afterSize_41 : decode cX7_afterSize 41 = .ok (.bipush 62, 2) := by decide +kernel
theorem dX7_afterSize_43 : decode cX7_afterSize 43 = .ok (.bipush 6, 2) := by decide +kernel
theorem dX7_afterSize_45 : decode cX7_afterSize 45 = .ok (.iload_n 1, 1) := by decide +kernel
theorem dX7_afterSize_46 : decode cX7_afterSize 46 = .ok (.imul, 1) := by decide +kernel
theorem dX7_afterSize_47 : decode cX7_afterSize 47 = .ok (.iadd, 1) := by decide +kernel
theorem dX7_afterSize_48 : decode cX7_afterSize 48 = .ok (.iconst 1, 1) := by decide +kernel
theorem dX7_afterSize_49 : decode cX7_afterSize 49 = .ok (.iadd, 1) := by decide +kernel
theorem dX7_afterSize_50 : decode cX7_afterSize 50 = .ok (.iaload, 1) := by decide +kernel
theorem dX7_afterSize_51 : decode cX7_afterSize 51 = .ok (.aload_n 0, 1) := by decide +kernel
theorem dX7_afterSize_52 : decode cX7_afterSize 52 = .ok (.iload_n 1, 1) := by decide +kernel
theorem dX7_afterSize_53 : decode cX7_afterSize 53 = .ok (.invokevirtual 275, 3) := by decide +kernel
theorem dX7_afterSize_56 : decode cX7_afterSize 56 = .ok (.iadd, 1) := by decide +kernel
theorem dX7_afterSize_57 : decode cX7_afterSize 57 = .ok (.istore_n 3, 1) := by decide +kernel
theorem dX7_afterSize_58 : decode cX7_afterSize 58 = .ok (.iload_n 2, 1) := by decide +kernel
theorem dX7_afterSize_59 : decode cX7_afterSize 59 = .ok (.ifCond .eq 8, 3) := by decide +kernel
theorem dX7_afterSize_62 : decode cX7_afterSize 62 = .ok (.iload_n 3, 1) := by decide +kernel
theorem dX7_afterSize_63 : decode cX7_afterSize 63 = .ok (.ineg, 1) := by decide +kernel
theorem dX7_afterSize_64 : decode cX7_afterSize 64 = .ok (.goto 4, 3) := by decide +kernel
theorem dX7_afterSize_67 : decode cX7_afterSize 67 = .ok (.iload_n 3, 1) := by decide +kernel
theorem dX7_afterSize_68 : decode cX7_afterSize 68 = .ok (.ireturn, 1) := by decide +kernel
theorem dX7_aroundMark_0 : decode cX7_aroundMark 0 = .ok (.aload_n 0, 1) := by decide +kernel
theorem dX7_aroundMark_1 : decode cX7_aroundMark 1 = .ok (.bipush 23, 2) := by decide +kernel
theorem dX7_aroundMark_3 : decode cX7_aroundMark 3 = .ok (.invokevirtual 269, 3) := by decide +kernel
theorem dX7_aroundMark_6 : decode cX7_aroundMark 6 = .ok (.aload_n 0, 1) := by decide +kernel
theorem dX7_aroundMark_7 : decode cX7_aroundMark 7 = .ok (.bipush 20, 2) := by decide +kernel
theorem dX7_aroundMark_9 : decode cX7_aroundMark 9 = .ok (.invokevirtual 269, 3) := by decide +kernel
theorem dX7_aroundMark_12 : decode cX7_aroundMark 12 = .ok (.iload_n 1, 1) := by decide +kernel
theorem dX7_aroundMark_13 : decode cX7_aroundMark 13 = .ok (.aload_n 0, 1) := by decide +kernel
theorem dX7_aroundMark_14 : decode cX7_aroundMark 14 = .ok (.iload_n 1, 1) := by decide +kernel
theorem dX7_aroundMark_15 : decode cX7_aroundMark 15 = .ok (.invokevirtual 278, 3) := by decide +kernel
theorem dX7_aroundMark_18 : decode cX7_aroundMark 18 = .ok (.isub, 1) := by decide +kernel
theorem dX7_aroundMark_19 : decode cX7_aroundMark 19 = .ok (.ireturn, 1) := by decide +kernel
theorem dX7_ask_0 : decode cX7_ask 0 = .ok (.aload_n 0, 1) := by decide +kernel
theorem dX7_ask_1 : decode cX7_ask 1 = .ok (.iload_n 1, 1) := by decide +kernel
theorem dX7_ask_2 : decode cX7_ask 2 = .ok (.invokevirtual 232, 3) := by decide +kernel
theorem dX7_ask_5 : decode cX7_ask 5 = .ok (.ifCond .eq 12, 3) := by decide +kernel
theorem dX7_ask_8 : decode cX7_ask 8 = .ok (.iload_n 2, 1) := by decide +kernel
theorem dX7_ask_9 : decode cX7_ask 9 = .ok (.iconst 0, 1) := by decide +kernel
theorem dX7_ask_10 : decode cX7_ask 10 = .ok (.iconst 1, 1) := by decide +kernel
theorem dX7_ask_11 : decode cX7_ask 11 = .ok (.invokestatic 62, 3) := by decide +kernel
theorem dX7_ask_14 : decode cX7_ask 14 = .ok (.ifCond .ne 6, 3) := by decide +kernel
theorem dX7_ask_17 : decode cX7_ask 17 = .ok (.ldc 70, 2) := by decide +kernel
theorem dX7_ask_19 : decode cX7_ask 19 = .ok (.ireturn, 1) := by decide +kernel
theorem dX7_ask_20 : decode cX7_ask 20 = .ok (.aload_n 0, 1) := by decide +kernel
theorem dX7_ask_21 : decode cX7_ask 21 = .ok (.iconst 0, 1) := by decide +kernel
theorem dX7_ask_22 : decode cX7_ask 22 = .ok (.putfield 266, 3) := by decide +kernel
theorem dX7_ask_25 : decode cX7_ask 25 = .ok (.aload_n 0, 1) := by decide +kernel
theorem dX7_ask_26 : decode cX7_ask 26 = .ok (.iload_n 1, 1) := by decide +kernel
theorem dX7_ask_27 : decode cX7_ask 27 = .ok (.invokevirtual 263, 3) := by decide +kernel
theorem dX7_ask_30 : decode cX7_ask 30 = .ok (.iconst 4, 1) := by decide +kernel
theorem dX7_ask_31 : decode cX7_ask 31 = .ok (.if_icmp .lt 7, 3) := by decide +kernel
theorem dX7_ask_34 : decode cX7_ask 34 = .ok (.iconst 1, 1) := by decide +kernel
theorem dX7_ask_35 : decode cX7_ask 35 = .ok (.goto 4, 3) := by decide +kernel
theorem dX7_ask_38 : decode cX7_ask 38 = .ok (.iconst 0, 1) := by decide +kernel
theorem dX7_ask_39 : decode cX7_ask 39 = .ok (.istore_n 3, 1) := by decide +kernel
theorem dX7_ask_40 : decode cX7_ask 40 = .ok (.iload_n 2, 1) := by decide +kernel
theorem dX7_ask_41 : decode cX7_ask 41 = .ok (.ifCond .ne 21, 3) := by decide +kernel
theorem dX7_ask_44 : decode cX7_ask 44 = .ok (.iload_n 3, 1) := by decide +kernel
theorem dX7_ask_45 : decode cX7_ask 45 = .ok (.ifCond .eq 11, 3) := by decide +kernel
theorem dX7_ask_48 : decode cX7_ask 48 = .ok (.aload_n 0, 1) := by decide +kernel
theorem dX7_ask_49 : decode cX7_ask 49 = .ok (.iload_n 1, 1) := by decide +kernel
theorem dX7_ask_50 : decode cX7_ask 50 = .ok (.invokevirtual 278, 3) := by decide +kernel
theorem dX7_ask_53 : decode cX7_ask 53 = .ok (.goto 8, 3) := by decide +kernel
theorem dX7_ask_56 : decode cX7_ask 56 = .ok (.aload_n 0, 1) := by decide +kernel
theorem dX7_ask_57 : decode cX7_ask 57 = .ok (.iload_n 1, 1) := by decide +kernel
theorem dX7_ask_58 : decode cX7_ask 58 = .ok (.invokevirtual 281, 3) := by decide +kernel
theorem dX7_ask_61 : decode cX7_ask 61 = .ok (.ireturn, 1) := by decide +kernel
theorem dX7_ask_62 : decode cX7_ask 62 = .ok (.iload_n 3, 1) := by decide +kernel
theorem dX7_ask_63 : decode cX7_ask 63 = .ok (.ifCond .eq 11, 3) := by decide +kernel
theorem dX7_ask_66 : decode cX7_ask 66 = .ok (.aload_n 0, 1) := by decide +kernel
theorem dX7_ask_67 : decode cX7_ask 67 = .ok (.iload_n 1, 1) := by decide +kernel
theorem dX7_ask_68 : decode cX7_ask 68 = .ok (.invokevirtual 284, 3) := by decide +kernel
theorem dX7_ask_71 : decode cX7_ask 71 = .ok (.goto 8, 3) := by decide +kernel
theorem dX7_ask_74 : decode cX7_ask 74 = .ok (.aload_n 0, 1) := by decide +kernel
theorem dX7_ask_75 : decode cX7_ask 75 = .ok (.iload_n 1, 1) := by decide +kernel
theorem dX7_ask_76 : decode cX7_ask 76 = .ok (.invokevirtual 275, 3) := by decide +kernel
theorem dX7_ask_79 : decode cX7_ask 79 = .ok (.ireturn, 1) := by decide +kernel
theorem dX7_trace_0 : decode cX7_trace 0 = .ok (.iload_n 1, 1) := by decide +kernel
theorem dX7_trace_1 : decode cX7_trace 1 = .ok (.iconst 0, 1) := by decide +kernel
theorem dX7_trace_2 : decode cX7_trace 2 = .ok (.aload_n 0, 1) := by decide +kernel
theorem dX7_trace_3 : decode cX7_trace 3 = .ok (.getfield 266, 3) := by decide +kernel
theorem dX7_trace_6 : decode cX7_trace 6 = .ok (.iconst 1, 1) := by decide +kernel
theorem dX7_trace_7 : decode cX7_trace 7 = .ok (.isub, 1) := by decide +kernel
theorem dX7_trace_8 : decode cX7_trace 8 = .ok (.invokestatic 62, 3) := by decide +kernel
theorem dX7_trace_11 : decode cX7_trace 11 = .ok (.ifCond .eq 12, 3) := by decide +kernel
theorem dX7_trace_14 : decode cX7_trace 14 = .ok (.aload_n 0, 1) := by decide +kernel
theorem dX7_trace_15 : decode cX7_trace 15 = .ok (.getfield 53, 3) := by decide +kernel
theorem dX7_trace_18 : decode cX7_trace 18 = .ok (.iload_n 1, 1) := by decide +kernel
theorem dX7_trace_19 : decode cX7_trace 19 = .ok (.iaload, 1) := by decide +kernel
theorem dX7_trace_20 : decode cX7_trace 20 = .ok (.goto 5, 3) := by decide +kernel
theorem dX7_trace_23 : decode cX7_trace 23 = .ok (.ldc 56, 2) := by decide +kernel
theorem dX7_trace_25 : decode cX7_trace 25 = .ok (.ireturn, 1) := by decide +kernel
theorem dX7_count_0 : decode cX7_count 0 = .ok (.iconst 0, 1) := by decide +kernel
theorem dX7_count_1 : decode cX7_count 1 = .ok (.istore_n 2, 1) := by decide +kernel
theorem dX7_count_2 : decode cX7_count 2 = .ok (.iload_n 1, 1) := by decide +kernel
theorem dX7_count_3 : decode cX7_count 3 = .ok (.tableswitch 129 0 5 #[37, 69, 76, 83, 119, 124], 37) := by decide +kernel
theorem dX7_count_40 : decode cX7_count 40 = .ok (.iconst 0, 1) := by decide +kernel
theorem dX7_count_41 : decode cX7_count 41 = .ok (.istore_n 3, 1) := by decide +kernel
theorem dX7_count_42 : decode cX7_count 42 = .ok (.iload_n 3, 1) := by decide +kernel
theorem dX7_count_43 : decode cX7_count 43 = .ok (.bipush 8, 2) := by decide +kernel
theorem dX7_count_45 : decode cX7_count 45 = .ok (.if_icmp .ge 25, 3) := by decide +kernel
theorem dX7_count_48 : decode cX7_count 48 = .ok (.iload_n 2, 1) := by decide +kernel
theorem dX7_count_49 : decode cX7_count 49 = .ok (.aload_n 0, 1) := by decide +kernel
theorem dX7_count_50 : decode cX7_count 50 = .ok (.iload_n 3, 1) := by decide +kernel
theorem dX7_count_51 : decode cX7_count 51 = .ok (.invokevirtual 78, 3) := by decide +kernel
theorem dX7_count_54 : decode cX7_count 54 = .ok (.ifCond .eq 7, 3) := by decide +kernel
theorem dX7_count_57 : decode cX7_count 57 = .ok (.iconst 0, 1) := by decide +kernel
theorem dX7_count_58 : decode cX7_count 58 = .ok (.goto 4, 3) := by decide +kernel
theorem dX7_count_61 : decode cX7_count 61 = .ok (.iconst 1, 1) := by decide +kernel
theorem dX7_count_62 : decode cX7_count 62 = .ok (.iadd, 1) := by decide +kernel
theorem dX7_count_63 : decode cX7_count 63 = .ok (.istore_n 2, 1) := by decide +kernel
theorem dX7_count_64 : decode cX7_count 64 = .ok (.iinc 3 1, 3) := by decide +kernel
theorem dX7_count_67 : decode cX7_count 67 = .ok (.goto (-25), 3) := by decide +kernel
theorem dX7_count_70 : decode cX7_count 70 = .ok (.iload_n 2, 1) := by decide +kernel
theorem dX7_count_71 : decode cX7_count 71 = .ok (.ireturn, 1) := by decide +kernel
theorem dX7_count_72 : decode cX7_count 72 = .ok (.aload_n 0, 1) := by decide +kernel
theorem dX7_count_73 : decode cX7_count 73 = .ok (.getfield 25, 3) := by decide +kernel
theorem dX7_count_76 : decode cX7_count 76 = .ok (.iconst 0, 1) := by decide +kernel
theorem dX7_count_77 : decode cX7_count 77 = .ok (.iaload, 1) := by decide +kernel
theorem dX7_count_78 : decode cX7_count 78 = .ok (.ireturn, 1) := by decide +kernel
theorem dX7_count_79 : decode cX7_count 79 = .ok (.aload_n 0, 1) := by decide +kernel
theorem dX7_count_80 : decode cX7_count 80 = .ok (.getfield 25, 3) := by decide +kernel
theorem dX7_count_83 : decode cX7_count 83 = .ok (.iconst 1, 1) := by decide +kernel
theorem dX7_count_84 : decode cX7_count 84 = .ok (.iaload, 1) := by decide +kernel
theorem dX7_count_85 : decode cX7_count 85 = .ok (.ireturn, 1) := by decide +kernel
theorem dX7_count_86 : decode cX7_count 86 = .ok (.iconst 0, 1) := by decide +kernel
theorem dX7_count_87 : decode cX7_count 87 = .ok (.istore_n 3, 1) := by decide +kernel
theorem dX7_count_88 : decode cX7_count 88 = .ok (.iload_n 3, 1) := by decide +kernel
theorem dX7_count_89 : decode cX7_count 89 = .ok (.aload_n 0, 1) := by decide +kernel
theorem dX7_count_90 : decode cX7_count 90 = .ok (.getfield 25, 3) := by decide +kernel
theorem dX7_count_93 : decode cX7_count 93 = .ok (.iconst 0, 1) := by decide +kernel
theorem dX7_count_94 : decode cX7_count 94 = .ok (.iaload, 1) := by decide +kernel
theorem dX7_count_95 : decode cX7_count 95 = .ok (.if_icmp .ge 25, 3) := by decide +kernel
theorem dX7_count_98 : decode cX7_count 98 = .ok (.iload_n 2, 1) := by decide +kernel
theorem dX7_count_99 : decode cX7_count 99 = .ok (.aload_n 0, 1) := by decide +kernel
theorem dX7_count_100 : decode cX7_count 100 = .ok (.getfield 25, 3) := by decide +kernel
theorem dX7_count_103 : decode cX7_count 103 = .ok (.iconst 2, 1) := by decide +kernel
theorem dX7_count_104 : decode cX7_count 104 = .ok (.bipush 10, 2) := by decide +kernel
theorem dX7_count_106 : decode cX7_count 106 = .ok (.iload_n 3, 1) := by decide +kernel
theorem dX7_count_107 : decode cX7_count 107 = .ok (.imul, 1) := by decide +kernel
theorem dX7_count_108 : decode cX7_count 108 = .ok (.iadd, 1) := by decide +kernel
theorem dX7_count_109 : decode cX7_count 109 = .ok (.iconst 1, 1) := by decide +kernel
theorem dX7_count_110 : decode cX7_count 110 = .ok (.iadd, 1) := by decide +kernel
theorem dX7_count_111 : decode cX7_count 111 = .ok (.iaload, 1) := by decide +kernel
theorem dX7_count_112 : decode cX7_count 112 = .ok (.iadd, 1) := by decide +kernel
theorem dX7_count_113 : decode cX7_count 113 = .ok (.istore_n 2, 1) := by decide +kernel
theorem dX7_count_114 : decode cX7_count 114 = .ok (.iinc 3 1, 3) := by decide +kernel
theorem dX7_count_117 : decode cX7_count 117 = .ok (.goto (-29), 3) := by decide +kernel
theorem dX7_count_120 : decode cX7_count 120 = .ok (.iload_n 2, 1) := by decide +kernel
theorem dX7_count_121 : decode cX7_count 121 = .ok (.ireturn, 1) := by decide +kernel
theorem dX7_count_122 : decode cX7_count 122 = .ok (.aload_n 0, 1) := by decide +kernel
theorem dX7_count_123 : decode cX7_count 123 = .ok (.getfield 155, 3) := by decide +kernel
theorem dX7_count_126 : decode cX7_count 126 = .ok (.ireturn, 1) := by decide +kernel
theorem dX7_count_127 : decode cX7_count 127 = .ok (.aload_n 0, 1) := by decide +kernel
theorem dX7_count_128 : decode cX7_count 128 = .ok (.getfield 88, 3) := by decide +kernel
theorem dX7_count_131 : decode cX7_count 131 = .ok (.ireturn, 1) := by decide +kernel
theorem dX7_count_132 : decode cX7_count 132 = .ok (.ldc 70, 2) := by decide +kernel
theorem dX7_count_134 : decode cX7_count 134 = .ok (.ireturn, 1) := by decide +kernel
theorem dX7_status_0 : decode cX7_status 0 = .ok (.aload_n 0, 1) := by decide +kernel
theorem dX7_status_1 : decode cX7_status 1 = .ok (.getfield 57, 3) := by decide +kernel
theorem dX7_status_4 : decode cX7_status 4 = .ok (.ireturn, 1) := by decide +kernel
