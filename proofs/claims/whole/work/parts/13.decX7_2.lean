theorem dX7_bodies_124 : decode cX7_bodies 124 = .ok (.aload_n 0, 1) := by decide +kernel
theorem dX7_bodies_125 : decode cX7_bodies 125 = .ok (.aload_n 1, 1) := by decide +kernel
theorem dX7_bodies_126 : decode cX7_bodies 126 = .ok (.iload 5, 2) := by decide +kernel
theorem dX7_bodies_128 : decode cX7_bodies 128 = .ok (.iconst 2, 1) := by decide +kernel
theorem dX7_bodies_129 : decode cX7_bodies 129 = .ok (.iadd, 1) := by decide +kernel
theorem dX7_bodies_130 : decode cX7_bodies 130 = .ok (.iconst 2, 1) := by decide +kernel
theorem dX7_bodies_131 : decode cX7_bodies 131 = .ok (.iload 4, 2) := by decide +kernel
theorem dX7_bodies_133 : decode cX7_bodies 133 = .ok (.imul, 1) := by decide +kernel
theorem dX7_bodies_134 : decode cX7_bodies 134 = .ok (.iadd, 1) := by decide +kernel
theorem dX7_bodies_135 : decode cX7_bodies 135 = .ok (.iconst 1, 1) := by decide +kernel
theorem dX7_bodies_136 : decode cX7_bodies 136 = .ok (.iadd, 1) := by decide +kernel
theorem dX7_bodies_137 : decode cX7_bodies 137 = .ok (.iaload, 1) := by decide +kernel
theorem dX7_bodies_138 : decode cX7_bodies 138 = .ok (.invokevirtual 210, 3) := by decide +kernel
theorem dX7_bodies_141 : decode cX7_bodies 141 = .ok (.goto 78, 3) := by decide +kernel
theorem dX7_bodies_144 : decode cX7_bodies 144 = .ok (.aload_n 1, 1) := by decide +kernel
theorem dX7_bodies_145 : decode cX7_bodies 145 = .ok (.iload 5, 2) := by decide +kernel
theorem dX7_bodies_147 : decode cX7_bodies 147 = .ok (.iconst 2, 1) := by decide +kernel
theorem dX7_bodies_148 : decode cX7_bodies 148 = .ok (.iadd, 1) := by decide +kernel
theorem dX7_bodies_149 : decode cX7_bodies 149 = .ok (.iconst 2, 1) := by decide +kernel
theorem dX7_bodies_150 : decode cX7_bodies 150 = .ok (.iload 4, 2) := by decide +kernel
theorem dX7_bodies_152 : decode cX7_bodies 152 = .ok (.imul, 1) := by decide +kernel
theorem dX7_bodies_153 : decode cX7_bodies 153 = .ok (.iadd, 1) := by decide +kernel
theorem dX7_bodies_154 : decode cX7_bodies 154 = .ok (.iaload, 1) := by decide +kernel
theorem dX7_bodies_155 : decode cX7_bodies 155 = .ok (.iconst 2, 1) := by decide +kernel
theorem dX7_bodies_156 : decode cX7_bodies 156 = .ok (.if_icmp .ne 24, 3) := by decide +kernel
theorem dX7_bodies_159 : decode cX7_bodies 159 = .ok (.aload_n 0, 1) := by decide +kernel
theorem dX7_bodies_160 : decode cX7_bodies 160 = .ok (.aload_n 1, 1) := by decide +kernel
theorem dX7_bodies_161 : decode cX7_bodies 161 = .ok (.iload 5, 2) := by decide +kernel
theorem dX7_bodies_163 : decode cX7_bodies 163 = .ok (.iconst 2, 1) := by decide +kernel
theorem dX7_bodies_164 : decode cX7_bodies 164 = .ok (.iadd, 1) := by decide +kernel
theorem dX7_bodies_165 : decode cX7_bodies 165 = .ok (.iconst 2, 1) := by decide +kernel
theorem dX7_bodies_166 : decode cX7_bodies 166 = .ok (.iload 4, 2) := by decide +kernel
theorem dX7_bodies_168 : decode cX7_bodies 168 = .ok (.imul, 1) := by decide +kernel
theorem dX7_bodies_169 : decode cX7_bodies 169 = .ok (.iadd, 1) := by decide +kernel
theorem dX7_bodies_170 : decode cX7_bodies 170 = .ok (.iconst 1, 1) := by decide +kernel
theorem dX7_bodies_171 : decode cX7_bodies 171 = .ok (.iadd, 1) := by decide +kernel
theorem dX7_bodies_172 : decode cX7_bodies 172 = .ok (.iaload, 1) := by decide +kernel
theorem dX7_bodies_173 : decode cX7_bodies 173 = .ok (.iconst 0, 1) := by decide +kernel
theorem dX7_bodies_174 : decode cX7_bodies 174 = .ok (.invokevirtual 214, 3) := by decide +kernel
theorem dX7_bodies_177 : decode cX7_bodies 177 = .ok (.goto 42, 3) := by decide +kernel
theorem dX7_bodies_180 : decode cX7_bodies 180 = .ok (.aload_n 0, 1) := by decide +kernel
theorem dX7_bodies_181 : decode cX7_bodies 181 = .ok (.getfield 44, 3) := by decide +kernel
theorem dX7_bodies_184 : decode cX7_bodies 184 = .ok (.iload_n 2, 1) := by decide +kernel
theorem dX7_bodies_185 : decode cX7_bodies 185 = .ok (.iconst 2, 1) := by decide +kernel
theorem dX7_bodies_186 : decode cX7_bodies 186 = .ok (.iadd, 1) := by decide +kernel
theorem dX7_bodies_187 : decode cX7_bodies 187 = .ok (.iaload, 1) := by decide +kernel
theorem dX7_bodies_188 : decode cX7_bodies 188 = .ok (.ifCond .le 31, 3) := by decide +kernel
theorem dX7_bodies_191 : decode cX7_bodies 191 = .ok (.aload_n 0, 1) := by decide +kernel
theorem dX7_bodies_192 : decode cX7_bodies 192 = .ok (.aload_n 1, 1) := by decide +kernel
theorem dX7_bodies_193 : decode cX7_bodies 193 = .ok (.aload_n 1, 1) := by decide +kernel
theorem dX7_bodies_194 : decode cX7_bodies 194 = .ok (.iload 5, 2) := by decide +kernel
theorem dX7_bodies_196 : decode cX7_bodies 196 = .ok (.iconst 2, 1) := by decide +kernel
theorem dX7_bodies_197 : decode cX7_bodies 197 = .ok (.iadd, 1) := by decide +kernel
theorem dX7_bodies_198 : decode cX7_bodies 198 = .ok (.iconst 2, 1) := by decide +kernel
theorem dX7_bodies_199 : decode cX7_bodies 199 = .ok (.iload 4, 2) := by decide +kernel
theorem dX7_bodies_201 : decode cX7_bodies 201 = .ok (.imul, 1) := by decide +kernel
theorem dX7_bodies_202 : decode cX7_bodies 202 = .ok (.iadd, 1) := by decide +kernel
theorem dX7_bodies_203 : decode cX7_bodies 203 = .ok (.iconst 1, 1) := by decide +kernel
theorem dX7_bodies_204 : decode cX7_bodies 204 = .ok (.iadd, 1) := by decide +kernel
theorem dX7_bodies_205 : decode cX7_bodies 205 = .ok (.iaload, 1) := by decide +kernel
theorem dX7_bodies_206 : decode cX7_bodies 206 = .ok (.aload_n 0, 1) := by decide +kernel
theorem dX7_bodies_207 : decode cX7_bodies 207 = .ok (.getfield 44, 3) := by decide +kernel
theorem dX7_bodies_210 : decode cX7_bodies 210 = .ok (.iload_n 2, 1) := by decide +kernel
theorem dX7_bodies_211 : decode cX7_bodies 211 = .ok (.iconst 2, 1) := by decide +kernel
theorem dX7_bodies_212 : decode cX7_bodies 212 = .ok (.iadd, 1) := by decide +kernel
theorem dX7_bodies_213 : decode cX7_bodies 213 = .ok (.iaload, 1) := by decide +kernel
theorem dX7_bodies_214 : decode cX7_bodies 214 = .ok (.iconst 1, 1) := by decide +kernel
theorem dX7_bodies_215 : decode cX7_bodies 215 = .ok (.isub, 1) := by decide +kernel
theorem dX7_bodies_216 : decode cX7_bodies 216 = .ok (.invokevirtual 218, 3) := by decide +kernel
theorem dX7_bodies_219 : decode cX7_bodies 219 = .ok (.return_, 1) := by decide +kernel
theorem dX7_runs_0 : decode cX7_runs 0 = .ok (.aload_n 0, 1) := by decide +kernel
theorem dX7_runs_1 : decode cX7_runs 1 = .ok (.iconst 0, 1) := by decide +kernel
theorem dX7_runs_2 : decode cX7_runs 2 = .ok (.putfield 183, 3) := by decide +kernel
theorem dX7_runs_5 : decode cX7_runs 5 = .ok (.aload_n 0, 1) := by decide +kernel
theorem dX7_runs_6 : decode cX7_runs 6 = .ok (.iconst 0, 1) := by decide +kernel
theorem dX7_runs_7 : decode cX7_runs 7 = .ok (.putfield 176, 3) := by decide +kernel
theorem dX7_runs_10 : decode cX7_runs 10 = .ok (.aload_n 0, 1) := by decide +kernel
theorem dX7_runs_11 : decode cX7_runs 11 = .ok (.iconst 0, 1) := by decide +kernel
theorem dX7_runs_12 : decode cX7_runs 12 = .ok (.putfield 204, 3) := by decide +kernel
theorem dX7_runs_15 : decode cX7_runs 15 = .ok (.aload_n 0, 1) := by decide +kernel
theorem dX7_runs_16 : decode cX7_runs 16 = .ok (.iconst 0, 1) := by decide +kernel
theorem dX7_runs_17 : decode cX7_runs 17 = .ok (.putfield 207, 3) := by decide +kernel
theorem dX7_runs_20 : decode cX7_runs 20 = .ok (.aload_n 0, 1) := by decide +kernel
theorem dX7_runs_21 : decode cX7_runs 21 = .ok (.iconst 0, 1) := by decide +kernel
theorem dX7_runs_22 : decode cX7_runs 22 = .ok (.putfield 190, 3) := by decide +kernel
theorem dX7_runs_25 : decode cX7_runs 25 = .ok (.aload_n 0, 1) := by decide +kernel
theorem dX7_runs_26 : decode cX7_runs 26 = .ok (.iconst 0, 1) := by decide +kernel
theorem dX7_runs_27 : decode cX7_runs 27 = .ok (.putfield 193, 3) := by decide +kernel
theorem dX7_runs_30 : decode cX7_runs 30 = .ok (.aload_n 0, 1) := by decide +kernel
theorem dX7_runs_31 : decode cX7_runs 31 = .ok (.iconst 0, 1) := by decide +kernel
theorem dX7_runs_32 : decode cX7_runs 32 = .ok (.putfield 179, 3) := by decide +kernel
theorem dX7_runs_35 : decode cX7_runs 35 = .ok (.iconst 0, 1) := by decide +kernel
theorem dX7_runs_36 : decode cX7_runs 36 = .ok (.istore 4, 2) := by decide +kernel
theorem dX7_runs_38 : decode cX7_runs 38 = .ok (.iload 4, 2) := by decide +kernel
theorem dX7_runs_40 : decode cX7_runs 40 = .ok (.bipush 6, 2) := by decide +kernel
theorem dX7_runs_42 : decode cX7_runs 42 = .ok (.if_icmp .ge 17, 3) := by decide +kernel
theorem dX7_runs_45 : decode cX7_runs 45 = .ok (.aload_n 0, 1) := by decide +kernel
theorem dX7_runs_46 : decode cX7_runs 46 = .ok (.getfield 47, 3) := by decide +kernel
theorem dX7_runs_49 : decode cX7_runs 49 = .ok (.iload 4, 2) := by decide +kernel
theorem dX7_runs_51 : decode cX7_runs 51 = .ok (.iconst 0, 1) := by decide +kernel
theorem dX7_runs_52 : decode cX7_runs 52 = .ok (.iastore, 1) := by decide +kernel
theorem dX7_runs_53 : decode cX7_runs 53 = .ok (.iinc 4 1, 3) := by decide +kernel
theorem dX7_runs_56 : decode cX7_runs 56 = .ok (.goto (-18), 3) := by decide +kernel
theorem dX7_runs_59 : decode cX7_runs 59 = .ok (.aload_n 0, 1) := by decide +kernel
theorem dX7_runs_60 : decode cX7_runs 60 = .ok (.aload_n 1, 1) := by decide +kernel
theorem dX7_runs_61 : decode cX7_runs 61 = .ok (.iload_n 2, 1) := by decide +kernel
theorem dX7_runs_62 : decode cX7_runs 62 = .ok (.iload_n 3, 1) := by decide +kernel
theorem dX7_runs_63 : decode cX7_runs 63 = .ok (.invokevirtual 218, 3) := by decide +kernel
theorem dX7_runs_66 : decode cX7_runs 66 = .ok (.aload_n 0, 1) := by decide +kernel
theorem dX7_runs_67 : decode cX7_runs 67 = .ok (.getfield 183, 3) := by decide +kernel
theorem dX7_runs_70 : decode cX7_runs 70 = .ok (.istore 4, 2) := by decide +kernel
theorem dX7_runs_72 : decode cX7_runs 72 = .ok (.aload_n 0, 1) := by decide +kernel
theorem dX7_runs_73 : decode cX7_runs 73 = .ok (.getfield 183, 3) := by decide +kernel
theorem dX7_runs_76 : decode cX7_runs 76 = .ok (.ifCond .le 125, 3) := by decide +kernel
theorem dX7_runs_79 : decode cX7_runs 79 = .ok (.aload_n 0, 1) := by decide +kernel
theorem dX7_runs_80 : decode cX7_runs 80 = .ok (.getfield 179, 3) := by decide +kernel
theorem dX7_runs_83 : decode cX7_runs 83 = .ok (.ifCond .ne 118, 3) := by decide +kernel
theorem dX7_runs_86 : decode cX7_runs 86 = .ok (.aload_n 0, 1) := by decide +kernel
theorem dX7_runs_87 : decode cX7_runs 87 = .ok (.getfield 183, 3) := by decide +kernel
theorem dX7_runs_90 : decode cX7_runs 90 = .ok (.iload 4, 2) := by decide +kernel
theorem dX7_runs_92 : decode cX7_runs 92 = .ok (.if_icmp .ge 7, 3) := by decide +kernel
theorem dX7_runs_95 : decode cX7_runs 95 = .ok (.iconst 1, 1) := by decide +kernel
theorem dX7_runs_96 : decode cX7_runs 96 = .ok (.goto 4, 3) := by decide +kernel
theorem dX7_runs_99 : decode cX7_runs 99 = .ok (.iconst 0, 1) := by decide +kernel
theorem dX7_runs_100 : decode cX7_runs 100 = .ok (.istore 5, 2) := by decide +kernel
theorem dX7_runs_102 : decode cX7_runs 102 = .ok (.aload_n 0, 1) := by decide +kernel
theorem dX7_runs_103 : decode cX7_runs 103 = .ok (.getfield 183, 3) := by decide +kernel
theorem dX7_runs_106 : decode cX7_runs 106 = .ok (.istore 4, 2) := by decide +kernel
theorem dX7_runs_108 : decode cX7_runs 108 = .ok (.bipush 7, 2) := by decide +kernel
theorem dX7_runs_110 : decode cX7_runs 110 = .ok (.aload_n 0, 1) := by decide +kernel
theorem dX7_runs_111 : decode cX7_runs 111 = .ok (.getfield 183, 3) := by decide +kernel
theorem dX7_runs_114 : decode cX7_runs 114 = .ok (.iconst 1, 1) := by decide +kernel
theorem dX7_runs_115 : decode cX7_runs 115 = .ok (.isub, 1) := by decide +kernel
theorem dX7_runs_116 : decode cX7_runs 116 = .ok (.imul, 1) := by decide +kernel
theorem dX7_runs_117 : decode cX7_runs 117 = .ok (.istore 6, 2) := by decide +kernel
theorem dX7_runs_119 : decode cX7_runs 119 = .ok (.aload_n 0, 1) := by decide +kernel
theorem dX7_runs_120 : decode cX7_runs 120 = .ok (.getfield 44, 3) := by decide +kernel
theorem dX7_runs_123 : decode cX7_runs 123 = .ok (.iload 6, 2) := by decide +kernel
theorem dX7_runs_125 : decode cX7_runs 125 = .ok (.iconst 0, 1) := by decide +kernel
theorem dX7_runs_126 : decode cX7_runs 126 = .ok (.iadd, 1) := by decide +kernel
theorem dX7_runs_127 : decode cX7_runs 127 = .ok (.iaload, 1) := by decide +kernel
theorem dX7_runs_128 : decode cX7_runs 128 = .ok (.ifCond .ne 36, 3) := by decide +kernel
theorem dX7_runs_131 : decode cX7_runs 131 = .ok (.aload_n 0, 1) := by decide +kernel
theorem dX7_runs_132 : decode cX7_runs 132 = .ok (.getfield 47, 3) := by decide +kernel
theorem dX7_runs_135 : decode cX7_runs 135 = .ok (.aload_n 0, 1) := by decide +kernel
theorem dX7_runs_136 : decode cX7_runs 136 = .ok (.getfield 44, 3) := by decide +kernel
theorem dX7_runs_139 : decode cX7_runs 139 = .ok (.iload 6, 2) := by decide +kernel
theorem dX7_runs_141 : decode cX7_runs 141 = .ok (.iconst 1, 1) := by decide +kernel
theorem dX7_runs_142 : decode cX7_runs 142 = .ok (.iadd, 1) := by decide +kernel
theorem dX7_runs_143 : decode cX7_runs 143 = .ok (.iaload, 1) := by decide +kernel
theorem dX7_runs_144 : decode cX7_runs 144 = .ok (.dup2, 1) := by decide +kernel
theorem dX7_runs_145 : decode cX7_runs 145 = .ok (.iaload, 1) := by decide +kernel
theorem dX7_runs_146 : decode cX7_runs 146 = .ok (.iconst 1, 1) := by decide +kernel
theorem dX7_runs_147 : decode cX7_runs 147 = .ok (.isub, 1) := by decide +kernel
theorem dX7_runs_148 : decode cX7_runs 148 = .ok (.iastore, 1) := by decide +kernel
theorem dX7_runs_149 : decode cX7_runs 149 = .ok (.aload_n 0, 1) := by decide +kernel
theorem dX7_runs_150 : decode cX7_runs 150 = .ok (.aload_n 0, 1) := by decide +kernel
theorem dX7_runs_151 : decode cX7_runs 151 = .ok (.getfield 204, 3) := by decide +kernel
theorem dX7_runs_154 : decode cX7_runs 154 = .ok (.aload_n 0, 1) := by decide +kernel
theorem dX7_runs_155 : decode cX7_runs 155 = .ok (.getfield 207, 3) := by decide +kernel
theorem dX7_runs_158 : decode cX7_runs 158 = .ok (.invokevirtual 214, 3) := by decide +kernel
theorem dX7_runs_161 : decode cX7_runs 161 = .ok (.goto 37, 3) := by decide +kernel
theorem dX7_runs_164 : decode cX7_runs 164 = .ok (.aload_n 0, 1) := by decide +kernel
theorem dX7_runs_165 : decode cX7_runs 165 = .ok (.getfield 44, 3) := by decide +kernel
theorem dX7_runs_168 : decode cX7_runs 168 = .ok (.iload 6, 2) := by decide +kernel
theorem dX7_runs_170 : decode cX7_runs 170 = .ok (.iconst 0, 1) := by decide +kernel
theorem dX7_runs_171 : decode cX7_runs 171 = .ok (.iadd, 1) := by decide +kernel
theorem dX7_runs_172 : decode cX7_runs 172 = .ok (.iaload, 1) := by decide +kernel
theorem dX7_runs_173 : decode cX7_runs 173 = .ok (.iconst 1, 1) := by decide +kernel
theorem dX7_runs_174 : decode cX7_runs 174 = .ok (.if_icmp .ne 15, 3) := by decide +kernel
theorem dX7_runs_177 : decode cX7_runs 177 = .ok (.aload_n 0, 1) := by decide +kernel
theorem dX7_runs_178 : decode cX7_runs 178 = .ok (.aload_n 1, 1) := by decide +kernel
theorem dX7_runs_179 : decode cX7_runs 179 = .ok (.iload 6, 2) := by decide +kernel
theorem dX7_runs_181 : decode cX7_runs 181 = .ok (.iload 5, 2) := by decide +kernel
theorem dX7_runs_183 : decode cX7_runs 183 = .ok (.invokevirtual 222, 3) := by decide +kernel
theorem dX7_runs_186 : decode cX7_runs 186 = .ok (.goto 12, 3) := by decide +kernel
theorem dX7_runs_189 : decode cX7_runs 189 = .ok (.aload_n 0, 1) := by decide +kernel
theorem dX7_runs_190 : decode cX7_runs 190 = .ok (.aload_n 1, 1) := by decide +kernel
theorem dX7_runs_191 : decode cX7_runs 191 = .ok (.iload 6, 2) := by decide +kernel
theorem dX7_runs_193 : decode cX7_runs 193 = .ok (.iload 5, 2) := by decide +kernel
theorem dX7_runs_195 : decode cX7_runs 195 = .ok (.invokevirtual 226, 3) := by decide +kernel
theorem dX7_runs_198 : decode cX7_runs 198 = .ok (.goto (-126), 3) := by decide +kernel
theorem dX7_runs_201 : decode cX7_runs 201 = .ok (.return_, 1) := by decide +kernel
theorem dX7_notes_0 : decode cX7_notes 0 = .ok (.aload_n 0, 1) := by decide +kernel
theorem dX7_notes_1 : decode cX7_notes 1 = .ok (.getfield 155, 3) := by decide +kernel
theorem dX7_notes_4 : decode cX7_notes 4 = .ok (.bipush 16, 2) := by decide +kernel
theorem dX7_notes_6 : decode cX7_notes 6 = .ok (.if_icmp .ne 43, 3) := by decide +kernel
theorem dX7_notes_9 : decode cX7_notes 9 = .ok (.iconst 0, 1) := by decide +kernel
theorem dX7_notes_10 : decode cX7_notes 10 = .ok (.istore_n 1, 1) := by decide +kernel
theorem dX7_notes_11 : decode cX7_notes 11 = .ok (.iload_n 1, 1) := by decide +kernel
theorem dX7_notes_12 : decode cX7_notes 12 = .ok (.sipush 1380, 3) := by decide +kernel
theorem dX7_notes_15 : decode cX7_notes 15 = .ok (.if_icmp .ge 24, 3) := by decide +kernel
theorem dX7_notes_18 : decode cX7_notes 18 = .ok (.aload_n 0, 1) := by decide +kernel
theorem dX7_notes_19 : decode cX7_notes 19 = .ok (.getfield 34, 3) := by decide +kernel
theorem dX7_notes_22 : decode cX7_notes 22 = .ok (.iload_n 1, 1) := by decide +kernel
theorem dX7_notes_23 : decode cX7_notes 23 = .ok (.aload_n 0, 1) := by decide +kernel
theorem dX7_notes_24 : decode cX7_notes 24 = .ok (.getfield 34, 3) := by decide +kernel
theorem dX7_notes_27 : decode cX7_notes 27 = .ok (.iload_n 1, 1) := by decide +kernel
theorem dX7_notes_28 : decode cX7_notes 28 = .ok (.bipush 92, 2) := by decide +kernel
theorem dX7_notes_30 : decode cX7_notes 30 = .ok (.iadd, 1) := by decide +kernel
theorem dX7_notes_31 : decode cX7_notes 31 = .ok (.iaload, 1) := by decide +kernel
theorem dX7_notes_32 : decode cX7_notes 32 = .ok (.iastore, 1) := by decide +kernel
theorem dX7_notes_33 : decode cX7_notes 33 = .ok (.iinc 1 1, 3) := by decide +kernel
theorem dX7_notes_36 : decode cX7_notes 36 = .ok (.goto (-25), 3) := by decide +kernel
theorem dX7_notes_39 : decode cX7_notes 39 = .ok (.aload_n 0, 1) := by decide +kernel
theorem dX7_notes_40 : decode cX7_notes 40 = .ok (.dup, 1) := by decide +kernel
theorem dX7_notes_41 : decode cX7_notes 41 = .ok (.getfield 155, 3) := by decide +kernel
theorem dX7_notes_44 : decode cX7_notes 44 = .ok (.iconst 1, 1) := by decide +kernel
theorem dX7_notes_45 : decode cX7_notes 45 = .ok (.isub, 1) := by decide +kernel
theorem dX7_notes_46 : decode cX7_notes 46 = .ok (.putfield 155, 3) := by decide +kernel
theorem dX7_notes_49 : decode cX7_notes 49 = .ok (.aload_n 0, 1) := by decide +kernel
theorem dX7_notes_50 : decode cX7_notes 50 = .ok (.getfield 25, 3) := by decide +kernel
theorem dX7_notes_53 : decode cX7_notes 53 = .ok (.iconst 0, 1) := by decide +kernel
theorem dX7_notes_54 : decode cX7_notes 54 = .ok (.aload_n 0, 1) := by decide +kernel
theorem dX7_notes_55 : decode cX7_notes 55 = .ok (.getfield 34, 3) := by decide +kernel
theorem dX7_notes_58 : decode cX7_notes 58 = .ok (.bipush 92, 2) := by decide +kernel
theorem dX7_notes_60 : decode cX7_notes 60 = .ok (.aload_n 0, 1) := by decide +kernel
theorem dX7_notes_61 : decode cX7_notes 61 = .ok (.getfield 155, 3) := by decide +kernel
theorem dX7_notes_64 : decode cX7_notes 64 = .ok (.imul, 1) := by decide +kernel
theorem dX7_notes_65 : decode cX7_notes 65 = .ok (.invokestatic 151, 3) := by decide +kernel
theorem dX7_notes_68 : decode cX7_notes 68 = .ok (.aload_n 0, 1) := by decide +kernel
theorem dX7_notes_69 : decode cX7_notes 69 = .ok (.dup, 1) := by decide +kernel
theorem dX7_notes_70 : decode cX7_notes 70 = .ok (.getfield 155, 3) := by decide +kernel
theorem dX7_notes_73 : decode cX7_notes 73 = .ok (.iconst 1, 1) := by decide +kernel
theorem dX7_notes_74 : decode cX7_notes 74 = .ok (.iadd, 1) := by decide +kernel
theorem dX7_notes_75 : decode cX7_notes 75 = .ok (.putfield 155, 3) := by decide +kernel
theorem dX7_notes_78 : decode cX7_notes 78 = .ok (.return_, 1) := by decide +kernel
theorem dX7_becomes_0 : decode cX7_becomes 0 = .ok (.aload_n 0, 1) := by decide +kernel
theorem dX7_becomes_1 : decode cX7_becomes 1 = .ok (.invokevirtual 229, 3) := by decide +kernel
theorem dX7_becomes_4 : decode cX7_becomes 4 = .ok (.aload_n 0, 1) := by decide +kernel
theorem dX7_becomes_5 : decode cX7_becomes 5 = .ok (.getfield 25, 3) := by decide +kernel
theorem dX7_becomes_8 : decode cX7_becomes 8 = .ok (.iload_n 1, 1) := by decide +kernel
theorem dX7_becomes_9 : decode cX7_becomes 9 = .ok (.iaload, 1) := by decide +kernel
theorem dX7_becomes_10 : decode cX7_becomes 10 = .ok (.istore_n 3, 1) := by decide +kernel
theorem dX7_becomes_11 : decode cX7_becomes 11 = .ok (.aload_n 0, 1) := by decide +kernel
theorem dX7_becomes_12 : decode cX7_becomes 12 = .ok (.getfield 25, 3) := by decide +kernel
theorem dX7_becomes_15 : decode cX7_becomes 15 = .ok (.iload_n 1, 1) := by decide +kernel
theorem dX7_becomes_16 : decode cX7_becomes 16 = .ok (.iload_n 2, 1) := by decide +kernel
theorem dX7_becomes_17 : decode cX7_becomes 17 = .ok (.iastore, 1) := by decide +kernel
theorem dX7_becomes_18 : decode cX7_becomes 18 = .ok (.iload_n 3, 1) := by decide +kernel
theorem dX7_becomes_19 : decode cX7_becomes 19 = .ok (.ireturn, 1) := by decide +kernel
theorem dX7_change_0 : decode cX7_change 0 = .ok (.iload_n 2, 1) := by decide +kernel
theorem dX7_change_1 : decode cX7_change 1 = .ok (.ifCond .ne 13, 3) := by decide +kernel
theorem dX7_change_4 : decode cX7_change 4 = .ok (.iload_n 3, 1) := by decide +kernel
theorem dX7_change_5 : decode cX7_change 5 = .ok (.iconst 1, 1) := by decide +kernel
theorem dX7_change_6 : decode cX7_change 6 = .ok (.bipush 99, 2) := by decide +kernel
theorem dX7_change_8 : decode cX7_change 8 = .ok (.invokestatic 62, 3) := by decide +kernel
theorem dX7_change_11 : decode cX7_change 11 = .ok (.goto 38, 3) := by decide +kernel
theorem dX7_change_14 : decode cX7_change 14 = .ok (.iload_n 2, 1) := by decide +kernel
theorem dX7_change_15 : decode cX7_change 15 = .ok (.iconst 1, 1) := by decide +kernel
theorem dX7_change_16 : decode cX7_change 16 = .ok (.if_icmp .ne 13, 3) := by decide +kernel
theorem dX7_change_19 : decode cX7_change 19 = .ok (.iload_n 3, 1) := by decide +kernel
theorem dX7_change_20 : decode cX7_change 20 = .ok (.iconst 0, 1) := by decide +kernel
theorem dX7_change_21 : decode cX7_change 21 = .ok (.bipush 10, 2) := by decide +kernel
theorem dX7_change_23 : decode cX7_change 23 = .ok (.invokestatic 62, 3) := by decide +kernel
theorem dX7_change_26 : decode cX7_change 26 = .ok (.goto 23, 3) := by decide +kernel
theorem dX7_change_29 : decode cX7_change 29 = .ok (.iload_n 2, 1) := by decide +kernel
theorem dX7_change_30 : decode cX7_change 30 = .ok (.iconst 2, 1) := by decide +kernel
theorem dX7_change_31 : decode cX7_change 31 = .ok (.if_icmp .ne 17, 3) := by decide +kernel
theorem dX7_change_34 : decode cX7_change 34 = .ok (.iload_n 3, 1) := by decide +kernel
theorem dX7_change_35 : decode cX7_change 35 = .ok (.iconst 0, 1) := by decide +kernel
theorem dX7_change_36 : decode cX7_change 36 = .ok (.bipush 6, 2) := by decide +kernel
theorem dX7_change_38 : decode cX7_change 38 = .ok (.invokestatic 62, 3) := by decide +kernel
theorem dX7_change_41 : decode cX7_change 41 = .ok (.ifCond .eq 7, 3) := by decide +kernel
theorem dX7_change_44 : decode cX7_change 44 = .ok (.iconst 1, 1) := by decide +kernel
theorem dX7_change_45 : decode cX7_change 45 = .ok (.goto 4, 3) := by decide +kernel
theorem dX7_change_48 : decode cX7_change 48 = .ok (.iconst 0, 1) := by decide +kernel
theorem dX7_change_49 : decode cX7_change 49 = .ok (.istore 4, 2) := by decide +kernel
theorem dX7_change_51 : decode cX7_change 51 = .ok (.aload_n 0, 1) := by decide +kernel
theorem dX7_change_52 : decode cX7_change 52 = .ok (.iload_n 1, 1) := by decide +kernel
theorem dX7_change_53 : decode cX7_change 53 = .ok (.invokevirtual 232, 3) := by decide +kernel
theorem dX7_change_56 : decode cX7_change 56 = .ok (.ifCond .eq 8, 3) := by decide +kernel
theorem dX7_change_59 : decode cX7_change 59 = .ok (.iload 4, 2) := by decide +kernel
theorem dX7_change_61 : decode cX7_change 61 = .ok (.ifCond .ne 6, 3) := by decide +kernel
theorem dX7_change_64 : decode cX7_change 64 = .ok (.ldc 70, 2) := by decide +kernel
theorem dX7_change_66 : decode cX7_change 66 = .ok (.ireturn, 1) := by decide +kernel
theorem dX7_change_67 : decode cX7_change 67 = .ok (.aload_n 0, 1) := by decide +kernel
theorem dX7_change_68 : decode cX7_change 68 = .ok (.bipush 62, 2) := by decide +kernel
theorem dX7_change_70 : decode cX7_change 70 = .ok (.bipush 6, 2) := by decide +kernel
theorem dX7_change_72 : decode cX7_change 72 = .ok (.iload_n 1, 1) := by decide +kernel
theorem dX7_change_73 : decode cX7_change 73 = .ok (.imul, 1) := by decide +kernel
theorem dX7_change_74 : decode cX7_change 74 = .ok (.iadd, 1) := by decide +kernel
theorem dX7_change_75 : decode cX7_change 75 = .ok (.iload_n 2, 1) := by decide +kernel
theorem dX7_change_76 : decode cX7_change 76 = .ok (.ifCond .ne 7, 3) := by decide +kernel
theorem dX7_change_79 : decode cX7_change 79 = .ok (.iconst 1, 1) := by decide +kernel
theorem dX7_change_80 : decode cX7_change 80 = .ok (.goto 13, 3) := by decide +kernel
theorem dX7_change_83 : decode cX7_change 83 = .ok (.iload_n 2, 1) := by decide +kernel
theorem dX7_change_84 : decode cX7_change 84 = .ok (.iconst 1, 1) := by decide +kernel
theorem dX7_change_85 : decode cX7_change 85 = .ok (.if_icmp .ne 7, 3) := by decide +kernel
theorem dX7_change_88 : decode cX7_change 88 = .ok (.iconst 4, 1) := by decide +kernel
theorem dX7_change_89 : decode cX7_change 89 = .ok (.goto 4, 3) := by decide +kernel
theorem dX7_change_92 : decode cX7_change 92 = .ok (.iconst 5, 1) := by decide +kernel
theorem dX7_change_93 : decode cX7_change 93 = .ok (.iadd, 1) := by decide +kernel
theorem dX7_change_94 : decode cX7_change 94 = .ok (.iload_n 3, 1) := by decide +kernel
theorem dX7_change_95 : decode cX7_change 95 = .ok (.invokevirtual 235, 3) := by decide +kernel
theorem dX7_change_98 : decode cX7_change 98 = .ok (.ireturn, 1) := by decide +kernel
theorem dX7_become_0 : decode cX7_become 0 = .ok (.aload_n 0, 1) := by decide +kernel
theorem dX7_become_1 : decode cX7_become 1 = .ok (.iload_n 1, 1) := by decide +kernel
theorem dX7_become_2 : decode cX7_become 2 = .ok (.invokevirtual 232, 3) := by decide +kernel
theorem dX7_become_5 : decode cX7_become 5 = .ok (.ifCond .eq 12, 3) := by decide +kernel
theorem dX7_become_8 : decode cX7_become 8 = .ok (.iload_n 2, 1) := by decide +kernel
theorem dX7_become_9 : decode cX7_become 9 = .ok (.iconst 1, 1) := by decide +kernel
theorem dX7_become_10 : decode cX7_become 10 = .ok (.iconst 5, 1) := by decide +kernel
theorem dX7_become_11 : decode cX7_become 11 = .ok (.invokestatic 62, 3) := by decide +kernel
theorem dX7_become_14 : decode cX7_become 14 = .ok (.ifCond .ne 6, 3) := by decide +kernel
theorem dX7_become_17 : decode cX7_become 17 = .ok (.ldc 70, 2) := by decide +kernel
theorem dX7_become_19 : decode cX7_become 19 = .ok (.ireturn, 1) := by decide +kernel
theorem dX7_become_20 : decode cX7_become 20 = .ok (.aload_n 0, 1) := by decide +kernel
theorem dX7_become_21 : decode cX7_become 21 = .ok (.getfield 25, 3) := by decide +kernel
theorem dX7_become_24 : decode cX7_become 24 = .ok (.bipush 62, 2) := by decide +kernel
theorem dX7_become_26 : decode cX7_become 26 = .ok (.bipush 6, 2) := by decide +kernel
theorem dX7_become_28 : decode cX7_become 28 = .ok (.iload_n 1, 1) := by decide +kernel
theorem dX7_become_29 : decode cX7_become 29 = .ok (.imul, 1) := by decide +kernel
theorem dX7_become_30 : decode cX7_become 30 = .ok (.iadd, 1) := by decide +kernel
theorem dX7_become_31 : decode cX7_become 31 = .ok (.iaload, 1) := by decide +kernel
theorem dX7_become_32 : decode cX7_become 32 = .ok (.iload_n 2, 1) := by decide +kernel
theorem dX7_become_33 : decode cX7_become 33 = .ok (.if_icmp .ne 8, 3) := by decide +kernel
theorem dX7_become_36 : decode cX7_become 36 = .ok (.ldc 238, 2) := by decide +kernel
theorem dX7_become_38 : decode cX7_become 38 = .ok (.goto 15, 3) := by decide +kernel
theorem dX7_become_41 : decode cX7_become 41 = .ok (.aload_n 0, 1) := by decide +kernel
theorem dX7_become_42 : decode cX7_become 42 = .ok (.bipush 62, 2) := by decide +kernel
theorem dX7_become_44 : decode cX7_become 44 = .ok (.bipush 6, 2) := by decide +kernel
theorem dX7_become_46 : decode cX7_become 46 = .ok (.iload_n 1, 1) := by decide +kernel
theorem dX7_become_47 : decode cX7_become 47 = .ok (.imul, 1) := by decide +kernel
theorem dX7_become_48 : decode cX7_become 48 = .ok (.iadd, 1) := by decide +kernel
theorem dX7_become_49 : decode cX7_become 49 = .ok (.iload_n 2, 1) := by decide +kernel
theorem dX7_become_50 : decode cX7_become 50 = .ok (.invokevirtual 235, 3) := by decide +kernel
theorem dX7_become_53 : decode cX7_become 53 = .ok (.ireturn, 1) := by decide +kernel
theorem dX7_swaps_0 : decode cX7_swaps 0 = .ok (.iconst 0, 1) := by decide +kernel
theorem dX7_swaps_1 : decode cX7_swaps 1 = .ok (.istore_n 3, 1) := by decide +kernel
theorem dX7_swaps_2 : decode cX7_swaps 2 = .ok (.iload_n 3, 1) := by decide +kernel
theorem dX7_swaps_3 : decode cX7_swaps 3 = .ok (.bipush 6, 2) := by decide +kernel
theorem dX7_swaps_5 : decode cX7_swaps 5 = .ok (.if_icmp .ge 57, 3) := by decide +kernel
theorem dX7_swaps_8 : decode cX7_swaps 8 = .ok (.aload_n 0, 1) := by decide +kernel
theorem dX7_swaps_9 : decode cX7_swaps 9 = .ok (.bipush 62, 2) := by decide +kernel
theorem dX7_swaps_11 : decode cX7_swaps 11 = .ok (.bipush 6, 2) := by decide +kernel
theorem dX7_swaps_13 : decode cX7_swaps 13 = .ok (.iload_n 1, 1) := by decide +kernel
theorem dX7_swaps_14 : decode cX7_swaps 14 = .ok (.imul, 1) := by decide +kernel
theorem dX7_swaps_15 : decode cX7_swaps 15 = .ok (.iadd, 1) := by decide +kernel
theorem dX7_swaps_16 : decode cX7_swaps 16 = .ok (.iload_n 3, 1) := by decide +kernel
theorem dX7_swaps_17 : decode cX7_swaps 17 = .ok (.iadd, 1) := by decide +kernel
theorem dX7_swaps_18 : decode cX7_swaps 18 = .ok (.iaload, 1) := by decide +kernel
theorem dX7_swaps_19 : decode cX7_swaps 19 = .ok (.istore 4, 2) := by decide +kernel
theorem dX7_swaps_21 : decode cX7_swaps 21 = .ok (.aload_n 0, 1) := by decide +kernel
theorem dX7_swaps_22 : decode cX7_swaps 22 = .ok (.bipush 62, 2) := by decide +kernel
theorem dX7_swaps_24 : decode cX7_swaps 24 = .ok (.bipush 6, 2) := by decide +kernel
theorem dX7_swaps_26 : decode cX7_swaps 26 = .ok (.iload_n 1, 1) := by decide +kernel
theorem dX7_swaps_27 : decode cX7_swaps 27 = .ok (.imul, 1) := by decide +kernel
theorem dX7_swaps_28 : decode cX7_swaps 28 = .ok (.iadd, 1) := by decide +kernel
theorem dX7_swaps_29 : decode cX7_swaps 29 = .ok (.iload_n 3, 1) := by decide +kernel
theorem dX7_swaps_30 : decode cX7_swaps 30 = .ok (.iadd, 1) := by decide +kernel
theorem dX7_swaps_31 : decode cX7_swaps 31 = .ok (.aload_n 0, 1) := by decide +kernel
theorem dX7_swaps_32 : decode cX7_swaps 32 = .ok (.bipush 62, 2) := by decide +kernel
theorem dX7_swaps_34 : decode cX7_swaps 34 = .ok (.bipush 6, 2) := by decide +kernel
theorem dX7_swaps_36 : decode cX7_swaps 36 = .ok (.iload_n 2, 1) := by decide +kernel
theorem dX7_swaps_37 : decode cX7_swaps 37 = .ok (.imul, 1) := by decide +kernel
theorem dX7_swaps_38 : decode cX7_swaps 38 = .ok (.iadd, 1) := by decide +kernel
theorem dX7_swaps_39 : decode cX7_swaps 39 = .ok (.iload_n 3, 1) := by decide +kernel
theorem dX7_swaps_40 : decode cX7_swaps 40 = .ok (.iadd, 1) := by decide +kernel
theorem dX7_swaps_41 : decode cX7_swaps 41 = .ok (.iaload, 1) := by decide +kernel
theorem dX7_swaps_42 : decode cX7_swaps 42 = .ok (.iastore, 1) := by decide +kernel
theorem dX7_swaps_43 : decode cX7_swaps 43 = .ok (.aload_n 0, 1) := by decide +kernel
theorem dX7_swaps_44 : decode cX7_swaps 44 = .ok (.bipush 62, 2) := by decide +kernel
theorem dX7_swaps_46 : decode cX7_swaps 46 = .ok (.bipush 6, 2) := by decide +kernel
theorem dX7_swaps_48 : decode cX7_swaps 48 = .ok (.iload_n 2, 1) := by decide +kernel
theorem dX7_swaps_49 : decode cX7_swaps 49 = .ok (.imul, 1) := by decide +kernel
theorem dX7_swaps_50 : decode cX7_swaps 50 = .ok (.iadd, 1) := by decide +kernel
theorem dX7_swaps_51 : decode cX7_swaps 51 = .ok (.iload_n 3, 1) := by decide +kernel
theorem dX7_swaps_52 : decode cX7_swaps 52 = .ok (.iadd, 1) := by decide +kernel
theorem dX7_swaps_53 : decode cX7_swaps 53 = .ok (.iload 4, 2) := by decide +kernel
theorem dX7_swaps_55 : decode cX7_swaps 55 = .ok (.iastore, 1) := by decide +kernel
theorem dX7_swaps_56 : decode cX7_swaps 56 = .ok (.iinc 3 1, 3) := by decide +kernel
theorem dX7_swaps_59 : decode cX7_swaps 59 = .ok (.goto (-57), 3) := by decide +kernel
theorem dX7_swaps_62 : decode cX7_swaps 62 = .ok (.return_, 1) := by decide +kernel
theorem dX7_swap_0 : decode cX7_swap 0 = .ok (.aload_n 0, 1) := by decide +kernel
theorem dX7_swap_1 : decode cX7_swap 1 = .ok (.iload_n 1, 1) := by decide +kernel
theorem dX7_swap_2 : decode cX7_swap 2 = .ok (.invokevirtual 232, 3) := by decide +kernel
theorem dX7_swap_5 : decode cX7_swap 5 = .ok (.ifCond .eq 11, 3) := by decide +kernel
theorem dX7_swap_8 : decode cX7_swap 8 = .ok (.aload_n 0, 1) := by decide +kernel
theorem dX7_swap_9 : decode cX7_swap 9 = .ok (.iload_n 2, 1) := by decide +kernel
theorem dX7_swap_10 : decode cX7_swap 10 = .ok (.invokevirtual 232, 3) := by decide +kernel
theorem dX7_swap_13 : decode cX7_swap 13 = .ok (.ifCond .ne 6, 3) := by decide +kernel
theorem dX7_swap_16 : decode cX7_swap 16 = .ok (.ldc 70, 2) := by decide +kernel
theorem dX7_swap_18 : decode cX7_swap 18 = .ok (.ireturn, 1) := by decide +kernel
theorem dX7_swap_19 : decode cX7_swap 19 = .ok (.iload_n 1, 1) := by decide +kernel
theorem dX7_swap_20 : decode cX7_swap 20 = .ok (.iload_n 2, 1) := by decide +kernel
theorem dX7_swap_21 : decode cX7_swap 21 = .ok (.if_icmp .ne 6, 3) := by decide +kernel
theorem dX7_swap_24 : decode cX7_swap 24 = .ok (.ldc 238, 2) := by decide +kernel
theorem dX7_swap_26 : decode cX7_swap 26 = .ok (.ireturn, 1) := by decide +kernel
theorem dX7_swap_27 : decode cX7_swap 27 = .ok (.aload_n 0, 1) := by decide +kernel
theorem dX7_swap_28 : decode cX7_swap 28 = .ok (.invokevirtual 229, 3) := by decide +kernel
theorem dX7_swap_31 : decode cX7_swap 31 = .ok (.aload_n 0, 1) := by decide +kernel
theorem dX7_swap_32 : decode cX7_swap 32 = .ok (.getfield 25, 3) := by decide +kernel
theorem dX7_swap_35 : decode cX7_swap 35 = .ok (.iload_n 1, 1) := by decide +kernel
theorem dX7_swap_36 : decode cX7_swap 36 = .ok (.iload_n 2, 1) := by decide +kernel
theorem dX7_swap_37 : decode cX7_swap 37 = .ok (.invokestatic 239, 3) := by decide +kernel
theorem dX7_swap_40 : decode cX7_swap 40 = .ok (.iload_n 1, 1) := by decide +kernel
theorem dX7_swap_41 : decode cX7_swap 41 = .ok (.iload_n 2, 1) := by decide +kernel
theorem dX7_swap_42 : decode cX7_swap 42 = .ok (.if_icmp .ge 9, 3) := by decide +kernel
theorem dX7_swap_45 : decode cX7_swap 45 = .ok (.iload_n 2, 1) := by decide +kernel
theorem dX7_swap_46 : decode cX7_swap 46 = .ok (.iload_n 1, 1) := by decide +kernel
theorem dX7_swap_47 : decode cX7_swap 47 = .ok (.isub, 1) := by decide +kernel
theorem dX7_swap_48 : decode cX7_swap 48 = .ok (.goto 6, 3) := by decide +kernel
theorem dX7_swap_51 : decode cX7_swap 51 = .ok (.iload_n 1, 1) := by decide +kernel
theorem dX7_swap_52 : decode cX7_swap 52 = .ok (.iload_n 2, 1) := by decide +kernel
theorem dX7_swap_53 : decode cX7_swap 53 = .ok (.isub, 1) := by decide +kernel
theorem dX7_swap_54 : decode cX7_swap 54 = .ok (.iconst 1, 1) := by decide +kernel
theorem dX7_swap_55 : decode cX7_swap 55 = .ok (.iadd, 1) := by decide +kernel
theorem dX7_swap_56 : decode cX7_swap 56 = .ok (.ireturn, 1) := by decide +kernel
theorem dX7_state_0 : decode cX7_state 0 = .ok (.aload_n 0, 1) := by decide +kernel
theorem dX7_state_1 : decode cX7_state 1 = .ok (.iload_n 1, 1) := by decide +kernel
theorem dX7_state_2 : decode cX7_state 2 = .ok (.invokevirtual 242, 3) := by decide +kernel
theorem dX7_state_5 : decode cX7_state 5 = .ok (.ifCond .eq 26, 3) := by decide +kernel
theorem dX7_state_8 : decode cX7_state 8 = .ok (.iload_n 2, 1) := by decide +kernel
theorem dX7_state_9 : decode cX7_state 9 = .ok (.iconst 0, 1) := by decide +kernel
theorem dX7_state_10 : decode cX7_state 10 = .ok (.aload_n 0, 1) := by decide +kernel
theorem dX7_state_11 : decode cX7_state 11 = .ok (.getfield 25, 3) := by decide +kernel
theorem dX7_state_14 : decode cX7_state 14 = .ok (.iconst 2, 1) := by decide +kernel
theorem dX7_state_15 : decode cX7_state 15 = .ok (.bipush 10, 2) := by decide +kernel
theorem dX7_state_17 : decode cX7_state 17 = .ok (.iload_n 1, 1) := by decide +kernel
theorem dX7_state_18 : decode cX7_state 18 = .ok (.imul, 1) := by decide +kernel
theorem dX7_state_19 : decode cX7_state 19 = .ok (.iadd, 1) := by decide +kernel
theorem dX7_state_20 : decode cX7_state 20 = .ok (.iconst 1, 1) := by decide +kernel
theorem dX7_state_21 : decode cX7_state 21 = .ok (.iadd, 1) := by decide +kernel
theorem dX7_state_22 : decode cX7_state 22 = .ok (.iaload, 1) := by decide +kernel
theorem dX7_state_23 : decode cX7_state 23 = .ok (.iconst 1, 1) := by decide +kernel
theorem dX7_state_24 : decode cX7_state 24 = .ok (.isub, 1) := by decide +kernel
theorem dX7_state_25 : decode cX7_state 25 = .ok (.invokestatic 62, 3) := by decide +kernel
theorem dX7_state_28 : decode cX7_state 28 = .ok (.ifCond .ne 6, 3) := by decide +kernel
theorem dX7_state_31 : decode cX7_state 31 = .ok (.ldc 70, 2) := by decide +kernel
theorem dX7_state_33 : decode cX7_state 33 = .ok (.ireturn, 1) := by decide +kernel
theorem dX7_state_34 : decode cX7_state 34 = .ok (.iload_n 3, 1) := by decide +kernel
theorem dX7_state_35 : decode cX7_state 35 = .ok (.ifCond .ne 14, 3) := by decide +kernel
theorem dX7_state_38 : decode cX7_state 38 = .ok (.iload 4, 2) := by decide +kernel
theorem dX7_state_40 : decode cX7_state 40 = .ok (.iconst 1, 1) := by decide +kernel
theorem dX7_state_41 : decode cX7_state 41 = .ok (.bipush 99, 2) := by decide +kernel
theorem dX7_state_43 : decode cX7_state 43 = .ok (.invokestatic 62, 3) := by decide +kernel
theorem dX7_state_46 : decode cX7_state 46 = .ok (.goto 38, 3) := by decide +kernel
theorem dX7_state_49 : decode cX7_state 49 = .ok (.iload_n 3, 1) := by decide +kernel
theorem dX7_state_50 : decode cX7_state 50 = .ok (.iconst 1, 1) := by decide +kernel
theorem dX7_state_51 : decode cX7_state 51 = .ok (.if_icmp .ne 12, 3) := by decide +kernel
theorem dX7_state_54 : decode cX7_state 54 = .ok (.aload_n 0, 1) := by decide +kernel
theorem dX7_state_55 : decode cX7_state 55 = .ok (.iload 4, 2) := by decide +kernel
theorem dX7_state_57 : decode cX7_state 57 = .ok (.invokevirtual 242, 3) := by decide +kernel
theorem dX7_state_60 : decode cX7_state 60 = .ok (.goto 24, 3) := by decide +kernel
theorem dX7_state_63 : decode cX7_state 63 = .ok (.iload_n 3, 1) := by decide +kernel
theorem dX7_state_64 : decode cX7_state 64 = .ok (.iconst 2, 1) := by decide +kernel
theorem dX7_state_65 : decode cX7_state 65 = .ok (.if_icmp .ne 18, 3) := by decide +kernel
theorem dX7_state_68 : decode cX7_state 68 = .ok (.iload 4, 2) := by decide +kernel
theorem dX7_state_70 : decode cX7_state 70 = .ok (.iconst 1, 1) := by decide +kernel
theorem dX7_state_71 : decode cX7_state 71 = .ok (.bipush 9, 2) := by decide +kernel
theorem dX7_state_73 : decode cX7_state 73 = .ok (.invokestatic 62, 3) := by decide +kernel
theorem dX7_state_76 : decode cX7_state 76 = .ok (.ifCond .eq 7, 3) := by decide +kernel
theorem dX7_state_79 : decode cX7_state 79 = .ok (.iconst 1, 1) := by decide +kernel
theorem dX7_state_80 : decode cX7_state 80 = .ok (.goto 4, 3) := by decide +kernel
theorem dX7_state_83 : decode cX7_state 83 = .ok (.iconst 0, 1) := by decide +kernel
theorem dX7_state_84 : decode cX7_state 84 = .ok (.istore 5, 2) := by decide +kernel
theorem dX7_state_86 : decode cX7_state 86 = .ok (.iload 5, 2) := by decide +kernel
theorem dX7_state_88 : decode cX7_state 88 = .ok (.ifCond .ne 6, 3) := by decide +kernel
theorem dX7_state_91 : decode cX7_state 91 = .ok (.ldc 70, 2) := by decide +kernel
theorem dX7_state_93 : decode cX7_state 93 = .ok (.ireturn, 1) := by decide +kernel
theorem dX7_state_94 : decode cX7_state 94 = .ok (.iconst 2, 1) := by decide +kernel
theorem dX7_state_95 : decode cX7_state 95 = .ok (.bipush 10, 2) := by decide +kernel
theorem dX7_state_97 : decode cX7_state 97 = .ok (.iload_n 1, 1) := by decide +kernel
theorem dX7_state_98 : decode cX7_state 98 = .ok (.imul, 1) := by decide +kernel
theorem dX7_state_99 : decode cX7_state 99 = .ok (.iadd, 1) := by decide +kernel
theorem dX7_state_100 : decode cX7_state 100 = .ok (.iconst 2, 1) := by decide +kernel
theorem dX7_state_101 : decode cX7_state 101 = .ok (.iadd, 1) := by decide +kernel
theorem dX7_state_102 : decode cX7_state 102 = .ok (.iconst 2, 1) := by decide +kernel
theorem dX7_state_103 : decode cX7_state 103 = .ok (.iload_n 2, 1) := by decide +kernel
theorem dX7_state_104 : decode cX7_state 104 = .ok (.imul, 1) := by decide +kernel
theorem dX7_state_105 : decode cX7_state 105 = .ok (.iadd, 1) := by decide +kernel
theorem dX7_state_106 : decode cX7_state 106 = .ok (.istore 6, 2) := by decide +kernel
theorem dX7_state_108 : decode cX7_state 108 = .ok (.aload_n 0, 1) := by decide +kernel
theorem dX7_state_109 : decode cX7_state 109 = .ok (.iload 6, 2) := by decide +kernel
theorem dX7_state_111 : decode cX7_state 111 = .ok (.iload_n 3, 1) := by decide +kernel
theorem dX7_state_112 : decode cX7_state 112 = .ok (.invokevirtual 235, 3) := by decide +kernel
theorem dX7_state_115 : decode cX7_state 115 = .ok (.istore 7, 2) := by decide +kernel
theorem dX7_state_117 : decode cX7_state 117 = .ok (.aload_n 0, 1) := by decide +kernel
theorem dX7_state_118 : decode cX7_state 118 = .ok (.getfield 25, 3) := by decide +kernel
theorem dX7_state_121 : decode cX7_state 121 = .ok (.iload 6, 2) := by decide +kernel
theorem dX7_state_123 : decode cX7_state 123 = .ok (.iconst 1, 1) := by decide +kernel
theorem dX7_state_124 : decode cX7_state 124 = .ok (.iadd, 1) := by decide +kernel
theorem dX7_state_125 : decode cX7_state 125 = .ok (.iload 4, 2) := by decide +kernel
theorem dX7_state_127 : decode cX7_state 127 = .ok (.iastore, 1) := by decide +kernel
theorem dX7_state_128 : decode cX7_state 128 = .ok (.iload 7, 2) := by decide +kernel
theorem dX7_state_130 : decode cX7_state 130 = .ok (.ireturn, 1) := by decide +kernel
theorem dX7_belong_0 : decode cX7_belong 0 = .ok (.aload_n 0, 1) := by decide +kernel
theorem dX7_belong_1 : decode cX7_belong 1 = .ok (.iload_n 1, 1) := by decide +kernel
theorem dX7_belong_2 : decode cX7_belong 2 = .ok (.invokevirtual 242, 3) := by decide +kernel
theorem dX7_belong_5 : decode cX7_belong 5 = .ok (.ifCond .eq 12, 3) := by decide +kernel
theorem dX7_belong_8 : decode cX7_belong 8 = .ok (.iload_n 2, 1) := by decide +kernel
theorem dX7_belong_9 : decode cX7_belong 9 = .ok (.iconst 0, 1) := by decide +kernel
theorem dX7_belong_10 : decode cX7_belong 10 = .ok (.iconst 3, 1) := by decide +kernel
theorem dX7_belong_11 : decode cX7_belong 11 = .ok (.invokestatic 62, 3) := by decide +kernel
theorem dX7_belong_14 : decode cX7_belong 14 = .ok (.ifCond .ne 6, 3) := by decide +kernel
theorem dX7_belong_17 : decode cX7_belong 17 = .ok (.ldc 70, 2) := by decide +kernel
theorem dX7_belong_19 : decode cX7_belong 19 = .ok (.ireturn, 1) := by decide +kernel
theorem dX7_belong_20 : decode cX7_belong 20 = .ok (.aload_n 0, 1) := by decide +kernel
theorem dX7_belong_21 : decode cX7_belong 21 = .ok (.getfield 25, 3) := by decide +kernel
theorem dX7_belong_24 : decode cX7_belong 24 = .ok (.iconst 2, 1) := by decide +kernel
theorem dX7_belong_25 : decode cX7_belong 25 = .ok (.bipush 10, 2) := by decide +kernel
theorem dX7_belong_27 : decode cX7_belong 27 = .ok (.iload_n 1, 1) := by decide +kernel
theorem dX7_belong_28 : decode cX7_belong 28 = .ok (.imul, 1) := by decide +kernel
theorem dX7_belong_29 : decode cX7_belong 29 = .ok (.iadd, 1) := by decide +kernel
theorem dX7_belong_30 : decode cX7_belong 30 = .ok (.iaload, 1) := by decide +kernel
theorem dX7_belong_31 : decode cX7_belong 31 = .ok (.iload_n 2, 1) := by decide +kernel
theorem dX7_belong_32 : decode cX7_belong 32 = .ok (.if_icmp .ne 8, 3) := by decide +kernel
theorem dX7_belong_35 : decode cX7_belong 35 = .ok (.ldc 238, 2) := by decide +kernel
theorem dX7_belong_37 : decode cX7_belong 37 = .ok (.goto 14, 3) := by decide +kernel
theorem dX7_belong_40 : decode cX7_belong 40 = .ok (.aload_n 0, 1) := by decide +kernel
theorem dX7_belong_41 : decode cX7_belong 41 = .ok (.iconst 2, 1) := by decide +kernel
theorem dX7_belong_42 : decode cX7_belong 42 = .ok (.bipush 10, 2) := by decide +kernel
theorem dX7_belong_44 : decode cX7_belong 44 = .ok (.iload_n 1, 1) := by decide +kernel
theorem dX7_belong_45 : decode cX7_belong 45 = .ok (.imul, 1) := by decide +kernel
theorem dX7_belong_46 : decode cX7_belong 46 = .ok (.iadd, 1) := by decide +kernel
theorem dX7_belong_47 : decode cX7_belong 47 = .ok (.iload_n 2, 1) := by decide +kernel
theorem dX7_belong_48 : decode cX7_belong 48 = .ok (.invokevirtual 235, 3) := by decide +kernel
theorem dX7_belong_51 : decode cX7_belong 51 = .ok (.ireturn, 1) := by decide +kernel
theorem dX7_undo_0 : decode cX7_undo 0 = .ok (.aload_n 0, 1) := by decide +kernel
theorem dX7_undo_1 : decode cX7_undo 1 = .ok (.getfield 155, 3) := by decide +kernel
theorem dX7_undo_4 : decode cX7_undo 4 = .ok (.ifCond .ne 6, 3) := by decide +kernel
theorem dX7_undo_7 : decode cX7_undo 7 = .ok (.ldc 238, 2) := by decide +kernel
theorem dX7_undo_9 : decode cX7_undo 9 = .ok (.ireturn, 1) := by decide +kernel
theorem dX7_undo_10 : decode cX7_undo 10 = .ok (.aload_n 0, 1) := by decide +kernel
theorem dX7_undo_11 : decode cX7_undo 11 = .ok (.dup, 1) := by decide +kernel
theorem dX7_undo_12 : decode cX7_undo 12 = .ok (.getfield 155, 3) := by decide +kernel
theorem dX7_undo_15 : decode cX7_undo 15 = .ok (.iconst 1, 1) := by decide +kernel
theorem dX7_undo_16 : decode cX7_undo 16 = .ok (.isub, 1) := by decide +kernel
theorem dX7_undo_17 : decode cX7_undo 17 = .ok (.putfield 155, 3) := by decide +kernel
theorem dX7_undo_20 : decode cX7_undo 20 = .ok (.aload_n 0, 1) := by decide +kernel
theorem dX7_undo_21 : decode cX7_undo 21 = .ok (.getfield 34, 3) := by decide +kernel
theorem dX7_undo_24 : decode cX7_undo 24 = .ok (.bipush 92, 2) := by decide +kernel
theorem dX7_undo_26 : decode cX7_undo 26 = .ok (.aload_n 0, 1) := by decide +kernel
theorem dX7_undo_27 : decode cX7_undo 27 = .ok (.getfield 155, 3) := by decide +kernel
theorem dX7_undo_30 : decode cX7_undo 30 = .ok (.imul, 1) := by decide +kernel
theorem dX7_undo_31 : decode cX7_undo 31 = .ok (.aload_n 0, 1) := by decide +kernel
theorem dX7_undo_32 : decode cX7_undo 32 = .ok (.getfield 25, 3) := by decide +kernel
theorem dX7_undo_35 : decode cX7_undo 35 = .ok (.iconst 0, 1) := by decide +kernel
theorem dX7_undo_36 : decode cX7_undo 36 = .ok (.invokestatic 151, 3) := by decide +kernel
theorem dX7_undo_39 : decode cX7_undo 39 = .ok (.aload_n 0, 1) := by decide +kernel
theorem dX7_undo_40 : decode cX7_undo 40 = .ok (.getfield 155, 3) := by decide +kernel
theorem dX7_undo_43 : decode cX7_undo 43 = .ok (.ireturn, 1) := by decide +kernel
theorem dX7_method_0 : decode cX7_method 0 = .ok (.aload_n 0, 1) := by decide +kernel
theorem dX7_method_1 : decode cX7_method 1 = .ok (.iload_n 1, 1) := by decide +kernel
theorem dX7_method_2 : decode cX7_method 2 = .ok (.invokevirtual 242, 3) := by decide +kernel
theorem dX7_method_5 : decode cX7_method 5 = .ok (.ifCond .ne 6, 3) := by decide +kernel
theorem dX7_method_8 : decode cX7_method 8 = .ok (.ldc 70, 2) := by decide +kernel
theorem dX7_method_10 : decode cX7_method 10 = .ok (.ireturn, 1) := by decide +kernel
theorem dX7_method_11 : decode cX7_method 11 = .ok (.iconst 2, 1) := by decide +kernel
theorem dX7_method_12 : decode cX7_method 12 = .ok (.bipush 10, 2) := by decide +kernel
theorem dX7_method_14 : decode cX7_method 14 = .ok (.iload_n 1, 1) := by decide +kernel
theorem dX7_method_15 : decode cX7_method 15 = .ok (.imul, 1) := by decide +kernel
theorem dX7_method_16 : decode cX7_method 16 = .ok (.iadd, 1) := by decide +kernel
theorem dX7_method_17 : decode cX7_method 17 = .ok (.istore_n 3, 1) := by decide +kernel
theorem dX7_method_18 : decode cX7_method 18 = .ok (.iload_n 2, 1) := by decide +kernel
theorem dX7_method_19 : decode cX7_method 19 = .ok (.iconst 3, 1) := by decide +kernel
theorem dX7_method_20 : decode cX7_method 20 = .ok (.if_icmp .ge 42, 3) := by decide +kernel
theorem dX7_method_23 : decode cX7_method 23 = .ok (.iload_n 2, 1) := by decide +kernel
theorem dX7_method_24 : decode cX7_method 24 = .ok (.ifCond .eq 8, 3) := by decide +kernel
theorem dX7_method_27 : decode cX7_method 27 = .ok (.iload_n 2, 1) := by decide +kernel
theorem dX7_method_28 : decode cX7_method 28 = .ok (.iconst 1, 1) := by decide +kernel
theorem dX7_method_29 : decode cX7_method 29 = .ok (.if_icmp .ne 14, 3) := by decide +kernel
theorem dX7_method_32 : decode cX7_method 32 = .ok (.aload_n 0, 1) := by decide +kernel
theorem dX7_method_33 : decode cX7_method 33 = .ok (.getfield 25, 3) := by decide +kernel
theorem dX7_method_36 : decode cX7_method 36 = .ok (.iload_n 3, 1) := by decide +kernel
theorem dX7_method_37 : decode cX7_method 37 = .ok (.iload_n 2, 1) := by decide +kernel
theorem dX7_method_38 : decode cX7_method 38 = .ok (.iadd, 1) := by decide +kernel
theorem dX7_method_39 : decode cX7_method 39 = .ok (.iaload, 1) := by decide +kernel
theorem dX7_method_40 : decode cX7_method 40 = .ok (.goto 21, 3) := by decide +kernel
theorem dX7_method_43 : decode cX7_method 43 = .ok (.iload_n 2, 1) := by decide +kernel
theorem dX7_method_44 : decode cX7_method 44 = .ok (.iconst 2, 1) := by decide +kernel
theorem dX7_method_45 : decode cX7_method 45 = .ok (.if_icmp .ne 14, 3) := by decide +kernel
theorem dX7_method_48 : decode cX7_method 48 = .ok (.aload_n 0, 1) := by decide +kernel
theorem dX7_method_49 : decode cX7_method 49 = .ok (.getfield 25, 3) := by decide +kernel
theorem dX7_method_52 : decode cX7_method 52 = .ok (.iload_n 1, 1) := by decide +kernel
theorem dX7_method_53 : decode cX7_method 53 = .ok (.invokestatic 169, 3) := by decide +kernel
theorem dX7_method_56 : decode cX7_method 56 = .ok (.goto 5, 3) := by decide +kernel
theorem dX7_method_59 : decode cX7_method 59 = .ok (.ldc 70, 2) := by decide +kernel
theorem dX7_method_61 : decode cX7_method 61 = .ok (.ireturn, 1) := by decide +kernel
theorem dX7_method_62 : decode cX7_method 62 = .ok (.iload_n 2, 1) := by decide +kernel
theorem dX7_method_63 : decode cX7_method 63 = .ok (.bipush 10, 2) := by decide +kernel
theorem dX7_method_65 : decode cX7_method 65 = .ok (.bipush 13, 2) := by decide +kernel
theorem dX7_method_67 : decode cX7_method 67 = .ok (.invokestatic 62, 3) := by decide +kernel
theorem dX7_method_70 : decode cX7_method 70 = .ok (.ifCond .ne 17, 3) := by decide +kernel
theorem dX7_method_73 : decode cX7_method 73 = .ok (.iload_n 2, 1) := by decide +kernel
theorem dX7_method_74 : decode cX7_method 74 = .ok (.bipush 20, 2) := by decide +kernel
theorem dX7_method_76 : decode cX7_method 76 = .ok (.bipush 23, 2) := by decide +kernel
theorem dX7_method_78 : decode cX7_method 78 = .ok (.invokestatic 62, 3) := by decide +kernel
theorem dX7_method_81 : decode cX7_method 81 = .ok (.ifCond .ne 6, 3) := by decide +kernel
theorem dX7_method_84 : decode cX7_method 84 = .ok (.ldc 70, 2) := by decide +kernel
theorem dX7_method_86 : decode cX7_method 86 = .ok (.ireturn, 1) := by decide +kernel
theorem dX7_method_87 : decode cX7_method 87 = .ok (.iload_n 2, 1) := by decide +kernel
theorem dX7_method_88 : decode cX7_method 88 = .ok (.bipush 10, 2) := by decide +kernel
theorem dX7_method_90 : decode cX7_method 90 = .ok (.irem, 1) := by decide +kernel
theorem dX7_method_91 : decode cX7_method 91 = .ok (.istore 4, 2) := by decide +kernel
theorem dX7_method_93 : decode cX7_method 93 = .ok (.iload 4, 2) := by decide +kernel
theorem dX7_method_95 : decode cX7_method 95 = .ok (.aload_n 0, 1) := by decide +kernel
theorem dX7_method_96 : decode cX7_method 96 = .ok (.getfield 25, 3) := by decide +kernel
theorem dX7_method_99 : decode cX7_method 99 = .ok (.iload_n 3, 1) := by decide +kernel
theorem dX7_method_100 : decode cX7_method 100 = .ok (.iconst 1, 1) := by decide +kernel
theorem dX7_method_101 : decode cX7_method 101 = .ok (.iadd, 1) := by decide +kernel
theorem dX7_method_102 : decode cX7_method 102 = .ok (.iaload, 1) := by decide +kernel
theorem dX7_method_103 : decode cX7_method 103 = .ok (.if_icmp .ge 24, 3) := by decide +kernel
theorem dX7_method_106 : decode cX7_method 106 = .ok (.aload_n 0, 1) := by decide +kernel
theorem dX7_method_107 : decode cX7_method 107 = .ok (.getfield 25, 3) := by decide +kernel
theorem dX7_method_110 : decode cX7_method 110 = .ok (.iload_n 3, 1) := by decide +kernel
theorem dX7_method_111 : decode cX7_method 111 = .ok (.iconst 2, 1) := by decide +kernel
theorem dX7_method_112 : decode cX7_method 112 = .ok (.iadd, 1) := by decide +kernel
theorem dX7_method_113 : decode cX7_method 113 = .ok (.iconst 2, 1) := by decide +kernel
theorem dX7_method_114 : decode cX7_method 114 = .ok (.iload 4, 2) := by decide +kernel
theorem dX7_method_116 : decode cX7_method 116 = .ok (.imul, 1) := by decide +kernel
theorem dX7_method_117 : decode cX7_method 117 = .ok (.iadd, 1) := by decide +kernel
theorem dX7_method_118 : decode cX7_method 118 = .ok (.iload_n 2, 1) := by decide +kernel
theorem dX7_method_119 : decode cX7_method 119 = .ok (.bipush 20, 2) := by decide +kernel
theorem dX7_method_121 : decode cX7_method 121 = .ok (.idiv, 1) := by decide +kernel
theorem dX7_method_122 : decode cX7_method 122 = .ok (.iadd, 1) := by decide +kernel
theorem dX7_method_123 : decode cX7_method 123 = .ok (.iaload, 1) := by decide +kernel
theorem dX7_method_124 : decode cX7_method 124 = .ok (.goto 5, 3) := by decide +kernel
theorem dX7_method_127 : decode cX7_method 127 = .ok (.ldc 56, 2) := by decide +kernel
theorem dX7_method_129 : decode cX7_method 129 = .ok (.ireturn, 1) := by decide +kernel
theorem dX7_advice_0 : decode cX7_advice 0 = .ok (.aload_n 0, 1) := by decide +kernel
theorem dX7_advice_1 : decode cX7_advice 1 = .ok (.iload_n 1, 1) := by decide +kernel
theorem dX7_advice_2 : decode cX7_advice 2 = .ok (.invokevirtual 232, 3) := by decide +kernel
theorem dX7_advice_5 : decode cX7_advice 5 = .ok (.ifCond .eq 31, 3) := by decide +kernel
theorem dX7_advice_8 : decode cX7_advice 8 = .ok (.iload_n 2, 1) := by decide +kernel
theorem dX7_advice_9 : decode cX7_advice 9 = .ok (.iconst 0, 1) := by decide +kernel
theorem dX7_advice_10 : decode cX7_advice 10 = .ok (.iconst 4, 1) := by decide +kernel
theorem dX7_advice_11 : decode cX7_advice 11 = .ok (.invokestatic 62, 3) := by decide +kernel
theorem dX7_advice_14 : decode cX7_advice 14 = .ok (.ifCond .eq 22, 3) := by decide +kernel
theorem dX7_advice_17 : decode cX7_advice 17 = .ok (.aload_n 0, 1) := by decide +kernel
theorem dX7_advice_18 : decode cX7_advice 18 = .ok (.getfield 25, 3) := by decide +kernel
theorem dX7_advice_21 : decode cX7_advice 21 = .ok (.bipush 62, 2) := by decide +kernel
theorem dX7_advice_23 : decode cX7_advice 23 = .ok (.bipush 6, 2) := by decide +kernel
theorem dX7_advice_25 : decode cX7_advice 25 = .ok (.iload_n 1, 1) := by decide +kernel
theorem dX7_advice_26 : decode cX7_advice 26 = .ok (.imul, 1) := by decide +kernel
theorem dX7_advice_27 : decode cX7_advice 27 = .ok (.iadd, 1) := by decide +kernel
theorem dX7_advice_28 : decode cX7_advice 28 = .ok (.iconst 1, 1) := by decide +kernel
theorem dX7_advice_29 : decode cX7_advice 29 = .ok (.iadd, 1) := by decide +kernel
theorem dX7_advice_30 : decode cX7_advice 30 = .ok (.iload_n 2, 1) := by decide +kernel
theorem dX7_advice_31 : decode cX7_advice 31 = .ok (.iadd, 1) := by decide +kernel
theorem dX7_advice_32 : decode cX7_advice 32 = .ok (.iaload, 1) := by decide +kernel
theorem dX7_advice_33 : decode cX7_advice 33 = .ok (.goto 5, 3) := by decide +kernel
theorem dX7_advice_36 : decode cX7_advice 36 = .ok (.ldc 70, 2) := by decide +kernel
theorem dX7_advice_38 : decode cX7_advice 38 = .ok (.ireturn, 1) := by decide +kernel
theorem dX7_ahead_0 : decode cX7_ahead 0 = .ok (.aload_n 0, 1) := by decide +kernel
theorem dX7_ahead_1 : decode cX7_ahead 1 = .ok (.iload_n 1, 1) := by decide +kernel
theorem dX7_ahead_2 : decode cX7_ahead 2 = .ok (.invokevirtual 242, 3) := by decide +kernel
theorem dX7_ahead_5 : decode cX7_ahead 5 = .ok (.ifCond .eq 23, 3) := by decide +kernel
theorem dX7_ahead_8 : decode cX7_ahead 8 = .ok (.aload_n 0, 1) := by decide +kernel
theorem dX7_ahead_9 : decode cX7_ahead 9 = .ok (.iload_n 2, 1) := by decide +kernel
theorem dX7_ahead_10 : decode cX7_ahead 10 = .ok (.invokevirtual 232, 3) := by decide +kernel
theorem dX7_ahead_13 : decode cX7_ahead 13 = .ok (.ifCond .eq 15, 3) := by decide +kernel
theorem dX7_ahead_16 : decode cX7_ahead 16 = .ok (.aload_n 0, 1) := by decide +kernel
theorem dX7_ahead_17 : decode cX7_ahead 17 = .ok (.getfield 25, 3) := by decide +kernel
theorem dX7_ahead_20 : decode cX7_ahead 20 = .ok (.iload_n 1, 1) := by decide +kernel
theorem dX7_ahead_21 : decode cX7_ahead 21 = .ok (.iload_n 2, 1) := by decide +kernel
theorem dX7_ahead_22 : decode cX7_ahead 22 = .ok (.invokestatic 196, 3) := by decide +kernel
theorem dX7_ahead_25 : decode cX7_ahead 25 = .ok (.goto 5, 3) := by decide +kernel
theorem dX7_ahead_28 : decode cX7_ahead 28 = .ok (.ldc 70, 2) := by decide +kernel
theorem dX7_ahead_30 : decode cX7_ahead 30 = .ok (.ireturn, 1) := by decide +kernel
theorem dX7_run_0 : decode cX7_run 0 = .ok (.aload_n 0, 1) := by decide +kernel
theorem dX7_run_1 : decode cX7_run 1 = .ok (.iload_n 1, 1) := by decide +kernel
theorem dX7_run_2 : decode cX7_run 2 = .ok (.invokevirtual 242, 3) := by decide +kernel
theorem dX7_run_5 : decode cX7_run 5 = .ok (.ifCond .eq 19, 3) := by decide +kernel
theorem dX7_run_8 : decode cX7_run 8 = .ok (.iload_n 2, 1) := by decide +kernel
theorem dX7_run_9 : decode cX7_run 9 = .ok (.iconst 0, 1) := by decide +kernel
theorem dX7_run_10 : decode cX7_run 10 = .ok (.bipush 9, 2) := by decide +kernel
theorem dX7_run_12 : decode cX7_run 12 = .ok (.invokestatic 62, 3) := by decide +kernel
theorem dX7_run_15 : decode cX7_run 15 = .ok (.ifCond .eq 9, 3) := by decide +kernel
theorem dX7_run_18 : decode cX7_run 18 = .ok (.iload_n 3, 1) := by decide +kernel
theorem dX7_run_19 : decode cX7_run 19 = .ok (.bipush (-5), 2) := by decide +kernel
theorem dX7_run_21 : decode cX7_run 21 = .ok (.if_icmp .ge 6, 3) := by decide +kernel
theorem dX7_run_24 : decode cX7_run 24 = .ok (.ldc 70, 2) := by decide +kernel
theorem dX7_run_26 : decode cX7_run 26 = .ok (.ireturn, 1) := by decide +kernel
theorem dX7_run_27 : decode cX7_run 27 = .ok (.aload_n 0, 1) := by decide +kernel
theorem dX7_run_28 : decode cX7_run 28 = .ok (.aload_n 0, 1) := by decide +kernel
theorem dX7_run_29 : decode cX7_run 29 = .ok (.getfield 25, 3) := by decide +kernel
theorem dX7_run_32 : decode cX7_run 32 = .ok (.iload_n 1, 1) := by decide +kernel
theorem dX7_run_33 : decode cX7_run 33 = .ok (.iload_n 2, 1) := by decide +kernel
theorem dX7_run_34 : decode cX7_run 34 = .ok (.invokevirtual 245, 3) := by decide +kernel
theorem dX7_run_37 : decode cX7_run 37 = .ok (.aload_n 0, 1) := by decide +kernel
theorem dX7_run_38 : decode cX7_run 38 = .ok (.getfield 179, 3) := by decide +kernel
theorem dX7_run_41 : decode cX7_run 41 = .ok (.ifCond .eq 6, 3) := by decide +kernel
theorem dX7_run_44 : decode cX7_run 44 = .ok (.ldc 91, 2) := by decide +kernel
theorem dX7_run_46 : decode cX7_run 46 = .ok (.ireturn, 1) := by decide +kernel
theorem dX7_run_47 : decode cX7_run 47 = .ok (.iload_n 3, 1) := by decide +kernel
theorem dX7_run_48 : decode cX7_run 48 = .ok (.tableswitch 73 (-5) (-1) #[68, 63, 46, 41, 36], 36) := by decide +kernel
theorem dX7_run_84 : decode cX7_run 84 = .ok (.aload_n 0, 1) := by decide +kernel
theorem dX7_run_85 : decode cX7_run 85 = .ok (.getfield 176, 3) := by decide +kernel
theorem dX7_run_88 : decode cX7_run 88 = .ok (.ireturn, 1) := by decide +kernel
theorem dX7_run_89 : decode cX7_run 89 = .ok (.aload_n 0, 1) := by decide +kernel
theorem dX7_run_90 : decode cX7_run 90 = .ok (.getfield 204, 3) := by decide +kernel
theorem dX7_run_93 : decode cX7_run 93 = .ok (.ireturn, 1) := by decide +kernel
theorem dX7_run_94 : decode cX7_run 94 = .ok (.aload_n 0, 1) := by decide +kernel
theorem dX7_run_95 : decode cX7_run 95 = .ok (.getfield 204, 3) := by decide +kernel
theorem dX7_run_98 : decode cX7_run 98 = .ok (.ifCond .le 8, 3) := by decide +kernel
theorem dX7_run_101 : decode cX7_run 101 = .ok (.ldc 56, 2) := by decide +kernel
theorem dX7_run_103 : decode cX7_run 103 = .ok (.goto 7, 3) := by decide +kernel
theorem dX7_run_106 : decode cX7_run 106 = .ok (.aload_n 0, 1) := by decide +kernel
theorem dX7_run_107 : decode cX7_run 107 = .ok (.getfield 207, 3) := by decide +kernel
theorem dX7_run_110 : decode cX7_run 110 = .ok (.ireturn, 1) := by decide +kernel
theorem dX7_run_111 : decode cX7_run 111 = .ok (.aload_n 0, 1) := by decide +kernel
theorem dX7_run_112 : decode cX7_run 112 = .ok (.getfield 190, 3) := by decide +kernel
theorem dX7_run_115 : decode cX7_run 115 = .ok (.ireturn, 1) := by decide +kernel
theorem dX7_run_116 : decode cX7_run 116 = .ok (.aload_n 0, 1) := by decide +kernel
theorem dX7_run_117 : decode cX7_run 117 = .ok (.getfield 193, 3) := by decide +kernel
theorem dX7_run_120 : decode cX7_run 120 = .ok (.ireturn, 1) := by decide +kernel
theorem dX7_run_121 : decode cX7_run 121 = .ok (.iload_n 3, 1) := by decide +kernel
theorem dX7_run_122 : decode cX7_run 122 = .ok (.aload_n 0, 1) := by decide +kernel
theorem dX7_run_123 : decode cX7_run 123 = .ok (.getfield 176, 3) := by decide +kernel
theorem dX7_run_126 : decode cX7_run 126 = .ok (.if_icmp .ge 12, 3) := by decide +kernel
theorem dX7_run_129 : decode cX7_run 129 = .ok (.aload_n 0, 1) := by decide +kernel
theorem dX7_run_130 : decode cX7_run 130 = .ok (.getfield 50, 3) := by decide +kernel
theorem dX7_run_133 : decode cX7_run 133 = .ok (.iload_n 3, 1) := by decide +kernel
theorem dX7_run_134 : decode cX7_run 134 = .ok (.iaload, 1) := by decide +kernel
theorem dX7_run_135 : decode cX7_run 135 = .ok (.goto 5, 3) := by decide +kernel
theorem dX7_run_138 : decode cX7_run 138 = .ok (.ldc 56, 2) := by decide +kernel
theorem dX7_run_140 : decode cX7_run 140 = .ok (.ireturn, 1) := by decide +kernel
theorem dX7_least_0 : decode cX7_least 0 = .ok (.aload_n 0, 1) := by decide +kernel
theorem dX7_least_1 : decode cX7_least 1 = .ok (.iload_n 1, 1) := by decide +kernel
theorem dX7_least_2 : decode cX7_least 2 = .ok (.invokevirtual 242, 3) := by decide +kernel
theorem dX7_least_5 : decode cX7_least 5 = .ok (.ifCond .ne 6, 3) := by decide +kernel
theorem dX7_least_8 : decode cX7_least 8 = .ok (.ldc 70, 2) := by decide +kernel
theorem dX7_least_10 : decode cX7_least 10 = .ok (.ireturn, 1) := by decide +kernel
theorem dX7_least_11 : decode cX7_least 11 = .ok (.iconst 0, 1) := by decide +kernel
theorem dX7_least_12 : decode cX7_least 12 = .ok (.istore_n 2, 1) := by decide +kernel
theorem dX7_least_13 : decode cX7_least 13 = .ok (.iload_n 2, 1) := by decide +kernel
theorem dX7_least_14 : decode cX7_least 14 = .ok (.bipush 10, 2) := by decide +kernel
theorem dX7_least_16 : decode cX7_least 16 = .ok (.if_icmp .ge 35, 3) := by decide +kernel
theorem dX7_least_19 : decode cX7_least 19 = .ok (.aload_n 0, 1) := by decide +kernel
theorem dX7_least_20 : decode cX7_least 20 = .ok (.aload_n 0, 1) := by decide +kernel
theorem dX7_least_21 : decode cX7_least 21 = .ok (.getfield 25, 3) := by decide +kernel
theorem dX7_least_24 : decode cX7_least 24 = .ok (.iload_n 1, 1) := by decide +kernel
theorem dX7_least_25 : decode cX7_least 25 = .ok (.iload_n 2, 1) := by decide +kernel
theorem dX7_least_26 : decode cX7_least 26 = .ok (.invokevirtual 245, 3) := by decide +kernel
theorem dX7_least_29 : decode cX7_least 29 = .ok (.aload_n 0, 1) := by decide +kernel
theorem dX7_least_30 : decode cX7_least 30 = .ok (.getfield 179, 3) := by decide +kernel
theorem dX7_least_33 : decode cX7_least 33 = .ok (.ifCond .ne 12, 3) := by decide +kernel
theorem dX7_least_36 : decode cX7_least 36 = .ok (.aload_n 0, 1) := by decide +kernel
theorem dX7_least_37 : decode cX7_least 37 = .ok (.getfield 204, 3) := by decide +kernel
theorem dX7_least_40 : decode cX7_least 40 = .ok (.ifCond .le 5, 3) := by decide +kernel
theorem dX7_least_43 : decode cX7_least 43 = .ok (.iload_n 2, 1) := by decide +kernel
theorem dX7_least_44 : decode cX7_least 44 = .ok (.ireturn, 1) := by decide +kernel
theorem dX7_least_45 : decode cX7_least 45 = .ok (.iinc 2 1, 3) := by decide +kernel
theorem dX7_least_48 : decode cX7_least 48 = .ok (.goto (-35), 3) := by decide +kernel
theorem dX7_least_51 : decode cX7_least 51 = .ok (.ldc 56, 2) := by decide +kernel
theorem dX7_least_53 : decode cX7_least 53 = .ok (.ireturn, 1) := by decide +kernel
theorem dX7_needed_0 : decode cX7_needed 0 = .ok (.aload_n 0, 1) := by decide +kernel
theorem dX7_needed_1 : decode cX7_needed 1 = .ok (.iload_n 1, 1) := by decide +kernel
theorem dX7_needed_2 : decode cX7_needed 2 = .ok (.invokevirtual 242, 3) := by decide +kernel
theorem dX7_needed_5 : decode cX7_needed 5 = .ok (.ifCond .eq 13, 3) := by decide +kernel
theorem dX7_needed_8 : decode cX7_needed 8 = .ok (.iload_n 2, 1) := by decide +kernel
theorem dX7_needed_9 : decode cX7_needed 9 = .ok (.iconst 0, 1) := by decide +kernel
theorem dX7_needed_10 : decode cX7_needed 10 = .ok (.bipush 9, 2) := by decide +kernel
theorem dX7_needed_12 : decode cX7_needed 12 = .ok (.invokestatic 62, 3) := by decide +kernel
theorem dX7_needed_15 : decode cX7_needed 15 = .ok (.ifCond .ne 6, 3) := by decide +kernel
theorem dX7_needed_18 : decode cX7_needed 18 = .ok (.ldc 70, 2) := by decide +kernel
theorem dX7_needed_20 : decode cX7_needed 20 = .ok (.ireturn, 1) := by decide +kernel
theorem dX7_needed_21 : decode cX7_needed 21 = .ok (.aload_n 0, 1) := by decide +kernel
theorem dX7_needed_22 : decode cX7_needed 22 = .ok (.aload_n 0, 1) := by decide +kernel
theorem dX7_needed_23 : decode cX7_needed 23 = .ok (.getfield 25, 3) := by decide +kernel
theorem dX7_needed_26 : decode cX7_needed 26 = .ok (.iload_n 1, 1) := by decide +kernel
theorem dX7_needed_27 : decode cX7_needed 27 = .ok (.iload_n 2, 1) := by decide +kernel
theorem dX7_needed_28 : decode cX7_needed 28 = .ok (.invokevirtual 245, 3) := by decide +kernel
theorem dX7_needed_31 : decode cX7_needed 31 = .ok (.aload_n 0, 1) := by decide +kernel
theorem dX7_needed_32 : decode cX7_needed 32 = .ok (.getfield 179, 3) := by decide +kernel
theorem dX7_needed_35 : decode cX7_needed 35 = .ok (.ifCond .eq 6, 3) := by decide +kernel
theorem dX7_needed_38 : decode cX7_needed 38 = .ok (.ldc 91, 2) := by decide +kernel
theorem dX7_needed_40 : decode cX7_needed 40 = .ok (.ireturn, 1) := by decide +kernel
theorem dX7_needed_41 : decode cX7_needed 41 = .ok (.aload_n 0, 1) := by decide +kernel
theorem dX7_needed_42 : decode cX7_needed 42 = .ok (.getfield 176, 3) := by decide +kernel
theorem dX7_needed_45 : decode cX7_needed 45 = .ok (.istore_n 3, 1) := by decide +kernel
theorem dX7_needed_46 : decode cX7_needed 46 = .ok (.aload_n 0, 1) := by decide +kernel
theorem dX7_needed_47 : decode cX7_needed 47 = .ok (.getfield 204, 3) := by decide +kernel
theorem dX7_needed_50 : decode cX7_needed 50 = .ok (.istore 4, 2) := by decide +kernel
theorem dX7_needed_52 : decode cX7_needed 52 = .ok (.aload_n 0, 1) := by decide +kernel
theorem dX7_needed_53 : decode cX7_needed 53 = .ok (.getfield 207, 3) := by decide +kernel
theorem dX7_needed_56 : decode cX7_needed 56 = .ok (.istore 5, 2) := by decide +kernel
theorem dX7_needed_58 : decode cX7_needed 58 = .ok (.iconst 0, 1) := by decide +kernel
theorem dX7_needed_59 : decode cX7_needed 59 = .ok (.istore 6, 2) := by decide +kernel
theorem dX7_needed_61 : decode cX7_needed 61 = .ok (.iconst 0, 1) := by decide +kernel
theorem dX7_needed_62 : decode cX7_needed 62 = .ok (.istore 7, 2) := by decide +kernel
theorem dX7_needed_64 : decode cX7_needed 64 = .ok (.iload 7, 2) := by decide +kernel
theorem dX7_needed_66 : decode cX7_needed 66 = .ok (.aload_n 0, 1) := by decide +kernel
theorem dX7_needed_67 : decode cX7_needed 67 = .ok (.getfield 25, 3) := by decide +kernel
theorem dX7_needed_70 : decode cX7_needed 70 = .ok (.iconst 1, 1) := by decide +kernel
theorem dX7_needed_71 : decode cX7_needed 71 = .ok (.iaload, 1) := by decide +kernel
theorem dX7_needed_72 : decode cX7_needed 72 = .ok (.if_icmp .ge 94, 3) := by decide +kernel
theorem dX7_needed_75 : decode cX7_needed 75 = .ok (.aload_n 0, 1) := by decide +kernel
theorem dX7_needed_76 : decode cX7_needed 76 = .ok (.getfield 25, 3) := by decide +kernel
theorem dX7_needed_79 : decode cX7_needed 79 = .ok (.iconst 0, 1) := by decide +kernel
theorem dX7_needed_80 : decode cX7_needed 80 = .ok (.aload_n 0, 1) := by decide +kernel
theorem dX7_needed_81 : decode cX7_needed 81 = .ok (.getfield 31, 3) := by decide +kernel
theorem dX7_needed_84 : decode cX7_needed 84 = .ok (.iconst 0, 1) := by decide +kernel
theorem dX7_needed_85 : decode cX7_needed 85 = .ok (.invokestatic 151, 3) := by decide +kernel
theorem dX7_needed_88 : decode cX7_needed 88 = .ok (.aload_n 0, 1) := by decide +kernel
theorem dX7_needed_89 : decode cX7_needed 89 = .ok (.getfield 31, 3) := by decide +kernel
theorem dX7_needed_92 : decode cX7_needed 92 = .ok (.bipush 62, 2) := by decide +kernel
theorem dX7_needed_94 : decode cX7_needed 94 = .ok (.bipush 6, 2) := by decide +kernel
theorem dX7_needed_96 : decode cX7_needed 96 = .ok (.iload 7, 2) := by decide +kernel
theorem dX7_needed_98 : decode cX7_needed 98 = .ok (.imul, 1) := by decide +kernel
theorem dX7_needed_99 : decode cX7_needed 99 = .ok (.iadd, 1) := by decide +kernel
theorem dX7_needed_100 : decode cX7_needed 100 = .ok (.iconst 4, 1) := by decide +kernel
theorem dX7_needed_101 : decode cX7_needed 101 = .ok (.iadd, 1) := by decide +kernel
theorem dX7_needed_102 : decode cX7_needed 102 = .ok (.iconst 0, 1) := by decide +kernel
theorem dX7_needed_103 : decode cX7_needed 103 = .ok (.iastore, 1) := by decide +kernel
theorem dX7_needed_104 : decode cX7_needed 104 = .ok (.aload_n 0, 1) := by decide +kernel
theorem dX7_needed_105 : decode cX7_needed 105 = .ok (.aload_n 0, 1) := by decide +kernel
theorem dX7_needed_106 : decode cX7_needed 106 = .ok (.getfield 31, 3) := by decide +kernel
theorem dX7_needed_109 : decode cX7_needed 109 = .ok (.iload_n 1, 1) := by decide +kernel
theorem dX7_needed_110 : decode cX7_needed 110 = .ok (.iload_n 2, 1) := by decide +kernel
theorem dX7_needed_111 : decode cX7_needed 111 = .ok (.invokevirtual 245, 3) := by decide +kernel
theorem dX7_needed_114 : decode cX7_needed 114 = .ok (.iload 6, 2) := by decide +kernel
theorem dX7_needed_116 : decode cX7_needed 116 = .ok (.aload_n 0, 1) := by decide +kernel
theorem dX7_needed_117 : decode cX7_needed 117 = .ok (.getfield 179, 3) := by decide +kernel
theorem dX7_needed_120 : decode cX7_needed 120 = .ok (.ifCond .ne 29, 3) := by decide +kernel
theorem dX7_needed_123 : decode cX7_needed 123 = .ok (.iload_n 3, 1) := by decide +kernel
theorem dX7_needed_124 : decode cX7_needed 124 = .ok (.aload_n 0, 1) := by decide +kernel
theorem dX7_needed_125 : decode cX7_needed 125 = .ok (.getfield 176, 3) := by decide +kernel
theorem dX7_needed_128 : decode cX7_needed 128 = .ok (.if_icmp .ne 21, 3) := by decide +kernel
theorem dX7_needed_131 : decode cX7_needed 131 = .ok (.iload 4, 2) := by decide +kernel
theorem dX7_needed_133 : decode cX7_needed 133 = .ok (.aload_n 0, 1) := by decide +kernel
theorem dX7_needed_134 : decode cX7_needed 134 = .ok (.getfield 204, 3) := by decide +kernel
theorem dX7_needed_137 : decode cX7_needed 137 = .ok (.if_icmp .ne 12, 3) := by decide +kernel
theorem dX7_needed_140 : decode cX7_needed 140 = .ok (.iload 5, 2) := by decide +kernel
theorem dX7_needed_142 : decode cX7_needed 142 = .ok (.aload_n 0, 1) := by decide +kernel
theorem dX7_needed_143 : decode cX7_needed 143 = .ok (.getfield 207, 3) := by decide +kernel
theorem dX7_needed_146 : decode cX7_needed 146 = .ok (.if_icmp .eq 10, 3) := by decide +kernel
theorem dX7_needed_149 : decode cX7_needed 149 = .ok (.iconst 1, 1) := by decide +kernel
theorem dX7_needed_150 : decode cX7_needed 150 = .ok (.iload 7, 2) := by decide +kernel
theorem dX7_needed_152 : decode cX7_needed 152 = .ok (.ishl, 1) := by decide +kernel
theorem dX7_needed_153 : decode cX7_needed 153 = .ok (.goto 4, 3) := by decide +kernel
theorem dX7_needed_156 : decode cX7_needed 156 = .ok (.iconst 0, 1) := by decide +kernel
theorem dX7_needed_157 : decode cX7_needed 157 = .ok (.ior, 1) := by decide +kernel
theorem dX7_needed_158 : decode cX7_needed 158 = .ok (.istore 6, 2) := by decide +kernel
theorem dX7_needed_160 : decode cX7_needed 160 = .ok (.iinc 7 1, 3) := by decide +kernel
theorem dX7_needed_163 : decode cX7_needed 163 = .ok (.goto (-99), 3) := by decide +kernel
theorem dX7_needed_166 : decode cX7_needed 166 = .ok (.iload 6, 2) := by decide +kernel
theorem dX7_needed_168 : decode cX7_needed 168 = .ok (.ireturn, 1) := by decide +kernel
theorem dX7_isSeen_0 : decode cX7_isSeen 0 = .ok (.aload_n 0, 1) := by decide +kernel
theorem dX7_isSeen_1 : decode cX7_isSeen 1 = .ok (.aload_n 0, 1) := by decide +kernel
theorem dX7_isSeen_2 : decode cX7_isSeen 2 = .ok (.getfield 31, 3) := by decide +kernel
theorem dX7_isSeen_5 : decode cX7_isSeen 5 = .ok (.iload_n 1, 1) := by decide +kernel
theorem dX7_isSeen_6 : decode cX7_isSeen 6 = .ok (.iload_n 2, 1) := by decide +kernel
theorem dX7_isSeen_7 : decode cX7_isSeen 7 = .ok (.invokevirtual 245, 3) := by decide +kernel
theorem dX7_isSeen_10 : decode cX7_isSeen 10 = .ok (.aload_n 0, 1) := by decide +kernel
theorem dX7_isSeen_11 : decode cX7_isSeen 11 = .ok (.getfield 179, 3) := by decide +kernel
theorem dX7_isSeen_14 : decode cX7_isSeen 14 = .ok (.ifCond .ne 20, 3) := by decide +kernel
theorem dX7_isSeen_17 : decode cX7_isSeen 17 = .ok (.aload_n 0, 1) := by decide +kernel
theorem dX7_isSeen_18 : decode cX7_isSeen 18 = .ok (.getfield 176, 3) := by decide +kernel
theorem dX7_isSeen_21 : decode cX7_isSeen 21 = .ok (.aload_n 0, 1) := by decide +kernel
theorem dX7_isSeen_22 : decode cX7_isSeen 22 = .ok (.getfield 13, 3) := by decide +kernel
theorem dX7_isSeen_25 : decode cX7_isSeen 25 = .ok (.iload_n 3, 1) := by decide +kernel
theorem dX7_isSeen_26 : decode cX7_isSeen 26 = .ok (.iaload, 1) := by decide +kernel
theorem dX7_isSeen_27 : decode cX7_isSeen 27 = .ok (.if_icmp .lt 7, 3) := by decide +kernel
theorem dX7_isSeen_30 : decode cX7_isSeen 30 = .ok (.iconst 1, 1) := by decide +kernel
theorem dX7_isSeen_31 : decode cX7_isSeen 31 = .ok (.goto 4, 3) := by decide +kernel
theorem dX7_isSeen_34 : decode cX7_isSeen 34 = .ok (.iconst 0, 1) := by decide +kernel
theorem dX7_isSeen_35 : decode cX7_isSeen 35 = .ok (.istore 4, 2) := by decide +kernel
theorem dX7_isSeen_37 : decode cX7_isSeen 37 = .ok (.iconst 0, 1) := by decide +kernel
theorem dX7_isSeen_38 : decode cX7_isSeen 38 = .ok (.istore 5, 2) := by decide +kernel
theorem dX7_isSeen_40 : decode cX7_isSeen 40 = .ok (.iload 5, 2) := by decide +kernel
theorem dX7_isSeen_42 : decode cX7_isSeen 42 = .ok (.aload_n 0, 1) := by decide +kernel
theorem dX7_isSeen_43 : decode cX7_isSeen 43 = .ok (.getfield 13, 3) := by decide +kernel
theorem dX7_isSeen_46 : decode cX7_isSeen 46 = .ok (.iload_n 3, 1) := by decide +kernel
theorem dX7_isSeen_47 : decode cX7_isSeen 47 = .ok (.iaload, 1) := by decide +kernel
theorem dX7_isSeen_48 : decode cX7_isSeen 48 = .ok (.if_icmp .ge 43, 3) := by decide +kernel
theorem dX7_isSeen_51 : decode cX7_isSeen 51 = .ok (.iload 4, 2) := by decide +kernel
theorem dX7_isSeen_53 : decode cX7_isSeen 53 = .ok (.ifCond .eq 38, 3) := by decide +kernel
theorem dX7_isSeen_56 : decode cX7_isSeen 56 = .ok (.aload_n 0, 1) := by decide +kernel
theorem dX7_isSeen_57 : decode cX7_isSeen 57 = .ok (.getfield 50, 3) := by decide +kernel
theorem dX7_isSeen_60 : decode cX7_isSeen 60 = .ok (.iload 5, 2) := by decide +kernel
theorem dX7_isSeen_62 : decode cX7_isSeen 62 = .ok (.iaload, 1) := by decide +kernel
theorem dX7_isSeen_63 : decode cX7_isSeen 63 = .ok (.aload_n 0, 1) := by decide +kernel
theorem dX7_isSeen_64 : decode cX7_isSeen 64 = .ok (.getfield 16, 3) := by decide +kernel
theorem dX7_isSeen_67 : decode cX7_isSeen 67 = .ok (.bipush 40, 2) := by decide +kernel
theorem dX7_isSeen_69 : decode cX7_isSeen 69 = .ok (.iload_n 3, 1) := by decide +kernel
theorem dX7_isSeen_70 : decode cX7_isSeen 70 = .ok (.imul, 1) := by decide +kernel
theorem dX7_isSeen_71 : decode cX7_isSeen 71 = .ok (.iload 5, 2) := by decide +kernel
theorem dX7_isSeen_73 : decode cX7_isSeen 73 = .ok (.iadd, 1) := by decide +kernel
theorem dX7_isSeen_74 : decode cX7_isSeen 74 = .ok (.iaload, 1) := by decide +kernel
theorem dX7_isSeen_75 : decode cX7_isSeen 75 = .ok (.if_icmp .ne 7, 3) := by decide +kernel
theorem dX7_isSeen_78 : decode cX7_isSeen 78 = .ok (.iconst 1, 1) := by decide +kernel
theorem dX7_isSeen_79 : decode cX7_isSeen 79 = .ok (.goto 4, 3) := by decide +kernel
theorem dX7_isSeen_82 : decode cX7_isSeen 82 = .ok (.iconst 0, 1) := by decide +kernel
theorem dX7_isSeen_83 : decode cX7_isSeen 83 = .ok (.istore 4, 2) := by decide +kernel
theorem dX7_isSeen_85 : decode cX7_isSeen 85 = .ok (.iinc 5 1, 3) := by decide +kernel
theorem dX7_isSeen_88 : decode cX7_isSeen 88 = .ok (.goto (-48), 3) := by decide +kernel
theorem dX7_isSeen_91 : decode cX7_isSeen 91 = .ok (.iload 4, 2) := by decide +kernel
theorem dX7_isSeen_93 : decode cX7_isSeen 93 = .ok (.ireturn, 1) := by decide +kernel
theorem dX7_fits_0 : decode cX7_fits 0 = .ok (.aload_n 0, 1) := by decide +kernel
theorem dX7_fits_1 : decode cX7_fits 1 = .ok (.iload_n 1, 1) := by decide +kernel
theorem dX7_fits_2 : decode cX7_fits 2 = .ok (.invokevirtual 232, 3) := by decide +kernel
theorem dX7_fits_5 : decode cX7_fits 5 = .ok (.ifCond .eq 39, 3) := by decide +kernel
theorem dX7_fits_8 : decode cX7_fits 8 = .ok (.aload_n 0, 1) := by decide +kernel
theorem dX7_fits_9 : decode cX7_fits 9 = .ok (.iload_n 2, 1) := by decide +kernel
theorem dX7_fits_10 : decode cX7_fits 10 = .ok (.invokevirtual 242, 3) := by decide +kernel
theorem dX7_fits_13 : decode cX7_fits 13 = .ok (.ifCond .eq 31, 3) := by decide +kernel
theorem dX7_fits_16 : decode cX7_fits 16 = .ok (.iload_n 3, 1) := by decide +kernel
