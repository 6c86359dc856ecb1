theorem dX0_init_0 : decode cX0_init 0 = .ok (.aload_n 0, 1) := by decide +kernel
theorem dX0_init_1 : decode cX0_init 1 = .ok (.invokespecial 3, 3) := by decide +kernel
theorem dX0_init_4 : decode cX0_init 4 = .ok (.aload_n 0, 1) := by decide +kernel
theorem dX0_init_5 : decode cX0_init 5 = .ok (.bipush 80, 2) := by decide +kernel
theorem dX0_init_7 : decode cX0_init 7 = .ok (.newarray .int, 2) := by decide +kernel
theorem dX0_init_9 : decode cX0_init 9 = .ok (.putfield 11, 3) := by decide +kernel
theorem dX0_init_12 : decode cX0_init 12 = .ok (.aload_n 0, 1) := by decide +kernel
theorem dX0_init_13 : decode cX0_init 13 = .ok (.iconst 0, 1) := by decide +kernel
theorem dX0_init_14 : decode cX0_init 14 = .ok (.putfield 15, 3) := by decide +kernel
theorem dX0_init_17 : decode cX0_init 17 = .ok (.return_, 1) := by decide +kernel
theorem dX0_size_0 : decode cX0_size 0 = .ok (.aload_n 0, 1) := by decide +kernel
theorem dX0_size_1 : decode cX0_size 1 = .ok (.getfield 15, 3) := by decide +kernel
theorem dX0_size_4 : decode cX0_size 4 = .ok (.ireturn, 1) := by decide +kernel
theorem dX0_forget_0 : decode cX0_forget 0 = .ok (.aload_n 0, 1) := by decide +kernel
theorem dX0_forget_1 : decode cX0_forget 1 = .ok (.iconst 0, 1) := by decide +kernel
theorem dX0_forget_2 : decode cX0_forget 2 = .ok (.putfield 15, 3) := by decide +kernel
theorem dX0_forget_5 : decode cX0_forget 5 = .ok (.return_, 1) := by decide +kernel
theorem dX0_keepFact_0 : decode cX0_keepFact 0 = .ok (.aload_n 0, 1) := by decide +kernel
theorem dX0_keepFact_1 : decode cX0_keepFact 1 = .ok (.iconst 0, 1) := by decide +kernel
theorem dX0_keepFact_2 : decode cX0_keepFact 2 = .ok (.iload_n 1, 1) := by decide +kernel
theorem dX0_keepFact_3 : decode cX0_keepFact 3 = .ok (.iload_n 2, 1) := by decide +kernel
theorem dX0_keepFact_4 : decode cX0_keepFact 4 = .ok (.iload_n 3, 1) := by decide +kernel
theorem dX0_keepFact_5 : decode cX0_keepFact 5 = .ok (.iconst 0, 1) := by decide +kernel
theorem dX0_keepFact_6 : decode cX0_keepFact 6 = .ok (.invokevirtual 19, 3) := by decide +kernel
theorem dX0_keepFact_9 : decode cX0_keepFact 9 = .ok (.return_, 1) := by decide +kernel
theorem dX0_keepExchange_0 : decode cX0_keepExchange 0 = .ok (.aload_n 0, 1) := by decide +kernel
theorem dX0_keepExchange_1 : decode cX0_keepExchange 1 = .ok (.iconst 1, 1) := by decide +kernel
theorem dX0_keepExchange_2 : decode cX0_keepExchange 2 = .ok (.iload_n 1, 1) := by decide +kernel
theorem dX0_keepExchange_3 : decode cX0_keepExchange 3 = .ok (.iload_n 2, 1) := by decide +kernel
theorem dX0_keepExchange_4 : decode cX0_keepExchange 4 = .ok (.iconst 0, 1) := by decide +kernel
theorem dX0_keepExchange_5 : decode cX0_keepExchange 5 = .ok (.iconst 0, 1) := by decide +kernel
theorem dX0_keepExchange_6 : decode cX0_keepExchange 6 = .ok (.invokevirtual 19, 3) := by decide +kernel
theorem dX0_keepExchange_9 : decode cX0_keepExchange 9 = .ok (.return_, 1) := by decide +kernel
theorem dX0_keepStatement_0 : decode cX0_keepStatement 0 = .ok (.aload_n 0, 1) := by decide +kernel
theorem dX0_keepStatement_1 : decode cX0_keepStatement 1 = .ok (.iconst 2, 1) := by decide +kernel
theorem dX0_keepStatement_2 : decode cX0_keepStatement 2 = .ok (.iload_n 1, 1) := by decide +kernel
theorem dX0_keepStatement_3 : decode cX0_keepStatement 3 = .ok (.iload_n 2, 1) := by decide +kernel
theorem dX0_keepStatement_4 : decode cX0_keepStatement 4 = .ok (.iload_n 3, 1) := by decide +kernel
theorem dX0_keepStatement_5 : decode cX0_keepStatement 5 = .ok (.iload 4, 2) := by decide +kernel
theorem dX0_keepStatement_7 : decode cX0_keepStatement 7 = .ok (.invokevirtual 19, 3) := by decide +kernel
theorem dX0_keepStatement_10 : decode cX0_keepStatement 10 = .ok (.return_, 1) := by decide +kernel
theorem dX0_keepClass_0 : decode cX0_keepClass 0 = .ok (.aload_n 0, 1) := by decide +kernel
theorem dX0_keepClass_1 : decode cX0_keepClass 1 = .ok (.iconst 3, 1) := by decide +kernel
theorem dX0_keepClass_2 : decode cX0_keepClass 2 = .ok (.iload_n 1, 1) := by decide +kernel
theorem dX0_keepClass_3 : decode cX0_keepClass 3 = .ok (.iload_n 2, 1) := by decide +kernel
theorem dX0_keepClass_4 : decode cX0_keepClass 4 = .ok (.iconst 0, 1) := by decide +kernel
theorem dX0_keepClass_5 : decode cX0_keepClass 5 = .ok (.iconst 0, 1) := by decide +kernel
theorem dX0_keepClass_6 : decode cX0_keepClass 6 = .ok (.invokevirtual 19, 3) := by decide +kernel
theorem dX0_keepClass_9 : decode cX0_keepClass 9 = .ok (.return_, 1) := by decide +kernel
theorem dX0_keep_0 : decode cX0_keep 0 = .ok (.aload_n 0, 1) := by decide +kernel
theorem dX0_keep_1 : decode cX0_keep 1 = .ok (.getfield 15, 3) := by decide +kernel
theorem dX0_keep_4 : decode cX0_keep 4 = .ok (.bipush 16, 2) := by decide +kernel
theorem dX0_keep_6 : decode cX0_keep 6 = .ok (.if_icmp .lt 24, 3) := by decide +kernel
theorem dX0_keep_9 : decode cX0_keep 9 = .ok (.aload_n 0, 1) := by decide +kernel
theorem dX0_keep_10 : decode cX0_keep 10 = .ok (.getfield 11, 3) := by decide +kernel
theorem dX0_keep_13 : decode cX0_keep 13 = .ok (.iconst 5, 1) := by decide +kernel
theorem dX0_keep_14 : decode cX0_keep 14 = .ok (.aload_n 0, 1) := by decide +kernel
theorem dX0_keep_15 : decode cX0_keep 15 = .ok (.getfield 11, 3) := by decide +kernel
theorem dX0_keep_18 : decode cX0_keep 18 = .ok (.iconst 0, 1) := by decide +kernel
theorem dX0_keep_19 : decode cX0_keep 19 = .ok (.bipush 75, 2) := by decide +kernel
theorem dX0_keep_21 : decode cX0_keep 21 = .ok (.invokestatic 23, 3) := by decide +kernel
theorem dX0_keep_24 : decode cX0_keep 24 = .ok (.aload_n 0, 1) := by decide +kernel
theorem dX0_keep_25 : decode cX0_keep 25 = .ok (.bipush 15, 2) := by decide +kernel
theorem dX0_keep_27 : decode cX0_keep 27 = .ok (.putfield 15, 3) := by decide +kernel
theorem dX0_keep_30 : decode cX0_keep 30 = .ok (.aload_n 0, 1) := by decide +kernel
theorem dX0_keep_31 : decode cX0_keep 31 = .ok (.getfield 15, 3) := by decide +kernel
theorem dX0_keep_34 : decode cX0_keep 34 = .ok (.iconst 5, 1) := by decide +kernel
theorem dX0_keep_35 : decode cX0_keep 35 = .ok (.imul, 1) := by decide +kernel
theorem dX0_keep_36 : decode cX0_keep 36 = .ok (.istore 6, 2) := by decide +kernel
theorem dX0_keep_38 : decode cX0_keep 38 = .ok (.aload_n 0, 1) := by decide +kernel
theorem dX0_keep_39 : decode cX0_keep 39 = .ok (.getfield 11, 3) := by decide +kernel
theorem dX0_keep_42 : decode cX0_keep 42 = .ok (.iload 6, 2) := by decide +kernel
theorem dX0_keep_44 : decode cX0_keep 44 = .ok (.iload_n 1, 1) := by decide +kernel
theorem dX0_keep_45 : decode cX0_keep 45 = .ok (.iastore, 1) := by decide +kernel
theorem dX0_keep_46 : decode cX0_keep 46 = .ok (.aload_n 0, 1) := by decide +kernel
theorem dX0_keep_47 : decode cX0_keep 47 = .ok (.getfield 11, 3) := by decide +kernel
theorem dX0_keep_50 : decode cX0_keep 50 = .ok (.iload 6, 2) := by decide +kernel
theorem dX0_keep_52 : decode cX0_keep 52 = .ok (.iconst 1, 1) := by decide +kernel
theorem dX0_keep_53 : decode cX0_keep 53 = .ok (.iadd, 1) := by decide +kernel
theorem dX0_keep_54 : decode cX0_keep 54 = .ok (.iload_n 2, 1) := by decide +kernel
theorem dX0_keep_55 : decode cX0_keep 55 = .ok (.iastore, 1) := by decide +kernel
theorem dX0_keep_56 : decode cX0_keep 56 = .ok (.aload_n 0, 1) := by decide +kernel
theorem dX0_keep_57 : decode cX0_keep 57 = .ok (.getfield 11, 3) := by decide +kernel
theorem dX0_keep_60 : decode cX0_keep 60 = .ok (.iload 6, 2) := by decide +kernel
theorem dX0_keep_62 : decode cX0_keep 62 = .ok (.iconst 2, 1) := by decide +kernel
theorem dX0_keep_63 : decode cX0_keep 63 = .ok (.iadd, 1) := by decide +kernel
theorem dX0_keep_64 : decode cX0_keep 64 = .ok (.iload_n 3, 1) := by decide +kernel
theorem dX0_keep_65 : decode cX0_keep 65 = .ok (.iastore, 1) := by decide +kernel
theorem dX0_keep_66 : decode cX0_keep 66 = .ok (.aload_n 0, 1) := by decide +kernel
theorem dX0_keep_67 : decode cX0_keep 67 = .ok (.getfield 11, 3) := by decide +kernel
theorem dX0_keep_70 : decode cX0_keep 70 = .ok (.iload 6, 2) := by decide +kernel
theorem dX0_keep_72 : decode cX0_keep 72 = .ok (.iconst 3, 1) := by decide +kernel
theorem dX0_keep_73 : decode cX0_keep 73 = .ok (.iadd, 1) := by decide +kernel
theorem dX0_keep_74 : decode cX0_keep 74 = .ok (.iload 4, 2) := by decide +kernel
theorem dX0_keep_76 : decode cX0_keep 76 = .ok (.iastore, 1) := by decide +kernel
theorem dX0_keep_77 : decode cX0_keep 77 = .ok (.aload_n 0, 1) := by decide +kernel
theorem dX0_keep_78 : decode cX0_keep 78 = .ok (.getfield 11, 3) := by decide +kernel
theorem dX0_keep_81 : decode cX0_keep 81 = .ok (.iload 6, 2) := by decide +kernel
theorem dX0_keep_83 : decode cX0_keep 83 = .ok (.iconst 4, 1) := by decide +kernel
theorem dX0_keep_84 : decode cX0_keep 84 = .ok (.iadd, 1) := by decide +kernel
theorem dX0_keep_85 : decode cX0_keep 85 = .ok (.iload 5, 2) := by decide +kernel
theorem dX0_keep_87 : decode cX0_keep 87 = .ok (.iastore, 1) := by decide +kernel
theorem dX0_keep_88 : decode cX0_keep 88 = .ok (.aload_n 0, 1) := by decide +kernel
theorem dX0_keep_89 : decode cX0_keep 89 = .ok (.dup, 1) := by decide +kernel
theorem dX0_keep_90 : decode cX0_keep 90 = .ok (.getfield 15, 3) := by decide +kernel
theorem dX0_keep_93 : decode cX0_keep 93 = .ok (.iconst 1, 1) := by decide +kernel
theorem dX0_keep_94 : decode cX0_keep 94 = .ok (.iadd, 1) := by decide +kernel
theorem dX0_keep_95 : decode cX0_keep 95 = .ok (.putfield 15, 3) := by decide +kernel
theorem dX0_keep_98 : decode cX0_keep 98 = .ok (.return_, 1) := by decide +kernel
theorem dX0_takeBack_0 : decode cX0_takeBack 0 = .ok (.aload_n 0, 1) := by decide +kernel
theorem dX0_takeBack_1 : decode cX0_takeBack 1 = .ok (.getfield 15, 3) := by decide +kernel
theorem dX0_takeBack_4 : decode cX0_takeBack 4 = .ok (.ifCond .ne 4, 3) := by decide +kernel
theorem dX0_takeBack_7 : decode cX0_takeBack 7 = .ok (.return_, 1) := by decide +kernel
theorem dX0_takeBack_8 : decode cX0_takeBack 8 = .ok (.aload_n 0, 1) := by decide +kernel
theorem dX0_takeBack_9 : decode cX0_takeBack 9 = .ok (.dup, 1) := by decide +kernel
theorem dX0_takeBack_10 : decode cX0_takeBack 10 = .ok (.getfield 15, 3) := by decide +kernel
theorem dX0_takeBack_13 : decode cX0_takeBack 13 = .ok (.iconst 1, 1) := by decide +kernel
theorem dX0_takeBack_14 : decode cX0_takeBack 14 = .ok (.isub, 1) := by decide +kernel
theorem dX0_takeBack_15 : decode cX0_takeBack 15 = .ok (.putfield 15, 3) := by decide +kernel
theorem dX0_takeBack_18 : decode cX0_takeBack 18 = .ok (.aload_n 0, 1) := by decide +kernel
theorem dX0_takeBack_19 : decode cX0_takeBack 19 = .ok (.getfield 15, 3) := by decide +kernel
theorem dX0_takeBack_22 : decode cX0_takeBack 22 = .ok (.iconst 5, 1) := by decide +kernel
theorem dX0_takeBack_23 : decode cX0_takeBack 23 = .ok (.imul, 1) := by decide +kernel
theorem dX0_takeBack_24 : decode cX0_takeBack 24 = .ok (.istore_n 2, 1) := by decide +kernel
theorem dX0_takeBack_25 : decode cX0_takeBack 25 = .ok (.aload_n 0, 1) := by decide +kernel
theorem dX0_takeBack_26 : decode cX0_takeBack 26 = .ok (.getfield 11, 3) := by decide +kernel
theorem dX0_takeBack_29 : decode cX0_takeBack 29 = .ok (.iload_n 2, 1) := by decide +kernel
theorem dX0_takeBack_30 : decode cX0_takeBack 30 = .ok (.iaload, 1) := by decide +kernel
theorem dX0_takeBack_31 : decode cX0_takeBack 31 = .ok (.tableswitch 118 0 2 #[25, 56, 79], 25) := by decide +kernel
theorem dX0_takeBack_56 : decode cX0_takeBack 56 = .ok (.aload_n 1, 1) := by decide +kernel
theorem dX0_takeBack_57 : decode cX0_takeBack 57 = .ok (.aload_n 0, 1) := by decide +kernel
theorem dX0_takeBack_58 : decode cX0_takeBack 58 = .ok (.getfield 11, 3) := by decide +kernel
theorem dX0_takeBack_61 : decode cX0_takeBack 61 = .ok (.iload_n 2, 1) := by decide +kernel
theorem dX0_takeBack_62 : decode cX0_takeBack 62 = .ok (.iconst 1, 1) := by decide +kernel
theorem dX0_takeBack_63 : decode cX0_takeBack 63 = .ok (.iadd, 1) := by decide +kernel
theorem dX0_takeBack_64 : decode cX0_takeBack 64 = .ok (.iaload, 1) := by decide +kernel
theorem dX0_takeBack_65 : decode cX0_takeBack 65 = .ok (.aload_n 0, 1) := by decide +kernel
theorem dX0_takeBack_66 : decode cX0_takeBack 66 = .ok (.getfield 11, 3) := by decide +kernel
theorem dX0_takeBack_69 : decode cX0_takeBack 69 = .ok (.iload_n 2, 1) := by decide +kernel
theorem dX0_takeBack_70 : decode cX0_takeBack 70 = .ok (.iconst 2, 1) := by decide +kernel
theorem dX0_takeBack_71 : decode cX0_takeBack 71 = .ok (.iadd, 1) := by decide +kernel
theorem dX0_takeBack_72 : decode cX0_takeBack 72 = .ok (.iaload, 1) := by decide +kernel
theorem dX0_takeBack_73 : decode cX0_takeBack 73 = .ok (.aload_n 0, 1) := by decide +kernel
theorem dX0_takeBack_74 : decode cX0_takeBack 74 = .ok (.getfield 11, 3) := by decide +kernel
theorem dX0_takeBack_77 : decode cX0_takeBack 77 = .ok (.iload_n 2, 1) := by decide +kernel
theorem dX0_takeBack_78 : decode cX0_takeBack 78 = .ok (.iconst 3, 1) := by decide +kernel
theorem dX0_takeBack_79 : decode cX0_takeBack 79 = .ok (.iadd, 1) := by decide +kernel
theorem dX0_takeBack_80 : decode cX0_takeBack 80 = .ok (.iaload, 1) := by decide +kernel
theorem dX0_takeBack_81 : decode cX0_takeBack 81 = .ok (.invokevirtual 29, 3) := by decide +kernel
theorem dX0_takeBack_84 : decode cX0_takeBack 84 = .ok (.goto 85, 3) := by decide +kernel
theorem dX0_takeBack_87 : decode cX0_takeBack 87 = .ok (.aload_n 1, 1) := by decide +kernel
theorem dX0_takeBack_88 : decode cX0_takeBack 88 = .ok (.aload_n 0, 1) := by decide +kernel
theorem dX0_takeBack_89 : decode cX0_takeBack 89 = .ok (.getfield 11, 3) := by decide +kernel
theorem dX0_takeBack_92 : decode cX0_takeBack 92 = .ok (.iload_n 2, 1) := by decide +kernel
theorem dX0_takeBack_93 : decode cX0_takeBack 93 = .ok (.iconst 1, 1) := by decide +kernel
theorem dX0_takeBack_94 : decode cX0_takeBack 94 = .ok (.iadd, 1) := by decide +kernel
theorem dX0_takeBack_95 : decode cX0_takeBack 95 = .ok (.iaload, 1) := by decide +kernel
theorem dX0_takeBack_96 : decode cX0_takeBack 96 = .ok (.aload_n 0, 1) := by decide +kernel
theorem dX0_takeBack_97 : decode cX0_takeBack 97 = .ok (.getfield 11, 3) := by decide +kernel
theorem dX0_takeBack_100 : decode cX0_takeBack 100 = .ok (.iload_n 2, 1) := by decide +kernel
theorem dX0_takeBack_101 : decode cX0_takeBack 101 = .ok (.iconst 2, 1) := by decide +kernel
theorem dX0_takeBack_102 : decode cX0_takeBack 102 = .ok (.iadd, 1) := by decide +kernel
theorem dX0_takeBack_103 : decode cX0_takeBack 103 = .ok (.iaload, 1) := by decide +kernel
theorem dX0_takeBack_104 : decode cX0_takeBack 104 = .ok (.invokevirtual 35, 3) := by decide +kernel
theorem dX0_takeBack_107 : decode cX0_takeBack 107 = .ok (.goto 62, 3) := by decide +kernel
theorem dX0_takeBack_110 : decode cX0_takeBack 110 = .ok (.aload_n 1, 1) := by decide +kernel
theorem dX0_takeBack_111 : decode cX0_takeBack 111 = .ok (.aload_n 0, 1) := by decide +kernel
theorem dX0_takeBack_112 : decode cX0_takeBack 112 = .ok (.getfield 11, 3) := by decide +kernel
theorem dX0_takeBack_115 : decode cX0_takeBack 115 = .ok (.iload_n 2, 1) := by decide +kernel
theorem dX0_takeBack_116 : decode cX0_takeBack 116 = .ok (.iconst 1, 1) := by decide +kernel
theorem dX0_takeBack_117 : decode cX0_takeBack 117 = .ok (.iadd, 1) := by decide +kernel
theorem dX0_takeBack_118 : decode cX0_takeBack 118 = .ok (.iaload, 1) := by decide +kernel
theorem dX0_takeBack_119 : decode cX0_takeBack 119 = .ok (.aload_n 0, 1) := by decide +kernel
theorem dX0_takeBack_120 : decode cX0_takeBack 120 = .ok (.getfield 11, 3) := by decide +kernel
theorem dX0_takeBack_123 : decode cX0_takeBack 123 = .ok (.iload_n 2, 1) := by decide +kernel
theorem dX0_takeBack_124 : decode cX0_takeBack 124 = .ok (.iconst 2, 1) := by decide +kernel
theorem dX0_takeBack_125 : decode cX0_takeBack 125 = .ok (.iadd, 1) := by decide +kernel
theorem dX0_takeBack_126 : decode cX0_takeBack 126 = .ok (.iaload, 1) := by decide +kernel
theorem dX0_takeBack_127 : decode cX0_takeBack 127 = .ok (.aload_n 0, 1) := by decide +kernel
theorem dX0_takeBack_128 : decode cX0_takeBack 128 = .ok (.getfield 11, 3) := by decide +kernel
theorem dX0_takeBack_131 : decode cX0_takeBack 131 = .ok (.iload_n 2, 1) := by decide +kernel
theorem dX0_takeBack_132 : decode cX0_takeBack 132 = .ok (.iconst 3, 1) := by decide +kernel
theorem dX0_takeBack_133 : decode cX0_takeBack 133 = .ok (.iadd, 1) := by decide +kernel
theorem dX0_takeBack_134 : decode cX0_takeBack 134 = .ok (.iaload, 1) := by decide +kernel
theorem dX0_takeBack_135 : decode cX0_takeBack 135 = .ok (.aload_n 0, 1) := by decide +kernel
theorem dX0_takeBack_136 : decode cX0_takeBack 136 = .ok (.getfield 11, 3) := by decide +kernel
theorem dX0_takeBack_139 : decode cX0_takeBack 139 = .ok (.iload_n 2, 1) := by decide +kernel
theorem dX0_takeBack_140 : decode cX0_takeBack 140 = .ok (.iconst 4, 1) := by decide +kernel
theorem dX0_takeBack_141 : decode cX0_takeBack 141 = .ok (.iadd, 1) := by decide +kernel
theorem dX0_takeBack_142 : decode cX0_takeBack 142 = .ok (.iaload, 1) := by decide +kernel
theorem dX0_takeBack_143 : decode cX0_takeBack 143 = .ok (.invokevirtual 39, 3) := by decide +kernel
theorem dX0_takeBack_146 : decode cX0_takeBack 146 = .ok (.goto 23, 3) := by decide +kernel
theorem dX0_takeBack_149 : decode cX0_takeBack 149 = .ok (.aload_n 1, 1) := by decide +kernel
theorem dX0_takeBack_150 : decode cX0_takeBack 150 = .ok (.aload_n 0, 1) := by decide +kernel
theorem dX0_takeBack_151 : decode cX0_takeBack 151 = .ok (.getfield 11, 3) := by decide +kernel
theorem dX0_takeBack_154 : decode cX0_takeBack 154 = .ok (.iload_n 2, 1) := by decide +kernel
theorem dX0_takeBack_155 : decode cX0_takeBack 155 = .ok (.iconst 1, 1) := by decide +kernel
theorem dX0_takeBack_156 : decode cX0_takeBack 156 = .ok (.iadd, 1) := by decide +kernel
theorem dX0_takeBack_157 : decode cX0_takeBack 157 = .ok (.iaload, 1) := by decide +kernel
theorem dX0_takeBack_158 : decode cX0_takeBack 158 = .ok (.aload_n 0, 1) := by decide +kernel
theorem dX0_takeBack_159 : decode cX0_takeBack 159 = .ok (.getfield 11, 3) := by decide +kernel
theorem dX0_takeBack_162 : decode cX0_takeBack 162 = .ok (.iload_n 2, 1) := by decide +kernel
theorem dX0_takeBack_163 : decode cX0_takeBack 163 = .ok (.iconst 2, 1) := by decide +kernel
theorem dX0_takeBack_164 : decode cX0_takeBack 164 = .ok (.iadd, 1) := by decide +kernel
theorem dX0_takeBack_165 : decode cX0_takeBack 165 = .ok (.iaload, 1) := by decide +kernel
theorem dX0_takeBack_166 : decode cX0_takeBack 166 = .ok (.invokevirtual 43, 3) := by decide +kernel
theorem dX0_takeBack_169 : decode cX0_takeBack 169 = .ok (.return_, 1) := by decide +kernel
