theorem dX7_init_0 : decode cX7_init 0 = .ok (.aload_n 0, 1) := by decide +kernel
theorem dX7_init_1 : decode cX7_init 1 = .ok (.invokespecial 1, 3) := by decide +kernel
theorem dX7_init_4 : decode cX7_init 4 = .ok (.aload_n 0, 1) := by decide +kernel
theorem dX7_init_5 : decode cX7_init 5 = .ok (.iconst 3, 1) := by decide +kernel
theorem dX7_init_6 : decode cX7_init 6 = .ok (.newarray .int, 2) := by decide +kernel
theorem dX7_init_8 : decode cX7_init 8 = .ok (.putfield 7, 3) := by decide +kernel
theorem dX7_init_11 : decode cX7_init 11 = .ok (.aload_n 0, 1) := by decide +kernel
theorem dX7_init_12 : decode cX7_init 12 = .ok (.iconst 3, 1) := by decide +kernel
theorem dX7_init_13 : decode cX7_init 13 = .ok (.newarray .int, 2) := by decide +kernel
theorem dX7_init_15 : decode cX7_init 15 = .ok (.putfield 13, 3) := by decide +kernel
theorem dX7_init_18 : decode cX7_init 18 = .ok (.aload_n 0, 1) := by decide +kernel
theorem dX7_init_19 : decode cX7_init 19 = .ok (.iconst 3, 1) := by decide +kernel
theorem dX7_init_20 : decode cX7_init 20 = .ok (.newarray .int, 2) := by decide +kernel
theorem dX7_init_22 : decode cX7_init 22 = .ok (.putfield 16, 3) := by decide +kernel
theorem dX7_init_25 : decode cX7_init 25 = .ok (.aload_n 0, 1) := by decide +kernel
theorem dX7_init_26 : decode cX7_init 26 = .ok (.iconst 3, 1) := by decide +kernel
theorem dX7_init_27 : decode cX7_init 27 = .ok (.newarray .int, 2) := by decide +kernel
theorem dX7_init_29 : decode cX7_init 29 = .ok (.putfield 19, 3) := by decide +kernel
theorem dX7_init_32 : decode cX7_init 32 = .ok (.aload_n 0, 1) := by decide +kernel
theorem dX7_init_33 : decode cX7_init 33 = .ok (.iconst 3, 1) := by decide +kernel
theorem dX7_init_34 : decode cX7_init 34 = .ok (.newarray .int, 2) := by decide +kernel
theorem dX7_init_36 : decode cX7_init 36 = .ok (.putfield 22, 3) := by decide +kernel
theorem dX7_init_39 : decode cX7_init 39 = .ok (.aload_n 0, 1) := by decide +kernel
theorem dX7_init_40 : decode cX7_init 40 = .ok (.bipush 72, 2) := by decide +kernel
theorem dX7_init_42 : decode cX7_init 42 = .ok (.newarray .int, 2) := by decide +kernel
theorem dX7_init_44 : decode cX7_init 44 = .ok (.putfield 25, 3) := by decide +kernel
theorem dX7_init_47 : decode cX7_init 47 = .ok (.aload_n 0, 1) := by decide +kernel
theorem dX7_init_48 : decode cX7_init 48 = .ok (.bipush 72, 2) := by decide +kernel
theorem dX7_init_50 : decode cX7_init 50 = .ok (.newarray .int, 2) := by decide +kernel
theorem dX7_init_52 : decode cX7_init 52 = .ok (.putfield 28, 3) := by decide +kernel
theorem dX7_init_55 : decode cX7_init 55 = .ok (.aload_n 0, 1) := by decide +kernel
theorem dX7_init_56 : decode cX7_init 56 = .ok (.bipush 72, 2) := by decide +kernel
theorem dX7_init_58 : decode cX7_init 58 = .ok (.newarray .int, 2) := by decide +kernel
theorem dX7_init_60 : decode cX7_init 60 = .ok (.putfield 31, 3) := by decide +kernel
theorem dX7_init_63 : decode cX7_init 63 = .ok (.aload_n 0, 1) := by decide +kernel
theorem dX7_init_64 : decode cX7_init 64 = .ok (.bipush 72, 2) := by decide +kernel
theorem dX7_init_66 : decode cX7_init 66 = .ok (.newarray .int, 2) := by decide +kernel
theorem dX7_init_68 : decode cX7_init 68 = .ok (.putfield 34, 3) := by decide +kernel
theorem dX7_init_71 : decode cX7_init 71 = .ok (.aload_n 0, 1) := by decide +kernel
theorem dX7_init_72 : decode cX7_init 72 = .ok (.bipush 72, 2) := by decide +kernel
theorem dX7_init_74 : decode cX7_init 74 = .ok (.newarray .int, 2) := by decide +kernel
theorem dX7_init_76 : decode cX7_init 76 = .ok (.putfield 37, 3) := by decide +kernel
theorem dX7_init_79 : decode cX7_init 79 = .ok (.aload_n 0, 1) := by decide +kernel
theorem dX7_init_80 : decode cX7_init 80 = .ok (.iconst 3, 1) := by decide +kernel
theorem dX7_init_81 : decode cX7_init 81 = .ok (.newarray .int, 2) := by decide +kernel
theorem dX7_init_83 : decode cX7_init 83 = .ok (.putfield 40, 3) := by decide +kernel
theorem dX7_init_86 : decode cX7_init 86 = .ok (.aload_n 0, 1) := by decide +kernel
theorem dX7_init_87 : decode cX7_init 87 = .ok (.iconst 3, 1) := by decide +kernel
theorem dX7_init_88 : decode cX7_init 88 = .ok (.newarray .boolean, 2) := by decide +kernel
theorem dX7_init_90 : decode cX7_init 90 = .ok (.putfield 43, 3) := by decide +kernel
theorem dX7_init_93 : decode cX7_init 93 = .ok (.aload_n 0, 1) := by decide +kernel
theorem dX7_init_94 : decode cX7_init 94 = .ok (.iconst 3, 1) := by decide +kernel
theorem dX7_init_95 : decode cX7_init 95 = .ok (.newarray .int, 2) := by decide +kernel
theorem dX7_init_97 : decode cX7_init 97 = .ok (.putfield 47, 3) := by decide +kernel
theorem dX7_init_100 : decode cX7_init 100 = .ok (.aload_n 0, 1) := by decide +kernel
theorem dX7_init_101 : decode cX7_init 101 = .ok (.bipush 15, 2) := by decide +kernel
theorem dX7_init_103 : decode cX7_init 103 = .ok (.newarray .int, 2) := by decide +kernel
theorem dX7_init_105 : decode cX7_init 105 = .ok (.putfield 50, 3) := by decide +kernel
theorem dX7_init_108 : decode cX7_init 108 = .ok (.aload_n 0, 1) := by decide +kernel
theorem dX7_init_109 : decode cX7_init 109 = .ok (.iconst 3, 1) := by decide +kernel
theorem dX7_init_110 : decode cX7_init 110 = .ok (.newarray .int, 2) := by decide +kernel
theorem dX7_init_112 : decode cX7_init 112 = .ok (.putfield 53, 3) := by decide +kernel
theorem dX7_init_115 : decode cX7_init 115 = .ok (.aload_n 0, 1) := by decide +kernel
theorem dX7_init_116 : decode cX7_init 116 = .ok (.iconst 3, 1) := by decide +kernel
theorem dX7_init_117 : decode cX7_init 117 = .ok (.newarray .boolean, 2) := by decide +kernel
theorem dX7_init_119 : decode cX7_init 119 = .ok (.putfield 56, 3) := by decide +kernel
theorem dX7_init_122 : decode cX7_init 122 = .ok (.aload_n 0, 1) := by decide +kernel
theorem dX7_init_123 : decode cX7_init 123 = .ok (.iconst 3, 1) := by decide +kernel
theorem dX7_init_124 : decode cX7_init 124 = .ok (.newarray .boolean, 2) := by decide +kernel
theorem dX7_init_126 : decode cX7_init 126 = .ok (.putfield 59, 3) := by decide +kernel
theorem dX7_init_129 : decode cX7_init 129 = .ok (.aload_n 0, 1) := by decide +kernel
theorem dX7_init_130 : decode cX7_init 130 = .ok (.iconst 3, 1) := by decide +kernel
theorem dX7_init_131 : decode cX7_init 131 = .ok (.newarray .boolean, 2) := by decide +kernel
theorem dX7_init_133 : decode cX7_init 133 = .ok (.putfield 62, 3) := by decide +kernel
theorem dX7_init_136 : decode cX7_init 136 = .ok (.aload_n 0, 1) := by decide +kernel
theorem dX7_init_137 : decode cX7_init 137 = .ok (.sipush 192, 3) := by decide +kernel
theorem dX7_init_140 : decode cX7_init 140 = .ok (.newarray .int, 2) := by decide +kernel
theorem dX7_init_142 : decode cX7_init 142 = .ok (.putfield 65, 3) := by decide +kernel
theorem dX7_init_145 : decode cX7_init 145 = .ok (.aload_n 0, 1) := by decide +kernel
theorem dX7_init_146 : decode cX7_init 146 = .ok (.sipush 192, 3) := by decide +kernel
theorem dX7_init_149 : decode cX7_init 149 = .ok (.newarray .int, 2) := by decide +kernel
theorem dX7_init_151 : decode cX7_init 151 = .ok (.putfield 68, 3) := by decide +kernel
theorem dX7_init_154 : decode cX7_init 154 = .ok (.aload_n 0, 1) := by decide +kernel
theorem dX7_init_155 : decode cX7_init 155 = .ok (.iconst 3, 1) := by decide +kernel
theorem dX7_init_156 : decode cX7_init 156 = .ok (.newarray .int, 2) := by decide +kernel
theorem dX7_init_158 : decode cX7_init 158 = .ok (.putfield 71, 3) := by decide +kernel
theorem dX7_init_161 : decode cX7_init 161 = .ok (.aload_n 0, 1) := by decide +kernel
theorem dX7_init_162 : decode cX7_init 162 = .ok (.iconst 3, 1) := by decide +kernel
theorem dX7_init_163 : decode cX7_init 163 = .ok (.newarray .int, 2) := by decide +kernel
theorem dX7_init_165 : decode cX7_init 165 = .ok (.putfield 74, 3) := by decide +kernel
theorem dX7_init_168 : decode cX7_init 168 = .ok (.aload_n 0, 1) := by decide +kernel
theorem dX7_init_169 : decode cX7_init 169 = .ok (.sipush 192, 3) := by decide +kernel
theorem dX7_init_172 : decode cX7_init 172 = .ok (.newarray .int, 2) := by decide +kernel
theorem dX7_init_174 : decode cX7_init 174 = .ok (.putfield 77, 3) := by decide +kernel
theorem dX7_init_177 : decode cX7_init 177 = .ok (.aload_n 0, 1) := by decide +kernel
theorem dX7_init_178 : decode cX7_init 178 = .ok (.sipush 192, 3) := by decide +kernel
theorem dX7_init_181 : decode cX7_init 181 = .ok (.newarray .int, 2) := by decide +kernel
theorem dX7_init_183 : decode cX7_init 183 = .ok (.putfield 80, 3) := by decide +kernel
theorem dX7_init_186 : decode cX7_init 186 = .ok (.aload_n 0, 1) := by decide +kernel
theorem dX7_init_187 : decode cX7_init 187 = .ok (.iconst 3, 1) := by decide +kernel
theorem dX7_init_188 : decode cX7_init 188 = .ok (.newarray .int, 2) := by decide +kernel
theorem dX7_init_190 : decode cX7_init 190 = .ok (.putfield 83, 3) := by decide +kernel
theorem dX7_init_193 : decode cX7_init 193 = .ok (.aload_n 0, 1) := by decide +kernel
theorem dX7_init_194 : decode cX7_init 194 = .ok (.iconst 3, 1) := by decide +kernel
theorem dX7_init_195 : decode cX7_init 195 = .ok (.newarray .int, 2) := by decide +kernel
theorem dX7_init_197 : decode cX7_init 197 = .ok (.putfield 86, 3) := by decide +kernel
theorem dX7_init_200 : decode cX7_init 200 = .ok (.aload_n 0, 1) := by decide +kernel
theorem dX7_init_201 : decode cX7_init 201 = .ok (.bipush 24, 2) := by decide +kernel
theorem dX7_init_203 : decode cX7_init 203 = .ok (.newarray .int, 2) := by decide +kernel
theorem dX7_init_205 : decode cX7_init 205 = .ok (.putfield 89, 3) := by decide +kernel
theorem dX7_init_208 : decode cX7_init 208 = .ok (.aload_n 0, 1) := by decide +kernel
theorem dX7_init_209 : decode cX7_init 209 = .ok (.bipush 24, 2) := by decide +kernel
theorem dX7_init_211 : decode cX7_init 211 = .ok (.newarray .int, 2) := by decide +kernel
theorem dX7_init_213 : decode cX7_init 213 = .ok (.putfield 92, 3) := by decide +kernel
theorem dX7_init_216 : decode cX7_init 216 = .ok (.aload_n 0, 1) := by decide +kernel
theorem dX7_init_217 : decode cX7_init 217 = .ok (.bipush 24, 2) := by decide +kernel
theorem dX7_init_219 : decode cX7_init 219 = .ok (.newarray .int, 2) := by decide +kernel
theorem dX7_init_221 : decode cX7_init 221 = .ok (.putfield 95, 3) := by decide +kernel
theorem dX7_init_224 : decode cX7_init 224 = .ok (.aload_n 0, 1) := by decide +kernel
theorem dX7_init_225 : decode cX7_init 225 = .ok (.bipush 24, 2) := by decide +kernel
theorem dX7_init_227 : decode cX7_init 227 = .ok (.newarray .int, 2) := by decide +kernel
theorem dX7_init_229 : decode cX7_init 229 = .ok (.putfield 98, 3) := by decide +kernel
theorem dX7_init_232 : decode cX7_init 232 = .ok (.aload_n 0, 1) := by decide +kernel
theorem dX7_init_233 : decode cX7_init 233 = .ok (.iconst 5, 1) := by decide +kernel
theorem dX7_init_234 : decode cX7_init 234 = .ok (.newarray .boolean, 2) := by decide +kernel
theorem dX7_init_236 : decode cX7_init 236 = .ok (.putfield 101, 3) := by decide +kernel
theorem dX7_init_239 : decode cX7_init 239 = .ok (.aload_n 0, 1) := by decide +kernel
theorem dX7_init_240 : decode cX7_init 240 = .ok (.bipush 24, 2) := by decide +kernel
theorem dX7_init_242 : decode cX7_init 242 = .ok (.newarray .int, 2) := by decide +kernel
theorem dX7_init_244 : decode cX7_init 244 = .ok (.putfield 104, 3) := by decide +kernel
theorem dX7_init_247 : decode cX7_init 247 = .ok (.iconst 0, 1) := by decide +kernel
theorem dX7_init_248 : decode cX7_init 248 = .ok (.istore_n 1, 1) := by decide +kernel
theorem dX7_init_249 : decode cX7_init 249 = .ok (.iload_n 1, 1) := by decide +kernel
theorem dX7_init_250 : decode cX7_init 250 = .ok (.iconst 3, 1) := by decide +kernel
theorem dX7_init_251 : decode cX7_init 251 = .ok (.if_icmp .ge 16, 3) := by decide +kernel
theorem dX7_init_254 : decode cX7_init 254 = .ok (.aload_n 0, 1) := by decide +kernel
theorem dX7_init_255 : decode cX7_init 255 = .ok (.getfield 7, 3) := by decide +kernel
theorem dX7_init_258 : decode cX7_init 258 = .ok (.iload_n 1, 1) := by decide +kernel
theorem dX7_init_259 : decode cX7_init 259 = .ok (.iconst 1, 1) := by decide +kernel
theorem dX7_init_260 : decode cX7_init 260 = .ok (.iastore, 1) := by decide +kernel
theorem dX7_init_261 : decode cX7_init 261 = .ok (.iinc 1 1, 3) := by decide +kernel
theorem dX7_init_264 : decode cX7_init 264 = .ok (.goto (-15), 3) := by decide +kernel
theorem dX7_init_267 : decode cX7_init 267 = .ok (.return_, 1) := by decide +kernel
theorem dX7_out_0 : decode cX7_out 0 = .ok (.iload_n 0, 1) := by decide +kernel
theorem dX7_out_1 : decode cX7_out 1 = .ok (.ifCond .lt 8, 3) := by decide +kernel
theorem dX7_out_4 : decode cX7_out 4 = .ok (.iload_n 0, 1) := by decide +kernel
theorem dX7_out_5 : decode cX7_out 5 = .ok (.iconst 2, 1) := by decide +kernel
theorem dX7_out_6 : decode cX7_out 6 = .ok (.if_icmp .le 7, 3) := by decide +kernel
theorem dX7_out_9 : decode cX7_out 9 = .ok (.iconst 1, 1) := by decide +kernel
theorem dX7_out_10 : decode cX7_out 10 = .ok (.goto 4, 3) := by decide +kernel
theorem dX7_out_13 : decode cX7_out 13 = .ok (.iconst 0, 1) := by decide +kernel
theorem dX7_out_14 : decode cX7_out 14 = .ok (.ireturn, 1) := by decide +kernel
theorem dX7_find_0 : decode cX7_find 0 = .ok (.iconst 0, 1) := by decide +kernel
theorem dX7_find_1 : decode cX7_find 1 = .ok (.istore_n 2, 1) := by decide +kernel
theorem dX7_find_2 : decode cX7_find 2 = .ok (.iload_n 2, 1) := by decide +kernel
theorem dX7_find_3 : decode cX7_find 3 = .ok (.aload_n 0, 1) := by decide +kernel
theorem dX7_find_4 : decode cX7_find 4 = .ok (.getfield 107, 3) := by decide +kernel
theorem dX7_find_7 : decode cX7_find 7 = .ok (.if_icmp .ge 21, 3) := by decide +kernel
theorem dX7_find_10 : decode cX7_find 10 = .ok (.aload_n 0, 1) := by decide +kernel
theorem dX7_find_11 : decode cX7_find 11 = .ok (.getfield 89, 3) := by decide +kernel
theorem dX7_find_14 : decode cX7_find 14 = .ok (.iload_n 2, 1) := by decide +kernel
theorem dX7_find_15 : decode cX7_find 15 = .ok (.iaload, 1) := by decide +kernel
theorem dX7_find_16 : decode cX7_find 16 = .ok (.iload_n 1, 1) := by decide +kernel
theorem dX7_find_17 : decode cX7_find 17 = .ok (.if_icmp .ne 5, 3) := by decide +kernel
theorem dX7_find_20 : decode cX7_find 20 = .ok (.iload_n 2, 1) := by decide +kernel
theorem dX7_find_21 : decode cX7_find 21 = .ok (.ireturn, 1) := by decide +kernel
theorem dX7_find_22 : decode cX7_find 22 = .ok (.iinc 2 1, 3) := by decide +kernel
theorem dX7_find_25 : decode cX7_find 25 = .ok (.goto (-23), 3) := by decide +kernel
theorem dX7_find_28 : decode cX7_find 28 = .ok (.iconst (-1), 1) := by decide +kernel
theorem dX7_find_29 : decode cX7_find 29 = .ok (.ireturn, 1) := by decide +kernel
theorem dX7_children_0 : decode cX7_children 0 = .ok (.iconst 0, 1) := by decide +kernel
theorem dX7_children_1 : decode cX7_children 1 = .ok (.istore_n 2, 1) := by decide +kernel
theorem dX7_children_2 : decode cX7_children 2 = .ok (.iconst 0, 1) := by decide +kernel
theorem dX7_children_3 : decode cX7_children 3 = .ok (.istore_n 3, 1) := by decide +kernel
theorem dX7_children_4 : decode cX7_children 4 = .ok (.iload_n 3, 1) := by decide +kernel
theorem dX7_children_5 : decode cX7_children 5 = .ok (.aload_n 0, 1) := by decide +kernel
theorem dX7_children_6 : decode cX7_children 6 = .ok (.getfield 107, 3) := by decide +kernel
theorem dX7_children_9 : decode cX7_children 9 = .ok (.if_icmp .ge 39, 3) := by decide +kernel
theorem dX7_children_12 : decode cX7_children 12 = .ok (.aload_n 0, 1) := by decide +kernel
theorem dX7_children_13 : decode cX7_children 13 = .ok (.getfield 89, 3) := by decide +kernel
theorem dX7_children_16 : decode cX7_children 16 = .ok (.iload_n 3, 1) := by decide +kernel
theorem dX7_children_17 : decode cX7_children 17 = .ok (.iaload, 1) := by decide +kernel
theorem dX7_children_18 : decode cX7_children 18 = .ok (.ifCond .le 22, 3) := by decide +kernel
theorem dX7_children_21 : decode cX7_children 21 = .ok (.aload_n 0, 1) := by decide +kernel
theorem dX7_children_22 : decode cX7_children 22 = .ok (.getfield 89, 3) := by decide +kernel
theorem dX7_children_25 : decode cX7_children 25 = .ok (.iload_n 3, 1) := by decide +kernel
theorem dX7_children_26 : decode cX7_children 26 = .ok (.iaload, 1) := by decide +kernel
theorem dX7_children_27 : decode cX7_children 27 = .ok (.bipush 8, 2) := by decide +kernel
theorem dX7_children_29 : decode cX7_children 29 = .ok (.idiv, 1) := by decide +kernel
theorem dX7_children_30 : decode cX7_children 30 = .ok (.iload_n 1, 1) := by decide +kernel
theorem dX7_children_31 : decode cX7_children 31 = .ok (.if_icmp .ne 9, 3) := by decide +kernel
theorem dX7_children_34 : decode cX7_children 34 = .ok (.iload_n 2, 1) := by decide +kernel
theorem dX7_children_35 : decode cX7_children 35 = .ok (.iconst 1, 1) := by decide +kernel
theorem dX7_children_36 : decode cX7_children 36 = .ok (.iadd, 1) := by decide +kernel
theorem dX7_children_37 : decode cX7_children 37 = .ok (.goto 4, 3) := by decide +kernel
theorem dX7_children_40 : decode cX7_children 40 = .ok (.iload_n 2, 1) := by decide +kernel
theorem dX7_children_41 : decode cX7_children 41 = .ok (.istore_n 2, 1) := by decide +kernel
theorem dX7_children_42 : decode cX7_children 42 = .ok (.iinc 3 1, 3) := by decide +kernel
theorem dX7_children_45 : decode cX7_children 45 = .ok (.goto (-41), 3) := by decide +kernel
theorem dX7_children_48 : decode cX7_children 48 = .ok (.iload_n 2, 1) := by decide +kernel
theorem dX7_children_49 : decode cX7_children 49 = .ok (.ireturn, 1) := by decide +kernel
theorem dX7_create_0 : decode cX7_create 0 = .ok (.iload_n 3, 1) := by decide +kernel
theorem dX7_create_1 : decode cX7_create 1 = .ok (.ifCond .eq 15, 3) := by decide +kernel
theorem dX7_create_4 : decode cX7_create 4 = .ok (.aload_n 0, 1) := by decide +kernel
theorem dX7_create_5 : decode cX7_create 5 = .ok (.getfield 101, 3) := by decide +kernel
theorem dX7_create_8 : decode cX7_create 8 = .ok (.iload_n 3, 1) := by decide +kernel
theorem dX7_create_9 : decode cX7_create 9 = .ok (.baload, 1) := by decide +kernel
theorem dX7_create_10 : decode cX7_create 10 = .ok (.ifCond .ne 6, 3) := by decide +kernel
theorem dX7_create_13 : decode cX7_create 13 = .ok (.bipush 6, 2) := by decide +kernel
theorem dX7_create_15 : decode cX7_create 15 = .ok (.ireturn, 1) := by decide +kernel
theorem dX7_create_16 : decode cX7_create 16 = .ok (.aload_n 0, 1) := by decide +kernel
theorem dX7_create_17 : decode cX7_create 17 = .ok (.iload_n 1, 1) := by decide +kernel
theorem dX7_create_18 : decode cX7_create 18 = .ok (.invokevirtual 111, 3) := by decide +kernel
theorem dX7_create_21 : decode cX7_create 21 = .ok (.ifCond .lt 5, 3) := by decide +kernel
theorem dX7_create_24 : decode cX7_create 24 = .ok (.iconst 2, 1) := by decide +kernel
theorem dX7_create_25 : decode cX7_create 25 = .ok (.ireturn, 1) := by decide +kernel
theorem dX7_create_26 : decode cX7_create 26 = .ok (.aload_n 0, 1) := by decide +kernel
theorem dX7_create_27 : decode cX7_create 27 = .ok (.iload_n 1, 1) := by decide +kernel
theorem dX7_create_28 : decode cX7_create 28 = .ok (.bipush 8, 2) := by decide +kernel
theorem dX7_create_30 : decode cX7_create 30 = .ok (.idiv, 1) := by decide +kernel
theorem dX7_create_31 : decode cX7_create 31 = .ok (.invokevirtual 111, 3) := by decide +kernel
theorem dX7_create_34 : decode cX7_create 34 = .ok (.istore 4, 2) := by decide +kernel
theorem dX7_create_36 : decode cX7_create 36 = .ok (.iload_n 1, 1) := by decide +kernel
theorem dX7_create_37 : decode cX7_create 37 = .ok (.bipush 8, 2) := by decide +kernel
theorem dX7_create_39 : decode cX7_create 39 = .ok (.idiv, 1) := by decide +kernel
theorem dX7_create_40 : decode cX7_create 40 = .ok (.ifCond .le 10, 3) := by decide +kernel
theorem dX7_create_43 : decode cX7_create 43 = .ok (.iload 4, 2) := by decide +kernel
theorem dX7_create_45 : decode cX7_create 45 = .ok (.ifCond .ge 5, 3) := by decide +kernel
theorem dX7_create_48 : decode cX7_create 48 = .ok (.iconst 1, 1) := by decide +kernel
theorem dX7_create_49 : decode cX7_create 49 = .ok (.ireturn, 1) := by decide +kernel
theorem dX7_create_50 : decode cX7_create 50 = .ok (.iload_n 1, 1) := by decide +kernel
theorem dX7_create_51 : decode cX7_create 51 = .ok (.bipush 8, 2) := by decide +kernel
theorem dX7_create_53 : decode cX7_create 53 = .ok (.idiv, 1) := by decide +kernel
theorem dX7_create_54 : decode cX7_create 54 = .ok (.ifCond .le 15, 3) := by decide +kernel
theorem dX7_create_57 : decode cX7_create 57 = .ok (.aload_n 0, 1) := by decide +kernel
theorem dX7_create_58 : decode cX7_create 58 = .ok (.getfield 98, 3) := by decide +kernel
theorem dX7_create_61 : decode cX7_create 61 = .ok (.iload 4, 2) := by decide +kernel
theorem dX7_create_63 : decode cX7_create 63 = .ok (.iaload, 1) := by decide +kernel
theorem dX7_create_64 : decode cX7_create 64 = .ok (.ifCond .eq 5, 3) := by decide +kernel
theorem dX7_create_67 : decode cX7_create 67 = .ok (.iconst 3, 1) := by decide +kernel
theorem dX7_create_68 : decode cX7_create 68 = .ok (.ireturn, 1) := by decide +kernel
theorem dX7_create_69 : decode cX7_create 69 = .ok (.aload_n 0, 1) := by decide +kernel
theorem dX7_create_70 : decode cX7_create 70 = .ok (.getfield 89, 3) := by decide +kernel
theorem dX7_create_73 : decode cX7_create 73 = .ok (.aload_n 0, 1) := by decide +kernel
theorem dX7_create_74 : decode cX7_create 74 = .ok (.getfield 107, 3) := by decide +kernel
theorem dX7_create_77 : decode cX7_create 77 = .ok (.iload_n 1, 1) := by decide +kernel
theorem dX7_create_78 : decode cX7_create 78 = .ok (.iastore, 1) := by decide +kernel
theorem dX7_create_79 : decode cX7_create 79 = .ok (.aload_n 0, 1) := by decide +kernel
theorem dX7_create_80 : decode cX7_create 80 = .ok (.getfield 92, 3) := by decide +kernel
theorem dX7_create_83 : decode cX7_create 83 = .ok (.aload_n 0, 1) := by decide +kernel
theorem dX7_create_84 : decode cX7_create 84 = .ok (.getfield 107, 3) := by decide +kernel
theorem dX7_create_87 : decode cX7_create 87 = .ok (.iload_n 2, 1) := by decide +kernel
theorem dX7_create_88 : decode cX7_create 88 = .ok (.iastore, 1) := by decide +kernel
theorem dX7_create_89 : decode cX7_create 89 = .ok (.aload_n 0, 1) := by decide +kernel
theorem dX7_create_90 : decode cX7_create 90 = .ok (.getfield 95, 3) := by decide +kernel
theorem dX7_create_93 : decode cX7_create 93 = .ok (.aload_n 0, 1) := by decide +kernel
theorem dX7_create_94 : decode cX7_create 94 = .ok (.getfield 107, 3) := by decide +kernel
theorem dX7_create_97 : decode cX7_create 97 = .ok (.iconst 0, 1) := by decide +kernel
theorem dX7_create_98 : decode cX7_create 98 = .ok (.iastore, 1) := by decide +kernel
theorem dX7_create_99 : decode cX7_create 99 = .ok (.aload_n 0, 1) := by decide +kernel
theorem dX7_create_100 : decode cX7_create 100 = .ok (.getfield 98, 3) := by decide +kernel
theorem dX7_create_103 : decode cX7_create 103 = .ok (.aload_n 0, 1) := by decide +kernel
theorem dX7_create_104 : decode cX7_create 104 = .ok (.getfield 107, 3) := by decide +kernel
theorem dX7_create_107 : decode cX7_create 107 = .ok (.iload_n 3, 1) := by decide +kernel
theorem dX7_create_108 : decode cX7_create 108 = .ok (.iastore, 1) := by decide +kernel
theorem dX7_create_109 : decode cX7_create 109 = .ok (.aload_n 0, 1) := by decide +kernel
theorem dX7_create_110 : decode cX7_create 110 = .ok (.dup, 1) := by decide +kernel
theorem dX7_create_111 : decode cX7_create 111 = .ok (.getfield 107, 3) := by decide +kernel
theorem dX7_create_114 : decode cX7_create 114 = .ok (.iconst 1, 1) := by decide +kernel
theorem dX7_create_115 : decode cX7_create 115 = .ok (.iadd, 1) := by decide +kernel
theorem dX7_create_116 : decode cX7_create 116 = .ok (.putfield 107, 3) := by decide +kernel
theorem dX7_create_119 : decode cX7_create 119 = .ok (.iconst 0, 1) := by decide +kernel
theorem dX7_create_120 : decode cX7_create 120 = .ok (.ireturn, 1) := by decide +kernel
theorem dX7_alter_0 : decode cX7_alter 0 = .ok (.aload_n 0, 1) := by decide +kernel
theorem dX7_alter_1 : decode cX7_alter 1 = .ok (.iload_n 2, 1) := by decide +kernel
theorem dX7_alter_2 : decode cX7_alter 2 = .ok (.invokevirtual 111, 3) := by decide +kernel
theorem dX7_alter_5 : decode cX7_alter 5 = .ok (.istore 5, 2) := by decide +kernel
theorem dX7_alter_7 : decode cX7_alter 7 = .ok (.iload 5, 2) := by decide +kernel
theorem dX7_alter_9 : decode cX7_alter 9 = .ok (.ifCond .ge 5, 3) := by decide +kernel
theorem dX7_alter_12 : decode cX7_alter 12 = .ok (.iconst 1, 1) := by decide +kernel
theorem dX7_alter_13 : decode cX7_alter 13 = .ok (.ireturn, 1) := by decide +kernel
theorem dX7_alter_14 : decode cX7_alter 14 = .ok (.iload 4, 2) := by decide +kernel
theorem dX7_alter_16 : decode cX7_alter 16 = .ok (.iconst (-1), 1) := by decide +kernel
theorem dX7_alter_17 : decode cX7_alter 17 = .ok (.if_icmp .eq 17, 3) := by decide +kernel
theorem dX7_alter_20 : decode cX7_alter 20 = .ok (.iload 4, 2) := by decide +kernel
theorem dX7_alter_22 : decode cX7_alter 22 = .ok (.aload_n 0, 1) := by decide +kernel
theorem dX7_alter_23 : decode cX7_alter 23 = .ok (.getfield 95, 3) := by decide +kernel
theorem dX7_alter_26 : decode cX7_alter 26 = .ok (.iload 5, 2) := by decide +kernel
theorem dX7_alter_28 : decode cX7_alter 28 = .ok (.iaload, 1) := by decide +kernel
theorem dX7_alter_29 : decode cX7_alter 29 = .ok (.if_icmp .eq 5, 3) := by decide +kernel
theorem dX7_alter_32 : decode cX7_alter 32 = .ok (.iconst 5, 1) := by decide +kernel
theorem dX7_alter_33 : decode cX7_alter 33 = .ok (.ireturn, 1) := by decide +kernel
theorem dX7_alter_34 : decode cX7_alter 34 = .ok (.iload_n 1, 1) := by decide +kernel
theorem dX7_alter_35 : decode cX7_alter 35 = .ok (.ifCond .ne 13, 3) := by decide +kernel
theorem dX7_alter_38 : decode cX7_alter 38 = .ok (.aload_n 0, 1) := by decide +kernel
theorem dX7_alter_39 : decode cX7_alter 39 = .ok (.iload_n 2, 1) := by decide +kernel
theorem dX7_alter_40 : decode cX7_alter 40 = .ok (.invokevirtual 115, 3) := by decide +kernel
theorem dX7_alter_43 : decode cX7_alter 43 = .ok (.ifCond .le 5, 3) := by decide +kernel
theorem dX7_alter_46 : decode cX7_alter 46 = .ok (.iconst 4, 1) := by decide +kernel
theorem dX7_alter_47 : decode cX7_alter 47 = .ok (.ireturn, 1) := by decide +kernel
theorem dX7_alter_48 : decode cX7_alter 48 = .ok (.iload_n 1, 1) := by decide +kernel
theorem dX7_alter_49 : decode cX7_alter 49 = .ok (.ifCond .eq 25, 3) := by decide +kernel
theorem dX7_alter_52 : decode cX7_alter 52 = .ok (.aload_n 0, 1) := by decide +kernel
theorem dX7_alter_53 : decode cX7_alter 53 = .ok (.getfield 92, 3) := by decide +kernel
theorem dX7_alter_56 : decode cX7_alter 56 = .ok (.iload 5, 2) := by decide +kernel
theorem dX7_alter_58 : decode cX7_alter 58 = .ok (.iload_n 3, 1) := by decide +kernel
theorem dX7_alter_59 : decode cX7_alter 59 = .ok (.iastore, 1) := by decide +kernel
theorem dX7_alter_60 : decode cX7_alter 60 = .ok (.aload_n 0, 1) := by decide +kernel
theorem dX7_alter_61 : decode cX7_alter 61 = .ok (.getfield 95, 3) := by decide +kernel
theorem dX7_alter_64 : decode cX7_alter 64 = .ok (.iload 5, 2) := by decide +kernel
theorem dX7_alter_66 : decode cX7_alter 66 = .ok (.dup2, 1) := by decide +kernel
theorem dX7_alter_67 : decode cX7_alter 67 = .ok (.iaload, 1) := by decide +kernel
theorem dX7_alter_68 : decode cX7_alter 68 = .ok (.iconst 1, 1) := by decide +kernel
theorem dX7_alter_69 : decode cX7_alter 69 = .ok (.iadd, 1) := by decide +kernel
theorem dX7_alter_70 : decode cX7_alter 70 = .ok (.iastore, 1) := by decide +kernel
theorem dX7_alter_71 : decode cX7_alter 71 = .ok (.goto 11, 3) := by decide +kernel
theorem dX7_alter_74 : decode cX7_alter 74 = .ok (.aload_n 0, 1) := by decide +kernel
theorem dX7_alter_75 : decode cX7_alter 75 = .ok (.getfield 89, 3) := by decide +kernel
theorem dX7_alter_78 : decode cX7_alter 78 = .ok (.iload 5, 2) := by decide +kernel
theorem dX7_alter_80 : decode cX7_alter 80 = .ok (.iconst (-1), 1) := by decide +kernel
theorem dX7_alter_81 : decode cX7_alter 81 = .ok (.iastore, 1) := by decide +kernel
theorem dX7_alter_82 : decode cX7_alter 82 = .ok (.iconst 0, 1) := by decide +kernel
theorem dX7_alter_83 : decode cX7_alter 83 = .ok (.ireturn, 1) := by decide +kernel
theorem dX7_session_0 : decode cX7_session 0 = .ok (.aload_n 0, 1) := by decide +kernel
theorem dX7_session_1 : decode cX7_session 1 = .ok (.getfield 101, 3) := by decide +kernel
theorem dX7_session_4 : decode cX7_session 4 = .ok (.iload_n 2, 1) := by decide +kernel
theorem dX7_session_5 : decode cX7_session 5 = .ok (.baload, 1) := by decide +kernel
theorem dX7_session_6 : decode cX7_session 6 = .ok (.iload_n 1, 1) := by decide +kernel
theorem dX7_session_7 : decode cX7_session 7 = .ok (.if_icmp .ne 14, 3) := by decide +kernel
theorem dX7_session_10 : decode cX7_session 10 = .ok (.iload_n 1, 1) := by decide +kernel
theorem dX7_session_11 : decode cX7_session 11 = .ok (.ifCond .eq 7, 3) := by decide +kernel
theorem dX7_session_14 : decode cX7_session 14 = .ok (.iconst 2, 1) := by decide +kernel
theorem dX7_session_15 : decode cX7_session 15 = .ok (.goto 5, 3) := by decide +kernel
theorem dX7_session_18 : decode cX7_session 18 = .ok (.bipush 6, 2) := by decide +kernel
theorem dX7_session_20 : decode cX7_session 20 = .ok (.ireturn, 1) := by decide +kernel
theorem dX7_session_21 : decode cX7_session 21 = .ok (.aload_n 0, 1) := by decide +kernel
theorem dX7_session_22 : decode cX7_session 22 = .ok (.getfield 101, 3) := by decide +kernel
theorem dX7_session_25 : decode cX7_session 25 = .ok (.iload_n 2, 1) := by decide +kernel
theorem dX7_session_26 : decode cX7_session 26 = .ok (.iload_n 1, 1) := by decide +kernel
theorem dX7_session_27 : decode cX7_session 27 = .ok (.bastore, 1) := by decide +kernel
theorem dX7_session_28 : decode cX7_session 28 = .ok (.iconst 0, 1) := by decide +kernel
theorem dX7_session_29 : decode cX7_session 29 = .ok (.istore_n 3, 1) := by decide +kernel
theorem dX7_session_30 : decode cX7_session 30 = .ok (.iload_n 3, 1) := by decide +kernel
theorem dX7_session_31 : decode cX7_session 31 = .ok (.aload_n 0, 1) := by decide +kernel
theorem dX7_session_32 : decode cX7_session 32 = .ok (.getfield 107, 3) := by decide +kernel
theorem dX7_session_35 : decode cX7_session 35 = .ok (.if_icmp .ge 30, 3) := by decide +kernel
theorem dX7_session_38 : decode cX7_session 38 = .ok (.iload_n 1, 1) := by decide +kernel
theorem dX7_session_39 : decode cX7_session 39 = .ok (.ifCond .ne 20, 3) := by decide +kernel
theorem dX7_session_42 : decode cX7_session 42 = .ok (.aload_n 0, 1) := by decide +kernel
theorem dX7_session_43 : decode cX7_session 43 = .ok (.getfield 98, 3) := by decide +kernel
theorem dX7_session_46 : decode cX7_session 46 = .ok (.iload_n 3, 1) := by decide +kernel
theorem dX7_session_47 : decode cX7_session 47 = .ok (.iaload, 1) := by decide +kernel
theorem dX7_session_48 : decode cX7_session 48 = .ok (.iload_n 2, 1) := by decide +kernel
theorem dX7_session_49 : decode cX7_session 49 = .ok (.if_icmp .ne 10, 3) := by decide +kernel
theorem dX7_session_52 : decode cX7_session 52 = .ok (.aload_n 0, 1) := by decide +kernel
theorem dX7_session_53 : decode cX7_session 53 = .ok (.getfield 89, 3) := by decide +kernel
theorem dX7_session_56 : decode cX7_session 56 = .ok (.iload_n 3, 1) := by decide +kernel
theorem dX7_session_57 : decode cX7_session 57 = .ok (.iconst (-1), 1) := by decide +kernel
theorem dX7_session_58 : decode cX7_session 58 = .ok (.iastore, 1) := by decide +kernel
theorem dX7_session_59 : decode cX7_session 59 = .ok (.iinc 3 1, 3) := by decide +kernel
theorem dX7_session_62 : decode cX7_session 62 = .ok (.goto (-32), 3) := by decide +kernel
theorem dX7_session_65 : decode cX7_session 65 = .ok (.iconst 0, 1) := by decide +kernel
theorem dX7_session_66 : decode cX7_session 66 = .ok (.ireturn, 1) := by decide +kernel
theorem dX7_work_0 : decode cX7_work 0 = .ok (.aload_n 0, 1) := by decide +kernel
theorem dX7_work_1 : decode cX7_work 1 = .ok (.iconst 0, 1) := by decide +kernel
theorem dX7_work_2 : decode cX7_work 2 = .ok (.putfield 107, 3) := by decide +kernel
theorem dX7_work_5 : decode cX7_work 5 = .ok (.iconst 0, 1) := by decide +kernel
theorem dX7_work_6 : decode cX7_work 6 = .ok (.istore_n 2, 1) := by decide +kernel
theorem dX7_work_7 : decode cX7_work 7 = .ok (.iload_n 2, 1) := by decide +kernel
theorem dX7_work_8 : decode cX7_work 8 = .ok (.iconst 5, 1) := by decide +kernel
theorem dX7_work_9 : decode cX7_work 9 = .ok (.if_icmp .ge 16, 3) := by decide +kernel
theorem dX7_work_12 : decode cX7_work 12 = .ok (.aload_n 0, 1) := by decide +kernel
theorem dX7_work_13 : decode cX7_work 13 = .ok (.getfield 101, 3) := by decide +kernel
theorem dX7_work_16 : decode cX7_work 16 = .ok (.iload_n 2, 1) := by decide +kernel
theorem dX7_work_17 : decode cX7_work 17 = .ok (.iconst 0, 1) := by decide +kernel
theorem dX7_work_18 : decode cX7_work 18 = .ok (.bastore, 1) := by decide +kernel
theorem dX7_work_19 : decode cX7_work 19 = .ok (.iinc 2 1, 3) := by decide +kernel
theorem dX7_work_22 : decode cX7_work 22 = .ok (.goto (-15), 3) := by decide +kernel
theorem dX7_work_25 : decode cX7_work 25 = .ok (.iconst 0, 1) := by decide +kernel
theorem dX7_work_26 : decode cX7_work 26 = .ok (.istore_n 2, 1) := by decide +kernel
theorem dX7_work_27 : decode cX7_work 27 = .ok (.iload_n 2, 1) := by decide +kernel
theorem dX7_work_28 : decode cX7_work 28 = .ok (.aload_n 0, 1) := by decide +kernel
theorem dX7_work_29 : decode cX7_work 29 = .ok (.getfield 19, 3) := by decide +kernel
theorem dX7_work_32 : decode cX7_work 32 = .ok (.iload_n 1, 1) := by decide +kernel
theorem dX7_work_33 : decode cX7_work 33 = .ok (.iaload, 1) := by decide +kernel
theorem dX7_work_34 : decode cX7_work 34 = .ok (.if_icmp .ge 140, 3) := by decide +kernel
theorem dX7_work_37 : decode cX7_work 37 = .ok (.bipush 24, 2) := by decide +kernel
theorem dX7_work_39 : decode cX7_work 39 = .ok (.iload_n 1, 1) := by decide +kernel
theorem dX7_work_40 : decode cX7_work 40 = .ok (.imul, 1) := by decide +kernel
theorem dX7_work_41 : decode cX7_work 41 = .ok (.iload_n 2, 1) := by decide +kernel
theorem dX7_work_42 : decode cX7_work 42 = .ok (.iadd, 1) := by decide +kernel
theorem dX7_work_43 : decode cX7_work 43 = .ok (.istore_n 3, 1) := by decide +kernel
theorem dX7_work_44 : decode cX7_work 44 = .ok (.aload_n 0, 1) := by decide +kernel
theorem dX7_work_45 : decode cX7_work 45 = .ok (.getfield 34, 3) := by decide +kernel
theorem dX7_work_48 : decode cX7_work 48 = .ok (.iload_n 3, 1) := by decide +kernel
theorem dX7_work_49 : decode cX7_work 49 = .ok (.iaload, 1) := by decide +kernel
theorem dX7_work_50 : decode cX7_work 50 = .ok (.istore 4, 2) := by decide +kernel
theorem dX7_work_52 : decode cX7_work 52 = .ok (.aload_n 0, 1) := by decide +kernel
theorem dX7_work_53 : decode cX7_work 53 = .ok (.getfield 37, 3) := by decide +kernel
theorem dX7_work_56 : decode cX7_work 56 = .ok (.iload_n 3, 1) := by decide +kernel
theorem dX7_work_57 : decode cX7_work 57 = .ok (.iaload, 1) := by decide +kernel
theorem dX7_work_58 : decode cX7_work 58 = .ok (.istore 5, 2) := by decide +kernel
theorem dX7_work_60 : decode cX7_work 60 = .ok (.aload_n 0, 1) := by decide +kernel
theorem dX7_work_61 : decode cX7_work 61 = .ok (.getfield 28, 3) := by decide +kernel
theorem dX7_work_64 : decode cX7_work 64 = .ok (.iload_n 3, 1) := by decide +kernel
theorem dX7_work_65 : decode cX7_work 65 = .ok (.iaload, 1) := by decide +kernel
theorem dX7_work_66 : decode cX7_work 66 = .ok (.iconst 1, 1) := by decide +kernel
theorem dX7_work_67 : decode cX7_work 67 = .ok (.if_icmp .ne 26, 3) := by decide +kernel
theorem dX7_work_70 : decode cX7_work 70 = .ok (.aload_n 0, 1) := by decide +kernel
theorem dX7_work_71 : decode cX7_work 71 = .ok (.getfield 104, 3) := by decide +kernel
theorem dX7_work_74 : decode cX7_work 74 = .ok (.iload_n 2, 1) := by decide +kernel
theorem dX7_work_75 : decode cX7_work 75 = .ok (.aload_n 0, 1) := by decide +kernel
theorem dX7_work_76 : decode cX7_work 76 = .ok (.aload_n 0, 1) := by decide +kernel
theorem dX7_work_77 : decode cX7_work 77 = .ok (.getfield 31, 3) := by decide +kernel
theorem dX7_work_80 : decode cX7_work 80 = .ok (.iload_n 3, 1) := by decide +kernel
theorem dX7_work_81 : decode cX7_work 81 = .ok (.iaload, 1) := by decide +kernel
theorem dX7_work_82 : decode cX7_work 82 = .ok (.iload 4, 2) := by decide +kernel
theorem dX7_work_84 : decode cX7_work 84 = .ok (.iload 5, 2) := by decide +kernel
theorem dX7_work_86 : decode cX7_work 86 = .ok (.invokevirtual 118, 3) := by decide +kernel
theorem dX7_work_89 : decode cX7_work 89 = .ok (.iastore, 1) := by decide +kernel
theorem dX7_work_90 : decode cX7_work 90 = .ok (.goto 78, 3) := by decide +kernel
theorem dX7_work_93 : decode cX7_work 93 = .ok (.aload_n 0, 1) := by decide +kernel
theorem dX7_work_94 : decode cX7_work 94 = .ok (.getfield 28, 3) := by decide +kernel
theorem dX7_work_97 : decode cX7_work 97 = .ok (.iload_n 3, 1) := by decide +kernel
theorem dX7_work_98 : decode cX7_work 98 = .ok (.iaload, 1) := by decide +kernel
theorem dX7_work_99 : decode cX7_work 99 = .ok (.iconst 3, 1) := by decide +kernel
theorem dX7_work_100 : decode cX7_work 100 = .ok (.if_icmp .gt 41, 3) := by decide +kernel
theorem dX7_work_103 : decode cX7_work 103 = .ok (.aload_n 0, 1) := by decide +kernel
theorem dX7_work_104 : decode cX7_work 104 = .ok (.getfield 104, 3) := by decide +kernel
theorem dX7_work_107 : decode cX7_work 107 = .ok (.iload_n 2, 1) := by decide +kernel
theorem dX7_work_108 : decode cX7_work 108 = .ok (.aload_n 0, 1) := by decide +kernel
theorem dX7_work_109 : decode cX7_work 109 = .ok (.aload_n 0, 1) := by decide +kernel
theorem dX7_work_110 : decode cX7_work 110 = .ok (.getfield 28, 3) := by decide +kernel
theorem dX7_work_113 : decode cX7_work 113 = .ok (.iload_n 3, 1) := by decide +kernel
theorem dX7_work_114 : decode cX7_work 114 = .ok (.iaload, 1) := by decide +kernel
theorem dX7_work_115 : decode cX7_work 115 = .ok (.iconst 2, 1) := by decide +kernel
theorem dX7_work_116 : decode cX7_work 116 = .ok (.if_icmp .ne 7, 3) := by decide +kernel
theorem dX7_work_119 : decode cX7_work 119 = .ok (.iconst 1, 1) := by decide +kernel
theorem dX7_work_120 : decode cX7_work 120 = .ok (.goto 4, 3) := by decide +kernel
theorem dX7_work_123 : decode cX7_work 123 = .ok (.iconst 0, 1) := by decide +kernel
theorem dX7_work_124 : decode cX7_work 124 = .ok (.aload_n 0, 1) := by decide +kernel
theorem dX7_work_125 : decode cX7_work 125 = .ok (.getfield 31, 3) := by decide +kernel
theorem dX7_work_128 : decode cX7_work 128 = .ok (.iload_n 3, 1) := by decide +kernel
theorem dX7_work_129 : decode cX7_work 129 = .ok (.iaload, 1) := by decide +kernel
theorem dX7_work_130 : decode cX7_work 130 = .ok (.iload 4, 2) := by decide +kernel
theorem dX7_work_132 : decode cX7_work 132 = .ok (.iload 5, 2) := by decide +kernel
theorem dX7_work_134 : decode cX7_work 134 = .ok (.invokevirtual 122, 3) := by decide +kernel
theorem dX7_work_137 : decode cX7_work 137 = .ok (.iastore, 1) := by decide +kernel
theorem dX7_work_138 : decode cX7_work 138 = .ok (.goto 30, 3) := by decide +kernel
theorem dX7_work_141 : decode cX7_work 141 = .ok (.aload_n 0, 1) := by decide +kernel
theorem dX7_work_142 : decode cX7_work 142 = .ok (.getfield 104, 3) := by decide +kernel
theorem dX7_work_145 : decode cX7_work 145 = .ok (.iload_n 2, 1) := by decide +kernel
theorem dX7_work_146 : decode cX7_work 146 = .ok (.aload_n 0, 1) := by decide +kernel
theorem dX7_work_147 : decode cX7_work 147 = .ok (.aload_n 0, 1) := by decide +kernel
theorem dX7_work_148 : decode cX7_work 148 = .ok (.getfield 28, 3) := by decide +kernel
theorem dX7_work_151 : decode cX7_work 151 = .ok (.iload_n 3, 1) := by decide +kernel
theorem dX7_work_152 : decode cX7_work 152 = .ok (.iaload, 1) := by decide +kernel
theorem dX7_work_153 : decode cX7_work 153 = .ok (.iconst 4, 1) := by decide +kernel
theorem dX7_work_154 : decode cX7_work 154 = .ok (.if_icmp .ne 7, 3) := by decide +kernel
theorem dX7_work_157 : decode cX7_work 157 = .ok (.iconst 1, 1) := by decide +kernel
theorem dX7_work_158 : decode cX7_work 158 = .ok (.goto 4, 3) := by decide +kernel
theorem dX7_work_161 : decode cX7_work 161 = .ok (.iconst 0, 1) := by decide +kernel
theorem dX7_work_162 : decode cX7_work 162 = .ok (.iload 5, 2) := by decide +kernel
theorem dX7_work_164 : decode cX7_work 164 = .ok (.invokevirtual 126, 3) := by decide +kernel
theorem dX7_work_167 : decode cX7_work 167 = .ok (.iastore, 1) := by decide +kernel
theorem dX7_work_168 : decode cX7_work 168 = .ok (.iinc 2 1, 3) := by decide +kernel
theorem dX7_work_171 : decode cX7_work 171 = .ok (.goto (-144), 3) := by decide +kernel
theorem dX7_work_174 : decode cX7_work 174 = .ok (.return_, 1) := by decide +kernel
theorem dX7_cut_0 : decode cX7_cut 0 = .ok (.aload_n 0, 1) := by decide +kernel
theorem dX7_cut_1 : decode cX7_cut 1 = .ok (.getfield 7, 3) := by decide +kernel
theorem dX7_cut_4 : decode cX7_cut 4 = .ok (.iload_n 1, 1) := by decide +kernel
theorem dX7_cut_5 : decode cX7_cut 5 = .ok (.iconst 1, 1) := by decide +kernel
theorem dX7_cut_6 : decode cX7_cut 6 = .ok (.iastore, 1) := by decide +kernel
theorem dX7_cut_7 : decode cX7_cut 7 = .ok (.aload_n 0, 1) := by decide +kernel
theorem dX7_cut_8 : decode cX7_cut 8 = .ok (.getfield 56, 3) := by decide +kernel
theorem dX7_cut_11 : decode cX7_cut 11 = .ok (.iload_n 1, 1) := by decide +kernel
theorem dX7_cut_12 : decode cX7_cut 12 = .ok (.iconst 0, 1) := by decide +kernel
theorem dX7_cut_13 : decode cX7_cut 13 = .ok (.bastore, 1) := by decide +kernel
theorem dX7_cut_14 : decode cX7_cut 14 = .ok (.aload_n 0, 1) := by decide +kernel
theorem dX7_cut_15 : decode cX7_cut 15 = .ok (.getfield 59, 3) := by decide +kernel
theorem dX7_cut_18 : decode cX7_cut 18 = .ok (.iload_n 1, 1) := by decide +kernel
theorem dX7_cut_19 : decode cX7_cut 19 = .ok (.iconst 0, 1) := by decide +kernel
theorem dX7_cut_20 : decode cX7_cut 20 = .ok (.bastore, 1) := by decide +kernel
theorem dX7_cut_21 : decode cX7_cut 21 = .ok (.aload_n 0, 1) := by decide +kernel
theorem dX7_cut_22 : decode cX7_cut 22 = .ok (.getfield 62, 3) := by decide +kernel
theorem dX7_cut_25 : decode cX7_cut 25 = .ok (.iload_n 1, 1) := by decide +kernel
theorem dX7_cut_26 : decode cX7_cut 26 = .ok (.iconst 0, 1) := by decide +kernel
theorem dX7_cut_27 : decode cX7_cut 27 = .ok (.bastore, 1) := by decide +kernel
theorem dX7_cut_28 : decode cX7_cut 28 = .ok (.aload_n 0, 1) := by decide +kernel
theorem dX7_cut_29 : decode cX7_cut 29 = .ok (.getfield 71, 3) := by decide +kernel
theorem dX7_cut_32 : decode cX7_cut 32 = .ok (.iload_n 1, 1) := by decide +kernel
theorem dX7_cut_33 : decode cX7_cut 33 = .ok (.iconst 0, 1) := by decide +kernel
theorem dX7_cut_34 : decode cX7_cut 34 = .ok (.iastore, 1) := by decide +kernel
theorem dX7_cut_35 : decode cX7_cut 35 = .ok (.aload_n 0, 1) := by decide +kernel
theorem dX7_cut_36 : decode cX7_cut 36 = .ok (.getfield 74, 3) := by decide +kernel
theorem dX7_cut_39 : decode cX7_cut 39 = .ok (.iload_n 1, 1) := by decide +kernel
theorem dX7_cut_40 : decode cX7_cut 40 = .ok (.iconst 0, 1) := by decide +kernel
theorem dX7_cut_41 : decode cX7_cut 41 = .ok (.iastore, 1) := by decide +kernel
theorem dX7_cut_42 : decode cX7_cut 42 = .ok (.aload_n 0, 1) := by decide +kernel
theorem dX7_cut_43 : decode cX7_cut 43 = .ok (.getfield 83, 3) := by decide +kernel
theorem dX7_cut_46 : decode cX7_cut 46 = .ok (.iload_n 1, 1) := by decide +kernel
theorem dX7_cut_47 : decode cX7_cut 47 = .ok (.iconst 0, 1) := by decide +kernel
theorem dX7_cut_48 : decode cX7_cut 48 = .ok (.iastore, 1) := by decide +kernel
theorem dX7_cut_49 : decode cX7_cut 49 = .ok (.aload_n 0, 1) := by decide +kernel
theorem dX7_cut_50 : decode cX7_cut 50 = .ok (.getfield 86, 3) := by decide +kernel
theorem dX7_cut_53 : decode cX7_cut 53 = .ok (.iload_n 1, 1) := by decide +kernel
theorem dX7_cut_54 : decode cX7_cut 54 = .ok (.iconst 0, 1) := by decide +kernel
theorem dX7_cut_55 : decode cX7_cut 55 = .ok (.iastore, 1) := by decide +kernel
theorem dX7_cut_56 : decode cX7_cut 56 = .ok (.return_, 1) := by decide +kernel
theorem dX7_follows_0 : decode cX7_follows 0 = .ok (.aload_n 0, 1) := by decide +kernel
theorem dX7_follows_1 : decode cX7_follows 1 = .ok (.getfield 7, 3) := by decide +kernel
theorem dX7_follows_4 : decode cX7_follows 4 = .ok (.iload_n 1, 1) := by decide +kernel
theorem dX7_follows_5 : decode cX7_follows 5 = .ok (.iaload, 1) := by decide +kernel
theorem dX7_follows_6 : decode cX7_follows 6 = .ok (.iconst 2, 1) := by decide +kernel
theorem dX7_follows_7 : decode cX7_follows 7 = .ok (.if_icmp .ne 17, 3) := by decide +kernel
theorem dX7_follows_10 : decode cX7_follows 10 = .ok (.aload_n 0, 1) := by decide +kernel
theorem dX7_follows_11 : decode cX7_follows 11 = .ok (.getfield 53, 3) := by decide +kernel
theorem dX7_follows_14 : decode cX7_follows 14 = .ok (.iload_n 1, 1) := by decide +kernel
theorem dX7_follows_15 : decode cX7_follows 15 = .ok (.iaload, 1) := by decide +kernel
theorem dX7_follows_16 : decode cX7_follows 16 = .ok (.iload_n 2, 1) := by decide +kernel
theorem dX7_follows_17 : decode cX7_follows 17 = .ok (.if_icmp .ne 7, 3) := by decide +kernel
theorem dX7_follows_20 : decode cX7_follows 20 = .ok (.iconst 1, 1) := by decide +kernel
theorem dX7_follows_21 : decode cX7_follows 21 = .ok (.goto 4, 3) := by decide +kernel
theorem dX7_follows_24 : decode cX7_follows 24 = .ok (.iconst 0, 1) := by decide +kernel
theorem dX7_follows_25 : decode cX7_follows 25 = .ok (.ireturn, 1) := by decide +kernel
theorem dX7_cease_0 : decode cX7_cease 0 = .ok (.iconst 0, 1) := by decide +kernel
theorem dX7_cease_1 : decode cX7_cease 1 = .ok (.istore_n 2, 1) := by decide +kernel
theorem dX7_cease_2 : decode cX7_cease 2 = .ok (.iload_n 2, 1) := by decide +kernel
theorem dX7_cease_3 : decode cX7_cease 3 = .ok (.iconst 3, 1) := by decide +kernel
theorem dX7_cease_4 : decode cX7_cease 4 = .ok (.if_icmp .ge 23, 3) := by decide +kernel
theorem dX7_cease_7 : decode cX7_cease 7 = .ok (.aload_n 0, 1) := by decide +kernel
theorem dX7_cease_8 : decode cX7_cease 8 = .ok (.iload_n 2, 1) := by decide +kernel
theorem dX7_cease_9 : decode cX7_cease 9 = .ok (.iload_n 1, 1) := by decide +kernel
theorem dX7_cease_10 : decode cX7_cease 10 = .ok (.invokevirtual 130, 3) := by decide +kernel
theorem dX7_cease_13 : decode cX7_cease 13 = .ok (.ifCond .eq 8, 3) := by decide +kernel
theorem dX7_cease_16 : decode cX7_cease 16 = .ok (.aload_n 0, 1) := by decide +kernel
theorem dX7_cease_17 : decode cX7_cease 17 = .ok (.iload_n 2, 1) := by decide +kernel
theorem dX7_cease_18 : decode cX7_cease 18 = .ok (.invokevirtual 134, 3) := by decide +kernel
theorem dX7_cease_21 : decode cX7_cease 21 = .ok (.iinc 2 1, 3) := by decide +kernel
theorem dX7_cease_24 : decode cX7_cease 24 = .ok (.goto (-22), 3) := by decide +kernel
theorem dX7_cease_27 : decode cX7_cease 27 = .ok (.aload_n 0, 1) := by decide +kernel
theorem dX7_cease_28 : decode cX7_cease 28 = .ok (.iload_n 1, 1) := by decide +kernel
theorem dX7_cease_29 : decode cX7_cease 29 = .ok (.invokevirtual 134, 3) := by decide +kernel
theorem dX7_cease_32 : decode cX7_cease 32 = .ok (.return_, 1) := by decide +kernel
theorem dX7_lead_0 : decode cX7_lead 0 = .ok (.iload_n 1, 1) := by decide +kernel
theorem dX7_lead_1 : decode cX7_lead 1 = .ok (.invokestatic 138, 3) := by decide +kernel
theorem dX7_lead_4 : decode cX7_lead 4 = .ok (.ifCond .eq 5, 3) := by decide +kernel
theorem dX7_lead_7 : decode cX7_lead 7 = .ok (.iconst 0, 1) := by decide +kernel
theorem dX7_lead_8 : decode cX7_lead 8 = .ok (.ireturn, 1) := by decide +kernel
theorem dX7_lead_9 : decode cX7_lead 9 = .ok (.aload_n 0, 1) := by decide +kernel
theorem dX7_lead_10 : decode cX7_lead 10 = .ok (.getfield 7, 3) := by decide +kernel
theorem dX7_lead_13 : decode cX7_lead 13 = .ok (.iload_n 1, 1) := by decide +kernel
theorem dX7_lead_14 : decode cX7_lead 14 = .ok (.iaload, 1) := by decide +kernel
theorem dX7_lead_15 : decode cX7_lead 15 = .ok (.iconst 1, 1) := by decide +kernel
theorem dX7_lead_16 : decode cX7_lead 16 = .ok (.if_icmp .eq 5, 3) := by decide +kernel
theorem dX7_lead_19 : decode cX7_lead 19 = .ok (.iconst 0, 1) := by decide +kernel
theorem dX7_lead_20 : decode cX7_lead 20 = .ok (.ireturn, 1) := by decide +kernel
theorem dX7_lead_21 : decode cX7_lead 21 = .ok (.aload_n 0, 1) := by decide +kernel
theorem dX7_lead_22 : decode cX7_lead 22 = .ok (.getfield 7, 3) := by decide +kernel
theorem dX7_lead_25 : decode cX7_lead 25 = .ok (.iload_n 1, 1) := by decide +kernel
theorem dX7_lead_26 : decode cX7_lead 26 = .ok (.iconst 3, 1) := by decide +kernel
theorem dX7_lead_27 : decode cX7_lead 27 = .ok (.iastore, 1) := by decide +kernel
theorem dX7_lead_28 : decode cX7_lead 28 = .ok (.aload_n 0, 1) := by decide +kernel
theorem dX7_lead_29 : decode cX7_lead 29 = .ok (.getfield 40, 3) := by decide +kernel
theorem dX7_lead_32 : decode cX7_lead 32 = .ok (.iload_n 1, 1) := by decide +kernel
theorem dX7_lead_33 : decode cX7_lead 33 = .ok (.iconst 0, 1) := by decide +kernel
theorem dX7_lead_34 : decode cX7_lead 34 = .ok (.iastore, 1) := by decide +kernel
theorem dX7_lead_35 : decode cX7_lead 35 = .ok (.aload_n 0, 1) := by decide +kernel
theorem dX7_lead_36 : decode cX7_lead 36 = .ok (.getfield 43, 3) := by decide +kernel
theorem dX7_lead_39 : decode cX7_lead 39 = .ok (.iload_n 1, 1) := by decide +kernel
theorem dX7_lead_40 : decode cX7_lead 40 = .ok (.iconst 0, 1) := by decide +kernel
theorem dX7_lead_41 : decode cX7_lead 41 = .ok (.bastore, 1) := by decide +kernel
theorem dX7_lead_42 : decode cX7_lead 42 = .ok (.aload_n 0, 1) := by decide +kernel
theorem dX7_lead_43 : decode cX7_lead 43 = .ok (.getfield 47, 3) := by decide +kernel
theorem dX7_lead_46 : decode cX7_lead 46 = .ok (.iload_n 1, 1) := by decide +kernel
theorem dX7_lead_47 : decode cX7_lead 47 = .ok (.iconst 0, 1) := by decide +kernel
theorem dX7_lead_48 : decode cX7_lead 48 = .ok (.iastore, 1) := by decide +kernel
theorem dX7_lead_49 : decode cX7_lead 49 = .ok (.iconst 1, 1) := by decide +kernel
theorem dX7_lead_50 : decode cX7_lead 50 = .ok (.ireturn, 1) := by decide +kernel
theorem dX7_follow_0 : decode cX7_follow 0 = .ok (.iload_n 1, 1) := by decide +kernel
theorem dX7_follow_1 : decode cX7_follow 1 = .ok (.invokestatic 138, 3) := by decide +kernel
theorem dX7_follow_4 : decode cX7_follow 4 = .ok (.ifCond .ne 10, 3) := by decide +kernel
theorem dX7_follow_7 : decode cX7_follow 7 = .ok (.iload_n 2, 1) := by decide +kernel
theorem dX7_follow_8 : decode cX7_follow 8 = .ok (.invokestatic 138, 3) := by decide +kernel
theorem dX7_follow_11 : decode cX7_follow 11 = .ok (.ifCond .eq 5, 3) := by decide +kernel
theorem dX7_follow_14 : decode cX7_follow 14 = .ok (.iconst 0, 1) := by decide +kernel
theorem dX7_follow_15 : decode cX7_follow 15 = .ok (.ireturn, 1) := by decide +kernel
theorem dX7_follow_16 : decode cX7_follow 16 = .ok (.aload_n 0, 1) := by decide +kernel
theorem dX7_follow_17 : decode cX7_follow 17 = .ok (.getfield 7, 3) := by decide +kernel
theorem dX7_follow_20 : decode cX7_follow 20 = .ok (.iload_n 1, 1) := by decide +kernel
theorem dX7_follow_21 : decode cX7_follow 21 = .ok (.iaload, 1) := by decide +kernel
theorem dX7_follow_22 : decode cX7_follow 22 = .ok (.iconst 1, 1) := by decide +kernel
theorem dX7_follow_23 : decode cX7_follow 23 = .ok (.if_icmp .ne 13, 3) := by decide +kernel
theorem dX7_follow_26 : decode cX7_follow 26 = .ok (.aload_n 0, 1) := by decide +kernel
theorem dX7_follow_27 : decode cX7_follow 27 = .ok (.getfield 7, 3) := by decide +kernel
theorem dX7_follow_30 : decode cX7_follow 30 = .ok (.iload_n 2, 1) := by decide +kernel
theorem dX7_follow_31 : decode cX7_follow 31 = .ok (.iaload, 1) := by decide +kernel
theorem dX7_follow_32 : decode cX7_follow 32 = .ok (.iconst 3, 1) := by decide +kernel
theorem dX7_follow_33 : decode cX7_follow 33 = .ok (.if_icmp .ge 5, 3) := by decide +kernel
theorem dX7_follow_36 : decode cX7_follow 36 = .ok (.iconst 0, 1) := by decide +kernel
theorem dX7_follow_37 : decode cX7_follow 37 = .ok (.ireturn, 1) := by decide +kernel
theorem dX7_follow_38 : decode cX7_follow 38 = .ok (.aload_n 0, 1) := by decide +kernel
theorem dX7_follow_39 : decode cX7_follow 39 = .ok (.iload_n 1, 1) := by decide +kernel
theorem dX7_follow_40 : decode cX7_follow 40 = .ok (.invokevirtual 134, 3) := by decide +kernel
theorem dX7_follow_43 : decode cX7_follow 43 = .ok (.aload_n 0, 1) := by decide +kernel
theorem dX7_follow_44 : decode cX7_follow 44 = .ok (.getfield 7, 3) := by decide +kernel
theorem dX7_follow_47 : decode cX7_follow 47 = .ok (.iload_n 1, 1) := by decide +kernel
theorem dX7_follow_48 : decode cX7_follow 48 = .ok (.iconst 2, 1) := by decide +kernel
theorem dX7_follow_49 : decode cX7_follow 49 = .ok (.iastore, 1) := by decide +kernel
theorem dX7_follow_50 : decode cX7_follow 50 = .ok (.aload_n 0, 1) := by decide +kernel
theorem dX7_follow_51 : decode cX7_follow 51 = .ok (.getfield 53, 3) := by decide +kernel
theorem dX7_follow_54 : decode cX7_follow 54 = .ok (.iload_n 1, 1) := by decide +kernel
theorem dX7_follow_55 : decode cX7_follow 55 = .ok (.iload_n 2, 1) := by decide +kernel
theorem dX7_follow_56 : decode cX7_follow 56 = .ok (.iastore, 1) := by decide +kernel
theorem dX7_follow_57 : decode cX7_follow 57 = .ok (.aload_n 0, 1) := by decide +kernel
theorem dX7_follow_58 : decode cX7_follow 58 = .ok (.iload_n 1, 1) := by decide +kernel
theorem dX7_follow_59 : decode cX7_follow 59 = .ok (.iconst 1, 1) := by decide +kernel
theorem dX7_follow_60 : decode cX7_follow 60 = .ok (.aload_n 0, 1) := by decide +kernel
theorem dX7_follow_61 : decode cX7_follow 61 = .ok (.getfield 13, 3) := by decide +kernel
theorem dX7_follow_64 : decode cX7_follow 64 = .ok (.iload_n 1, 1) := by decide +kernel
theorem dX7_follow_65 : decode cX7_follow 65 = .ok (.iaload, 1) := by decide +kernel
theorem dX7_follow_66 : decode cX7_follow 66 = .ok (.invokevirtual 142, 3) := by decide +kernel
theorem dX7_follow_69 : decode cX7_follow 69 = .ok (.iconst 1, 1) := by decide +kernel
theorem dX7_follow_70 : decode cX7_follow 70 = .ok (.ireturn, 1) := by decide +kernel
theorem dX7_quit_0 : decode cX7_quit 0 = .ok (.iload_n 1, 1) := by decide +kernel
theorem dX7_quit_1 : decode cX7_quit 1 = .ok (.invokestatic 138, 3) := by decide +kernel
theorem dX7_quit_4 : decode cX7_quit 4 = .ok (.ifCond .eq 5, 3) := by decide +kernel
theorem dX7_quit_7 : decode cX7_quit 7 = .ok (.iconst 0, 1) := by decide +kernel
theorem dX7_quit_8 : decode cX7_quit 8 = .ok (.ireturn, 1) := by decide +kernel
theorem dX7_quit_9 : decode cX7_quit 9 = .ok (.aload_n 0, 1) := by decide +kernel
theorem dX7_quit_10 : decode cX7_quit 10 = .ok (.getfield 7, 3) := by decide +kernel
theorem dX7_quit_13 : decode cX7_quit 13 = .ok (.iload_n 1, 1) := by decide +kernel
theorem dX7_quit_14 : decode cX7_quit 14 = .ok (.iaload, 1) := by decide +kernel
theorem dX7_quit_15 : decode cX7_quit 15 = .ok (.iconst 2, 1) := by decide +kernel
theorem dX7_quit_16 : decode cX7_quit 16 = .ok (.if_icmp .ge 5, 3) := by decide +kernel
theorem dX7_quit_19 : decode cX7_quit 19 = .ok (.iconst 0, 1) := by decide +kernel
theorem dX7_quit_20 : decode cX7_quit 20 = .ok (.ireturn, 1) := by decide +kernel
theorem dX7_quit_21 : decode cX7_quit 21 = .ok (.aload_n 0, 1) := by decide +kernel
theorem dX7_quit_22 : decode cX7_quit 22 = .ok (.iload_n 1, 1) := by decide +kernel
theorem dX7_quit_23 : decode cX7_quit 23 = .ok (.invokevirtual 146, 3) := by decide +kernel
theorem dX7_quit_26 : decode cX7_quit 26 = .ok (.iconst 1, 1) := by decide +kernel
theorem dX7_quit_27 : decode cX7_quit 27 = .ok (.ireturn, 1) := by decide +kernel
theorem dX7_crash_0 : decode cX7_crash 0 = .ok (.iload_n 1, 1) := by decide +kernel
theorem dX7_crash_1 : decode cX7_crash 1 = .ok (.invokestatic 138, 3) := by decide +kernel
theorem dX7_crash_4 : decode cX7_crash 4 = .ok (.ifCond .eq 5, 3) := by decide +kernel
theorem dX7_crash_7 : decode cX7_crash 7 = .ok (.iconst 0, 1) := by decide +kernel
theorem dX7_crash_8 : decode cX7_crash 8 = .ok (.ireturn, 1) := by decide +kernel
theorem dX7_crash_9 : decode cX7_crash 9 = .ok (.aload_n 0, 1) := by decide +kernel
theorem dX7_crash_10 : decode cX7_crash 10 = .ok (.getfield 7, 3) := by decide +kernel
theorem dX7_crash_13 : decode cX7_crash 13 = .ok (.iload_n 1, 1) := by decide +kernel
theorem dX7_crash_14 : decode cX7_crash 14 = .ok (.iaload, 1) := by decide +kernel
theorem dX7_crash_15 : decode cX7_crash 15 = .ok (.ifCond .ne 5, 3) := by decide +kernel
theorem dX7_crash_18 : decode cX7_crash 18 = .ok (.iconst 0, 1) := by decide +kernel
theorem dX7_crash_19 : decode cX7_crash 19 = .ok (.ireturn, 1) := by decide +kernel
theorem dX7_crash_20 : decode cX7_crash 20 = .ok (.aload_n 0, 1) := by decide +kernel
theorem dX7_crash_21 : decode cX7_crash 21 = .ok (.iload_n 1, 1) := by decide +kernel
theorem dX7_crash_22 : decode cX7_crash 22 = .ok (.invokevirtual 146, 3) := by decide +kernel
theorem dX7_crash_25 : decode cX7_crash 25 = .ok (.aload_n 0, 1) := by decide +kernel
theorem dX7_crash_26 : decode cX7_crash 26 = .ok (.getfield 7, 3) := by decide +kernel
theorem dX7_crash_29 : decode cX7_crash 29 = .ok (.iload_n 1, 1) := by decide +kernel
theorem dX7_crash_30 : decode cX7_crash 30 = .ok (.iconst 0, 1) := by decide +kernel
theorem dX7_crash_31 : decode cX7_crash 31 = .ok (.iastore, 1) := by decide +kernel
theorem dX7_crash_32 : decode cX7_crash 32 = .ok (.aload_n 0, 1) := by decide +kernel
theorem dX7_crash_33 : decode cX7_crash 33 = .ok (.getfield 19, 3) := by decide +kernel
theorem dX7_crash_36 : decode cX7_crash 36 = .ok (.iload_n 1, 1) := by decide +kernel
theorem dX7_crash_37 : decode cX7_crash 37 = .ok (.iconst 0, 1) := by decide +kernel
theorem dX7_crash_38 : decode cX7_crash 38 = .ok (.iastore, 1) := by decide +kernel
theorem dX7_crash_39 : decode cX7_crash 39 = .ok (.iconst 1, 1) := by decide +kernel
theorem dX7_crash_40 : decode cX7_crash 40 = .ok (.ireturn, 1) := by decide +kernel
theorem dX7_restart_0 : decode cX7_restart 0 = .ok (.iload_n 1, 1) := by decide +kernel
theorem dX7_restart_1 : decode cX7_restart 1 = .ok (.invokestatic 138, 3) := by decide +kernel
theorem dX7_restart_4 : decode cX7_restart 4 = .ok (.ifCond .eq 5, 3) := by decide +kernel
theorem dX7_restart_7 : decode cX7_restart 7 = .ok (.iconst 0, 1) := by decide +kernel
theorem dX7_restart_8 : decode cX7_restart 8 = .ok (.ireturn, 1) := by decide +kernel
theorem dX7_restart_9 : decode cX7_restart 9 = .ok (.aload_n 0, 1) := by decide +kernel
theorem dX7_restart_10 : decode cX7_restart 10 = .ok (.getfield 7, 3) := by decide +kernel
theorem dX7_restart_13 : decode cX7_restart 13 = .ok (.iload_n 1, 1) := by decide +kernel
theorem dX7_restart_14 : decode cX7_restart 14 = .ok (.iaload, 1) := by decide +kernel
theorem dX7_restart_15 : decode cX7_restart 15 = .ok (.ifCond .eq 5, 3) := by decide +kernel
theorem dX7_restart_18 : decode cX7_restart 18 = .ok (.iconst 0, 1) := by decide +kernel
theorem dX7_restart_19 : decode cX7_restart 19 = .ok (.ireturn, 1) := by decide +kernel
theorem dX7_restart_20 : decode cX7_restart 20 = .ok (.aload_n 0, 1) := by decide +kernel
theorem dX7_restart_21 : decode cX7_restart 21 = .ok (.getfield 7, 3) := by decide +kernel
theorem dX7_restart_24 : decode cX7_restart 24 = .ok (.iload_n 1, 1) := by decide +kernel
theorem dX7_restart_25 : decode cX7_restart 25 = .ok (.iconst 1, 1) := by decide +kernel
theorem dX7_restart_26 : decode cX7_restart 26 = .ok (.iastore, 1) := by decide +kernel
theorem dX7_restart_27 : decode cX7_restart 27 = .ok (.iconst 1, 1) := by decide +kernel
theorem dX7_restart_28 : decode cX7_restart 28 = .ok (.ireturn, 1) := by decide +kernel
theorem dX7_sendUp_0 : decode cX7_sendUp 0 = .ok (.bipush 64, 2) := by decide +kernel
theorem dX7_sendUp_2 : decode cX7_sendUp 2 = .ok (.iload_n 1, 1) := by decide +kernel
theorem dX7_sendUp_3 : decode cX7_sendUp 3 = .ok (.imul, 1) := by decide +kernel
theorem dX7_sendUp_4 : decode cX7_sendUp 4 = .ok (.aload_n 0, 1) := by decide +kernel
theorem dX7_sendUp_5 : decode cX7_sendUp 5 = .ok (.getfield 71, 3) := by decide +kernel
theorem dX7_sendUp_8 : decode cX7_sendUp 8 = .ok (.iload_n 1, 1) := by decide +kernel
theorem dX7_sendUp_9 : decode cX7_sendUp 9 = .ok (.iaload, 1) := by decide +kernel
theorem dX7_sendUp_10 : decode cX7_sendUp 10 = .ok (.iadd, 1) := by decide +kernel
theorem dX7_sendUp_11 : decode cX7_sendUp 11 = .ok (.istore 4, 2) := by decide +kernel
theorem dX7_sendUp_13 : decode cX7_sendUp 13 = .ok (.aload_n 0, 1) := by decide +kernel
theorem dX7_sendUp_14 : decode cX7_sendUp 14 = .ok (.getfield 65, 3) := by decide +kernel
theorem dX7_sendUp_17 : decode cX7_sendUp 17 = .ok (.iload 4, 2) := by decide +kernel
theorem dX7_sendUp_19 : decode cX7_sendUp 19 = .ok (.iload_n 2, 1) := by decide +kernel
theorem dX7_sendUp_20 : decode cX7_sendUp 20 = .ok (.iastore, 1) := by decide +kernel
theorem dX7_sendUp_21 : decode cX7_sendUp 21 = .ok (.aload_n 0, 1) := by decide +kernel
theorem dX7_sendUp_22 : decode cX7_sendUp 22 = .ok (.getfield 68, 3) := by decide +kernel
theorem dX7_sendUp_25 : decode cX7_sendUp 25 = .ok (.iload 4, 2) := by decide +kernel
theorem dX7_sendUp_27 : decode cX7_sendUp 27 = .ok (.iload_n 3, 1) := by decide +kernel
theorem dX7_sendUp_28 : decode cX7_sendUp 28 = .ok (.iastore, 1) := by decide +kernel
theorem dX7_sendUp_29 : decode cX7_sendUp 29 = .ok (.aload_n 0, 1) := by decide +kernel
theorem dX7_sendUp_30 : decode cX7_sendUp 30 = .ok (.getfield 71, 3) := by decide +kernel
theorem dX7_sendUp_33 : decode cX7_sendUp 33 = .ok (.iload_n 1, 1) := by decide +kernel
theorem dX7_sendUp_34 : decode cX7_sendUp 34 = .ok (.dup2, 1) := by decide +kernel
theorem dX7_sendUp_35 : decode cX7_sendUp 35 = .ok (.iaload, 1) := by decide +kernel
theorem dX7_sendUp_36 : decode cX7_sendUp 36 = .ok (.iconst 1, 1) := by decide +kernel
theorem dX7_sendUp_37 : decode cX7_sendUp 37 = .ok (.iadd, 1) := by decide +kernel
theorem dX7_sendUp_38 : decode cX7_sendUp 38 = .ok (.iastore, 1) := by decide +kernel
theorem dX7_sendUp_39 : decode cX7_sendUp 39 = .ok (.return_, 1) := by decide +kernel
theorem dX7_sendDown_0 : decode cX7_sendDown 0 = .ok (.bipush 64, 2) := by decide +kernel
theorem dX7_sendDown_2 : decode cX7_sendDown 2 = .ok (.iload_n 1, 1) := by decide +kernel
theorem dX7_sendDown_3 : decode cX7_sendDown 3 = .ok (.imul, 1) := by decide +kernel
theorem dX7_sendDown_4 : decode cX7_sendDown 4 = .ok (.aload_n 0, 1) := by decide +kernel
theorem dX7_sendDown_5 : decode cX7_sendDown 5 = .ok (.getfield 83, 3) := by decide +kernel
theorem dX7_sendDown_8 : decode cX7_sendDown 8 = .ok (.iload_n 1, 1) := by decide +kernel
theorem dX7_sendDown_9 : decode cX7_sendDown 9 = .ok (.iaload, 1) := by decide +kernel
theorem dX7_sendDown_10 : decode cX7_sendDown 10 = .ok (.iadd, 1) := by decide +kernel
theorem dX7_sendDown_11 : decode cX7_sendDown 11 = .ok (.istore 4, 2) := by decide +kernel
theorem dX7_sendDown_13 : decode cX7_sendDown 13 = .ok (.aload_n 0, 1) := by decide +kernel
theorem dX7_sendDown_14 : decode cX7_sendDown 14 = .ok (.getfield 77, 3) := by decide +kernel
theorem dX7_sendDown_17 : decode cX7_sendDown 17 = .ok (.iload 4, 2) := by decide +kernel
theorem dX7_sendDown_19 : decode cX7_sendDown 19 = .ok (.iload_n 2, 1) := by decide +kernel
theorem dX7_sendDown_20 : decode cX7_sendDown 20 = .ok (.iastore, 1) := by decide +kernel
theorem dX7_sendDown_21 : decode cX7_sendDown 21 = .ok (.aload_n 0, 1) := by decide +kernel
theorem dX7_sendDown_22 : decode cX7_sendDown 22 = .ok (.getfield 80, 3) := by decide +kernel
theorem dX7_sendDown_25 : decode cX7_sendDown 25 = .ok (.iload 4, 2) := by decide +kernel
theorem dX7_sendDown_27 : decode cX7_sendDown 27 = .ok (.iload_n 3, 1) := by decide +kernel
theorem dX7_sendDown_28 : decode cX7_sendDown 28 = .ok (.iastore, 1) := by decide +kernel
theorem dX7_sendDown_29 : decode cX7_sendDown 29 = .ok (.aload_n 0, 1) := by decide +kernel
theorem dX7_sendDown_30 : decode cX7_sendDown 30 = .ok (.getfield 83, 3) := by decide +kernel
theorem dX7_sendDown_33 : decode cX7_sendDown 33 = .ok (.iload_n 1, 1) := by decide +kernel
theorem dX7_sendDown_34 : decode cX7_sendDown 34 = .ok (.dup2, 1) := by decide +kernel
theorem dX7_sendDown_35 : decode cX7_sendDown 35 = .ok (.iaload, 1) := by decide +kernel
theorem dX7_sendDown_36 : decode cX7_sendDown 36 = .ok (.iconst 1, 1) := by decide +kernel
theorem dX7_sendDown_37 : decode cX7_sendDown 37 = .ok (.iadd, 1) := by decide +kernel
theorem dX7_sendDown_38 : decode cX7_sendDown 38 = .ok (.iastore, 1) := by decide +kernel
theorem dX7_sendDown_39 : decode cX7_sendDown 39 = .ok (.return_, 1) := by decide +kernel
theorem dX7_newLeader_0 : decode cX7_newLeader 0 = .ok (.aload_n 0, 1) := by decide +kernel
theorem dX7_newLeader_1 : decode cX7_newLeader 1 = .ok (.getfield 56, 3) := by decide +kernel
theorem dX7_newLeader_4 : decode cX7_newLeader 4 = .ok (.iload_n 1, 1) := by decide +kernel
theorem dX7_newLeader_5 : decode cX7_newLeader 5 = .ok (.iconst 0, 1) := by decide +kernel
theorem dX7_newLeader_6 : decode cX7_newLeader 6 = .ok (.bastore, 1) := by decide +kernel
theorem dX7_newLeader_7 : decode cX7_newLeader 7 = .ok (.aload_n 0, 1) := by decide +kernel
theorem dX7_newLeader_8 : decode cX7_newLeader 8 = .ok (.getfield 59, 3) := by decide +kernel
theorem dX7_newLeader_11 : decode cX7_newLeader 11 = .ok (.iload_n 1, 1) := by decide +kernel
theorem dX7_newLeader_12 : decode cX7_newLeader 12 = .ok (.iconst 1, 1) := by decide +kernel
theorem dX7_newLeader_13 : decode cX7_newLeader 13 = .ok (.bastore, 1) := by decide +kernel
theorem dX7_newLeader_14 : decode cX7_newLeader 14 = .ok (.aload_n 0, 1) := by decide +kernel
theorem dX7_newLeader_15 : decode cX7_newLeader 15 = .ok (.iload_n 1, 1) := by decide +kernel
theorem dX7_newLeader_16 : decode cX7_newLeader 16 = .ok (.iconst 5, 1) := by decide +kernel
theorem dX7_newLeader_17 : decode cX7_newLeader 17 = .ok (.aload_n 0, 1) := by decide +kernel
theorem dX7_newLeader_18 : decode cX7_newLeader 18 = .ok (.getfield 22, 3) := by decide +kernel
theorem dX7_newLeader_21 : decode cX7_newLeader 21 = .ok (.iload_n 2, 1) := by decide +kernel
theorem dX7_newLeader_22 : decode cX7_newLeader 22 = .ok (.iaload, 1) := by decide +kernel
theorem dX7_newLeader_23 : decode cX7_newLeader 23 = .ok (.invokevirtual 149, 3) := by decide +kernel
theorem dX7_newLeader_26 : decode cX7_newLeader 26 = .ok (.return_, 1) := by decide +kernel
theorem dX7_copy_0 : decode cX7_copy 0 = .ok (.iconst 0, 1) := by decide +kernel
theorem dX7_copy_1 : decode cX7_copy 1 = .ok (.istore 4, 2) := by decide +kernel
theorem dX7_copy_3 : decode cX7_copy 3 = .ok (.iload 4, 2) := by decide +kernel
theorem dX7_copy_5 : decode cX7_copy 5 = .ok (.iload_n 3, 1) := by decide +kernel
theorem dX7_copy_6 : decode cX7_copy 6 = .ok (.if_icmp .ge 27, 3) := by decide +kernel
theorem dX7_copy_9 : decode cX7_copy 9 = .ok (.aload_n 0, 1) := by decide +kernel
theorem dX7_copy_10 : decode cX7_copy 10 = .ok (.bipush 24, 2) := by decide +kernel
theorem dX7_copy_12 : decode cX7_copy 12 = .ok (.iload_n 1, 1) := by decide +kernel
theorem dX7_copy_13 : decode cX7_copy 13 = .ok (.imul, 1) := by decide +kernel
theorem dX7_copy_14 : decode cX7_copy 14 = .ok (.iload 4, 2) := by decide +kernel
theorem dX7_copy_16 : decode cX7_copy 16 = .ok (.iadd, 1) := by decide +kernel
theorem dX7_copy_17 : decode cX7_copy 17 = .ok (.bipush 24, 2) := by decide +kernel
theorem dX7_copy_19 : decode cX7_copy 19 = .ok (.iload_n 2, 1) := by decide +kernel
theorem dX7_copy_20 : decode cX7_copy 20 = .ok (.imul, 1) := by decide +kernel
theorem dX7_copy_21 : decode cX7_copy 21 = .ok (.iload 4, 2) := by decide +kernel
theorem dX7_copy_23 : decode cX7_copy 23 = .ok (.iadd, 1) := by decide +kernel
theorem dX7_copy_24 : decode cX7_copy 24 = .ok (.invokevirtual 152, 3) := by decide +kernel
theorem dX7_copy_27 : decode cX7_copy 27 = .ok (.iinc 4 1, 3) := by decide +kernel
theorem dX7_copy_30 : decode cX7_copy 30 = .ok (.goto (-27), 3) := by decide +kernel
theorem dX7_copy_33 : decode cX7_copy 33 = .ok (.aload_n 0, 1) := by decide +kernel
theorem dX7_copy_34 : decode cX7_copy 34 = .ok (.getfield 22, 3) := by decide +kernel
theorem dX7_copy_37 : decode cX7_copy 37 = .ok (.iload_n 2, 1) := by decide +kernel
theorem dX7_copy_38 : decode cX7_copy 38 = .ok (.iload_n 3, 1) := by decide +kernel
theorem dX7_copy_39 : decode cX7_copy 39 = .ok (.iastore, 1) := by decide +kernel
theorem dX7_copy_40 : decode cX7_copy 40 = .ok (.return_, 1) := by decide +kernel
theorem dX7_copyEntry_0 : decode cX7_copyEntry 0 = .ok (.aload_n 0, 1) := by decide +kernel
theorem dX7_copyEntry_1 : decode cX7_copyEntry 1 = .ok (.getfield 25, 3) := by decide +kernel
theorem dX7_copyEntry_4 : decode cX7_copyEntry 4 = .ok (.iload_n 2, 1) := by decide +kernel
theorem dX7_copyEntry_5 : decode cX7_copyEntry 5 = .ok (.aload_n 0, 1) := by decide +kernel
theorem dX7_copyEntry_6 : decode cX7_copyEntry 6 = .ok (.getfield 25, 3) := by decide +kernel
theorem dX7_copyEntry_9 : decode cX7_copyEntry 9 = .ok (.iload_n 1, 1) := by decide +kernel
theorem dX7_copyEntry_10 : decode cX7_copyEntry 10 = .ok (.iaload, 1) := by decide +kernel
theorem dX7_copyEntry_11 : decode cX7_copyEntry 11 = .ok (.iastore, 1) := by decide +kernel
theorem dX7_copyEntry_12 : decode cX7_copyEntry 12 = .ok (.aload_n 0, 1) := by decide +kernel
theorem dX7_copyEntry_13 : decode cX7_copyEntry 13 = .ok (.getfield 28, 3) := by decide +kernel
theorem dX7_copyEntry_16 : decode cX7_copyEntry 16 = .ok (.iload_n 2, 1) := by decide +kernel
theorem dX7_copyEntry_17 : decode cX7_copyEntry 17 = .ok (.aload_n 0, 1) := by decide +kernel
theorem dX7_copyEntry_18 : decode cX7_copyEntry 18 = .ok (.getfield 28, 3) := by decide +kernel
theorem dX7_copyEntry_21 : decode cX7_copyEntry 21 = .ok (.iload_n 1, 1) := by decide +kernel
theorem dX7_copyEntry_22 : decode cX7_copyEntry 22 = .ok (.iaload, 1) := by decide +kernel
theorem dX7_copyEntry_23 : decode cX7_copyEntry 23 = .ok (.iastore, 1) := by decide +kernel
theorem dX7_copyEntry_24 : decode cX7_copyEntry 24 = .ok (.aload_n 0, 1) := by decide +kernel
theorem dX7_copyEntry_25 : decode cX7_copyEntry 25 = .ok (.getfield 31, 3) := by decide +kernel
theorem dX7_copyEntry_28 : decode cX7_copyEntry 28 = .ok (.iload_n 2, 1) := by decide +kernel
theorem dX7_copyEntry_29 : decode cX7_copyEntry 29 = .ok (.aload_n 0, 1) := by decide +kernel
theorem dX7_copyEntry_30 : decode cX7_copyEntry 30 = .ok (.getfield 31, 3) := by decide +kernel
theorem dX7_copyEntry_33 : decode cX7_copyEntry 33 = .ok (.iload_n 1, 1) := by decide +kernel
theorem dX7_copyEntry_34 : decode cX7_copyEntry 34 = .ok (.iaload, 1) := by decide +kernel
theorem dX7_copyEntry_35 : decode cX7_copyEntry 35 = .ok (.iastore, 1) := by decide +kernel
theorem dX7_copyEntry_36 : decode cX7_copyEntry 36 = .ok (.aload_n 0, 1) := by decide +kernel
theorem dX7_copyEntry_37 : decode cX7_copyEntry 37 = .ok (.getfield 34, 3) := by decide +kernel
theorem dX7_copyEntry_40 : decode cX7_copyEntry 40 = .ok (.iload_n 2, 1) := by decide +kernel
theorem dX7_copyEntry_41 : decode cX7_copyEntry 41 = .ok (.aload_n 0, 1) := by decide +kernel
theorem dX7_copyEntry_42 : decode cX7_copyEntry 42 = .ok (.getfield 34, 3) := by decide +kernel
theorem dX7_copyEntry_45 : decode cX7_copyEntry 45 = .ok (.iload_n 1, 1) := by decide +kernel
theorem dX7_copyEntry_46 : decode cX7_copyEntry 46 = .ok (.iaload, 1) := by decide +kernel
theorem dX7_copyEntry_47 : decode cX7_copyEntry 47 = .ok (.iastore, 1) := by decide +kernel
theorem dX7_copyEntry_48 : decode cX7_copyEntry 48 = .ok (.aload_n 0, 1) := by decide +kernel
theorem dX7_copyEntry_49 : decode cX7_copyEntry 49 = .ok (.getfield 37, 3) := by decide +kernel
theorem dX7_copyEntry_52 : decode cX7_copyEntry 52 = .ok (.iload_n 2, 1) := by decide +kernel
theorem dX7_copyEntry_53 : decode cX7_copyEntry 53 = .ok (.aload_n 0, 1) := by decide +kernel
theorem dX7_copyEntry_54 : decode cX7_copyEntry 54 = .ok (.getfield 37, 3) := by decide +kernel
theorem dX7_copyEntry_57 : decode cX7_copyEntry 57 = .ok (.iload_n 1, 1) := by decide +kernel
theorem dX7_copyEntry_58 : decode cX7_copyEntry 58 = .ok (.iaload, 1) := by decide +kernel
theorem dX7_copyEntry_59 : decode cX7_copyEntry 59 = .ok (.iastore, 1) := by decide +kernel
theorem dX7_copyEntry_60 : decode cX7_copyEntry 60 = .ok (.return_, 1) := by decide +kernel
theorem dX7_lastMark_0 : decode cX7_lastMark 0 = .ok (.aload_n 0, 1) := by decide +kernel
theorem dX7_lastMark_1 : decode cX7_lastMark 1 = .ok (.getfield 22, 3) := by decide +kernel
theorem dX7_lastMark_4 : decode cX7_lastMark 4 = .ok (.iload_n 1, 1) := by decide +kernel
theorem dX7_lastMark_5 : decode cX7_lastMark 5 = .ok (.iaload, 1) := by decide +kernel
theorem dX7_lastMark_6 : decode cX7_lastMark 6 = .ok (.ifCond .ne 7, 3) := by decide +kernel
theorem dX7_lastMark_9 : decode cX7_lastMark 9 = .ok (.iconst 0, 1) := by decide +kernel
theorem dX7_lastMark_10 : decode cX7_lastMark 10 = .ok (.goto 21, 3) := by decide +kernel
theorem dX7_lastMark_13 : decode cX7_lastMark 13 = .ok (.aload_n 0, 1) := by decide +kernel
theorem dX7_lastMark_14 : decode cX7_lastMark 14 = .ok (.getfield 25, 3) := by decide +kernel
theorem dX7_lastMark_17 : decode cX7_lastMark 17 = .ok (.bipush 24, 2) := by decide +kernel
theorem dX7_lastMark_19 : decode cX7_lastMark 19 = .ok (.iload_n 1, 1) := by decide +kernel
theorem dX7_lastMark_20 : decode cX7_lastMark 20 = .ok (.imul, 1) := by decide +kernel
theorem dX7_lastMark_21 : decode cX7_lastMark 21 = .ok (.aload_n 0, 1) := by decide +kernel
theorem dX7_lastMark_22 : decode cX7_lastMark 22 = .ok (.getfield 22, 3) := by decide +kernel
theorem dX7_lastMark_25 : decode cX7_lastMark 25 = .ok (.iload_n 1, 1) := by decide +kernel
theorem dX7_lastMark_26 : decode cX7_lastMark 26 = .ok (.iaload, 1) := by decide +kernel
theorem dX7_lastMark_27 : decode cX7_lastMark 27 = .ok (.iadd, 1) := by decide +kernel
theorem dX7_lastMark_28 : decode cX7_lastMark 28 = .ok (.iconst 1, 1) := by decide +kernel
theorem dX7_lastMark_29 : decode cX7_lastMark 29 = .ok (.isub, 1) := by decide +kernel
theorem dX7_lastMark_30 : decode cX7_lastMark 30 = .ok (.iaload, 1) := by decide +kernel
theorem dX7_lastMark_31 : decode cX7_lastMark 31 = .ok (.ireturn, 1) := by decide +kernel
theorem dX7_accepted_0 : decode cX7_accepted 0 = .ok (.aload_n 0, 1) := by decide +kernel
theorem dX7_accepted_1 : decode cX7_accepted 1 = .ok (.getfield 43, 3) := by decide +kernel
theorem dX7_accepted_4 : decode cX7_accepted 4 = .ok (.iload_n 2, 1) := by decide +kernel
theorem dX7_accepted_5 : decode cX7_accepted 5 = .ok (.baload, 1) := by decide +kernel
theorem dX7_accepted_6 : decode cX7_accepted 6 = .ok (.ifCond .eq 10, 3) := by decide +kernel
theorem dX7_accepted_9 : decode cX7_accepted 9 = .ok (.aload_n 0, 1) := by decide +kernel
theorem dX7_accepted_10 : decode cX7_accepted 10 = .ok (.iload_n 1, 1) := by decide +kernel
theorem dX7_accepted_11 : decode cX7_accepted 11 = .ok (.iload_n 2, 1) := by decide +kernel
theorem dX7_accepted_12 : decode cX7_accepted 12 = .ok (.invokevirtual 156, 3) := by decide +kernel
theorem dX7_accepted_15 : decode cX7_accepted 15 = .ok (.return_, 1) := by decide +kernel
theorem dX7_accepted_16 : decode cX7_accepted 16 = .ok (.iload_n 3, 1) := by decide +kernel
theorem dX7_accepted_17 : decode cX7_accepted 17 = .ok (.ifCond .ne 11, 3) := by decide +kernel
theorem dX7_accepted_20 : decode cX7_accepted 20 = .ok (.aload_n 0, 1) := by decide +kernel
theorem dX7_accepted_21 : decode cX7_accepted 21 = .ok (.getfield 56, 3) := by decide +kernel
theorem dX7_accepted_24 : decode cX7_accepted 24 = .ok (.iload_n 1, 1) := by decide +kernel
theorem dX7_accepted_25 : decode cX7_accepted 25 = .ok (.iconst 1, 1) := by decide +kernel
theorem dX7_accepted_26 : decode cX7_accepted 26 = .ok (.bastore, 1) := by decide +kernel
theorem dX7_accepted_27 : decode cX7_accepted 27 = .ok (.return_, 1) := by decide +kernel
theorem dX7_accepted_28 : decode cX7_accepted 28 = .ok (.aload_n 0, 1) := by decide +kernel
theorem dX7_accepted_29 : decode cX7_accepted 29 = .ok (.getfield 16, 3) := by decide +kernel
theorem dX7_accepted_32 : decode cX7_accepted 32 = .ok (.iload_n 1, 1) := by decide +kernel
theorem dX7_accepted_33 : decode cX7_accepted 33 = .ok (.iaload, 1) := by decide +kernel
theorem dX7_accepted_34 : decode cX7_accepted 34 = .ok (.aload_n 0, 1) := by decide +kernel
theorem dX7_accepted_35 : decode cX7_accepted 35 = .ok (.getfield 16, 3) := by decide +kernel
theorem dX7_accepted_38 : decode cX7_accepted 38 = .ok (.iload_n 2, 1) := by decide +kernel
theorem dX7_accepted_39 : decode cX7_accepted 39 = .ok (.iaload, 1) := by decide +kernel
theorem dX7_accepted_40 : decode cX7_accepted 40 = .ok (.if_icmp .gt 31, 3) := by decide +kernel
theorem dX7_accepted_43 : decode cX7_accepted 43 = .ok (.aload_n 0, 1) := by decide +kernel
theorem dX7_accepted_44 : decode cX7_accepted 44 = .ok (.getfield 16, 3) := by decide +kernel
theorem dX7_accepted_47 : decode cX7_accepted 47 = .ok (.iload_n 1, 1) := by decide +kernel
theorem dX7_accepted_48 : decode cX7_accepted 48 = .ok (.iaload, 1) := by decide +kernel
theorem dX7_accepted_49 : decode cX7_accepted 49 = .ok (.aload_n 0, 1) := by decide +kernel
theorem dX7_accepted_50 : decode cX7_accepted 50 = .ok (.getfield 16, 3) := by decide +kernel
theorem dX7_accepted_53 : decode cX7_accepted 53 = .ok (.iload_n 2, 1) := by decide +kernel
theorem dX7_accepted_54 : decode cX7_accepted 54 = .ok (.iaload, 1) := by decide +kernel
theorem dX7_accepted_55 : decode cX7_accepted 55 = .ok (.if_icmp .ne 28, 3) := by decide +kernel
theorem dX7_accepted_58 : decode cX7_accepted 58 = .ok (.aload_n 0, 1) := by decide +kernel
theorem dX7_accepted_59 : decode cX7_accepted 59 = .ok (.iload_n 1, 1) := by decide +kernel
theorem dX7_accepted_60 : decode cX7_accepted 60 = .ok (.invokevirtual 159, 3) := by decide +kernel
theorem dX7_accepted_63 : decode cX7_accepted 63 = .ok (.aload_n 0, 1) := by decide +kernel
theorem dX7_accepted_64 : decode cX7_accepted 64 = .ok (.iload_n 2, 1) := by decide +kernel
theorem dX7_accepted_65 : decode cX7_accepted 65 = .ok (.invokevirtual 159, 3) := by decide +kernel
theorem dX7_accepted_68 : decode cX7_accepted 68 = .ok (.if_icmp .le 15, 3) := by decide +kernel
theorem dX7_accepted_71 : decode cX7_accepted 71 = .ok (.aload_n 0, 1) := by decide +kernel
theorem dX7_accepted_72 : decode cX7_accepted 72 = .ok (.iload_n 1, 1) := by decide +kernel
theorem dX7_accepted_73 : decode cX7_accepted 73 = .ok (.iload_n 2, 1) := by decide +kernel
theorem dX7_accepted_74 : decode cX7_accepted 74 = .ok (.aload_n 0, 1) := by decide +kernel
theorem dX7_accepted_75 : decode cX7_accepted 75 = .ok (.getfield 22, 3) := by decide +kernel
theorem dX7_accepted_78 : decode cX7_accepted 78 = .ok (.iload_n 1, 1) := by decide +kernel
theorem dX7_accepted_79 : decode cX7_accepted 79 = .ok (.iaload, 1) := by decide +kernel
theorem dX7_accepted_80 : decode cX7_accepted 80 = .ok (.invokevirtual 162, 3) := by decide +kernel
theorem dX7_accepted_83 : decode cX7_accepted 83 = .ok (.aload_n 0, 1) := by decide +kernel
theorem dX7_accepted_84 : decode cX7_accepted 84 = .ok (.getfield 16, 3) := by decide +kernel
theorem dX7_accepted_87 : decode cX7_accepted 87 = .ok (.iload_n 2, 1) := by decide +kernel
theorem dX7_accepted_88 : decode cX7_accepted 88 = .ok (.aload_n 0, 1) := by decide +kernel
theorem dX7_accepted_89 : decode cX7_accepted 89 = .ok (.getfield 40, 3) := by decide +kernel
theorem dX7_accepted_92 : decode cX7_accepted 92 = .ok (.iload_n 2, 1) := by decide +kernel
theorem dX7_accepted_93 : decode cX7_accepted 93 = .ok (.iaload, 1) := by decide +kernel
theorem dX7_accepted_94 : decode cX7_accepted 94 = .ok (.iastore, 1) := by decide +kernel
theorem dX7_accepted_95 : decode cX7_accepted 95 = .ok (.aload_n 0, 1) := by decide +kernel
theorem dX7_accepted_96 : decode cX7_accepted 96 = .ok (.getfield 43, 3) := by decide +kernel
theorem dX7_accepted_99 : decode cX7_accepted 99 = .ok (.iload_n 2, 1) := by decide +kernel
theorem dX7_accepted_100 : decode cX7_accepted 100 = .ok (.iconst 1, 1) := by decide +kernel
theorem dX7_accepted_101 : decode cX7_accepted 101 = .ok (.bastore, 1) := by decide +kernel
theorem dX7_accepted_102 : decode cX7_accepted 102 = .ok (.aload_n 0, 1) := by decide +kernel
theorem dX7_accepted_103 : decode cX7_accepted 103 = .ok (.iload_n 1, 1) := by decide +kernel
theorem dX7_accepted_104 : decode cX7_accepted 104 = .ok (.iload_n 2, 1) := by decide +kernel
theorem dX7_accepted_105 : decode cX7_accepted 105 = .ok (.invokevirtual 156, 3) := by decide +kernel
theorem dX7_accepted_108 : decode cX7_accepted 108 = .ok (.iconst 0, 1) := by decide +kernel
theorem dX7_accepted_109 : decode cX7_accepted 109 = .ok (.istore 4, 2) := by decide +kernel
theorem dX7_accepted_111 : decode cX7_accepted 111 = .ok (.iload 4, 2) := by decide +kernel
theorem dX7_accepted_113 : decode cX7_accepted 113 = .ok (.iconst 3, 1) := by decide +kernel
theorem dX7_accepted_114 : decode cX7_accepted 114 = .ok (.if_icmp .ge 36, 3) := by decide +kernel
theorem dX7_accepted_117 : decode cX7_accepted 117 = .ok (.aload_n 0, 1) := by decide +kernel
theorem dX7_accepted_118 : decode cX7_accepted 118 = .ok (.iload 4, 2) := by decide +kernel
theorem dX7_accepted_120 : decode cX7_accepted 120 = .ok (.iload_n 2, 1) := by decide +kernel
theorem dX7_accepted_121 : decode cX7_accepted 121 = .ok (.invokevirtual 130, 3) := by decide +kernel
theorem dX7_accepted_124 : decode cX7_accepted 124 = .ok (.ifCond .eq 20, 3) := by decide +kernel
theorem dX7_accepted_127 : decode cX7_accepted 127 = .ok (.aload_n 0, 1) := by decide +kernel
theorem dX7_accepted_128 : decode cX7_accepted 128 = .ok (.getfield 56, 3) := by decide +kernel
theorem dX7_accepted_131 : decode cX7_accepted 131 = .ok (.iload 4, 2) := by decide +kernel
theorem dX7_accepted_133 : decode cX7_accepted 133 = .ok (.baload, 1) := by decide +kernel
theorem dX7_accepted_134 : decode cX7_accepted 134 = .ok (.ifCond .eq 10, 3) := by decide +kernel
theorem dX7_accepted_137 : decode cX7_accepted 137 = .ok (.aload_n 0, 1) := by decide +kernel
theorem dX7_accepted_138 : decode cX7_accepted 138 = .ok (.iload 4, 2) := by decide +kernel
theorem dX7_accepted_140 : decode cX7_accepted 140 = .ok (.iload_n 2, 1) := by decide +kernel
theorem dX7_accepted_141 : decode cX7_accepted 141 = .ok (.invokevirtual 156, 3) := by decide +kernel
theorem dX7_accepted_144 : decode cX7_accepted 144 = .ok (.iinc 4 1, 3) := by decide +kernel
theorem dX7_accepted_147 : decode cX7_accepted 147 = .ok (.goto (-36), 3) := by decide +kernel
theorem dX7_accepted_150 : decode cX7_accepted 150 = .ok (.return_, 1) := by decide +kernel
theorem dX7_acknowledged_0 : decode cX7_acknowledged 0 = .ok (.aload_n 0, 1) := by decide +kernel
theorem dX7_acknowledged_1 : decode cX7_acknowledged 1 = .ok (.getfield 62, 3) := by decide +kernel
theorem dX7_acknowledged_4 : decode cX7_acknowledged 4 = .ok (.iload_n 1, 1) := by decide +kernel
theorem dX7_acknowledged_5 : decode cX7_acknowledged 5 = .ok (.baload, 1) := by decide +kernel
theorem dX7_acknowledged_6 : decode cX7_acknowledged 6 = .ok (.istore 4, 2) := by decide +kernel
theorem dX7_acknowledged_8 : decode cX7_acknowledged 8 = .ok (.aload_n 0, 1) := by decide +kernel
theorem dX7_acknowledged_9 : decode cX7_acknowledged 9 = .ok (.getfield 62, 3) := by decide +kernel
theorem dX7_acknowledged_12 : decode cX7_acknowledged 12 = .ok (.iload_n 1, 1) := by decide +kernel
theorem dX7_acknowledged_13 : decode cX7_acknowledged 13 = .ok (.iconst 1, 1) := by decide +kernel
theorem dX7_acknowledged_14 : decode cX7_acknowledged 14 = .ok (.bastore, 1) := by decide +kernel
theorem dX7_acknowledged_15 : decode cX7_acknowledged 15 = .ok (.aload_n 0, 1) := by decide +kernel
theorem dX7_acknowledged_16 : decode cX7_acknowledged 16 = .ok (.getfield 7, 3) := by decide +kernel
theorem dX7_acknowledged_19 : decode cX7_acknowledged 19 = .ok (.iload_n 2, 1) := by decide +kernel
theorem dX7_acknowledged_20 : decode cX7_acknowledged 20 = .ok (.iaload, 1) := by decide +kernel
theorem dX7_acknowledged_21 : decode cX7_acknowledged 21 = .ok (.iconst 3, 1) := by decide +kernel
theorem dX7_acknowledged_22 : decode cX7_acknowledged 22 = .ok (.if_icmp .ne 37, 3) := by decide +kernel
theorem dX7_acknowledged_25 : decode cX7_acknowledged 25 = .ok (.aload_n 0, 1) := by decide +kernel
theorem dX7_acknowledged_26 : decode cX7_acknowledged 26 = .ok (.getfield 7, 3) := by decide +kernel
theorem dX7_acknowledged_29 : decode cX7_acknowledged 29 = .ok (.iload_n 2, 1) := by decide +kernel
theorem dX7_acknowledged_30 : decode cX7_acknowledged 30 = .ok (.iconst 4, 1) := by decide +kernel
theorem dX7_acknowledged_31 : decode cX7_acknowledged 31 = .ok (.iastore, 1) := by decide +kernel
theorem dX7_acknowledged_32 : decode cX7_acknowledged 32 = .ok (.iconst 0, 1) := by decide +kernel
theorem dX7_acknowledged_33 : decode cX7_acknowledged 33 = .ok (.istore 5, 2) := by decide +kernel
theorem dX7_acknowledged_35 : decode cX7_acknowledged 35 = .ok (.iload 5, 2) := by decide +kernel
theorem dX7_acknowledged_37 : decode cX7_acknowledged 37 = .ok (.iconst 5, 1) := by decide +kernel
theorem dX7_acknowledged_38 : decode cX7_acknowledged 38 = .ok (.if_icmp .ge 21, 3) := by decide +kernel
theorem dX7_acknowledged_41 : decode cX7_acknowledged 41 = .ok (.aload_n 0, 1) := by decide +kernel
theorem dX7_acknowledged_42 : decode cX7_acknowledged 42 = .ok (.getfield 50, 3) := by decide +kernel
theorem dX7_acknowledged_45 : decode cX7_acknowledged 45 = .ok (.iconst 5, 1) := by decide +kernel
theorem dX7_acknowledged_46 : decode cX7_acknowledged 46 = .ok (.iload_n 2, 1) := by decide +kernel
theorem dX7_acknowledged_47 : decode cX7_acknowledged 47 = .ok (.imul, 1) := by decide +kernel
theorem dX7_acknowledged_48 : decode cX7_acknowledged 48 = .ok (.iload 5, 2) := by decide +kernel
theorem dX7_acknowledged_50 : decode cX7_acknowledged 50 = .ok (.iadd, 1) := by decide +kernel
theorem dX7_acknowledged_51 : decode cX7_acknowledged 51 = .ok (.iconst 0, 1) := by decide +kernel
theorem dX7_acknowledged_52 : decode cX7_acknowledged 52 = .ok (.iastore, 1) := by decide +kernel
theorem dX7_acknowledged_53 : decode cX7_acknowledged 53 = .ok (.iinc 5 1, 3) := by decide +kernel
theorem dX7_acknowledged_56 : decode cX7_acknowledged 56 = .ok (.goto (-21), 3) := by decide +kernel
theorem dX7_acknowledged_59 : decode cX7_acknowledged 59 = .ok (.iload_n 3, 1) := by decide +kernel
theorem dX7_acknowledged_60 : decode cX7_acknowledged 60 = .ok (.aload_n 0, 1) := by decide +kernel
theorem dX7_acknowledged_61 : decode cX7_acknowledged 61 = .ok (.getfield 19, 3) := by decide +kernel
theorem dX7_acknowledged_64 : decode cX7_acknowledged 64 = .ok (.iload_n 2, 1) := by decide +kernel
theorem dX7_acknowledged_65 : decode cX7_acknowledged 65 = .ok (.iaload, 1) := by decide +kernel
theorem dX7_acknowledged_66 : decode cX7_acknowledged 66 = .ok (.if_icmp .le 57, 3) := by decide +kernel
theorem dX7_acknowledged_69 : decode cX7_acknowledged 69 = .ok (.aload_n 0, 1) := by decide +kernel
theorem dX7_acknowledged_70 : decode cX7_acknowledged 70 = .ok (.getfield 19, 3) := by decide +kernel
theorem dX7_acknowledged_73 : decode cX7_acknowledged 73 = .ok (.iload_n 2, 1) := by decide +kernel
theorem dX7_acknowledged_74 : decode cX7_acknowledged 74 = .ok (.iload_n 3, 1) := by decide +kernel
theorem dX7_acknowledged_75 : decode cX7_acknowledged 75 = .ok (.iastore, 1) := by decide +kernel
theorem dX7_acknowledged_76 : decode cX7_acknowledged 76 = .ok (.iconst 0, 1) := by decide +kernel
theorem dX7_acknowledged_77 : decode cX7_acknowledged 77 = .ok (.istore 5, 2) := by decide +kernel
theorem dX7_acknowledged_79 : decode cX7_acknowledged 79 = .ok (.iload 5, 2) := by decide +kernel
theorem dX7_acknowledged_81 : decode cX7_acknowledged 81 = .ok (.iconst 3, 1) := by decide +kernel
theorem dX7_acknowledged_82 : decode cX7_acknowledged 82 = .ok (.if_icmp .ge 38, 3) := by decide +kernel
theorem dX7_acknowledged_85 : decode cX7_acknowledged 85 = .ok (.aload_n 0, 1) := by decide +kernel
theorem dX7_acknowledged_86 : decode cX7_acknowledged 86 = .ok (.iload 5, 2) := by decide +kernel
theorem dX7_acknowledged_88 : decode cX7_acknowledged 88 = .ok (.iload_n 2, 1) := by decide +kernel
theorem dX7_acknowledged_89 : decode cX7_acknowledged 89 = .ok (.invokevirtual 130, 3) := by decide +kernel
theorem dX7_acknowledged_92 : decode cX7_acknowledged 92 = .ok (.ifCond .eq 22, 3) := by decide +kernel
theorem dX7_acknowledged_95 : decode cX7_acknowledged 95 = .ok (.aload_n 0, 1) := by decide +kernel
theorem dX7_acknowledged_96 : decode cX7_acknowledged 96 = .ok (.getfield 59, 3) := by decide +kernel
theorem dX7_acknowledged_99 : decode cX7_acknowledged 99 = .ok (.iload 5, 2) := by decide +kernel
theorem dX7_acknowledged_101 : decode cX7_acknowledged 101 = .ok (.baload, 1) := by decide +kernel
theorem dX7_acknowledged_102 : decode cX7_acknowledged 102 = .ok (.ifCond .eq 12, 3) := by decide +kernel
theorem dX7_acknowledged_105 : decode cX7_acknowledged 105 = .ok (.aload_n 0, 1) := by decide +kernel
theorem dX7_acknowledged_106 : decode cX7_acknowledged 106 = .ok (.iload 5, 2) := by decide +kernel
theorem dX7_acknowledged_108 : decode cX7_acknowledged 108 = .ok (.bipush 7, 2) := by decide +kernel
theorem dX7_acknowledged_110 : decode cX7_acknowledged 110 = .ok (.iload_n 3, 1) := by decide +kernel
theorem dX7_acknowledged_111 : decode cX7_acknowledged 111 = .ok (.invokevirtual 149, 3) := by decide +kernel
theorem dX7_acknowledged_114 : decode cX7_acknowledged 114 = .ok (.iinc 5 1, 3) := by decide +kernel
theorem dX7_acknowledged_117 : decode cX7_acknowledged 117 = .ok (.goto (-38), 3) := by decide +kernel
theorem dX7_acknowledged_120 : decode cX7_acknowledged 120 = .ok (.goto 21, 3) := by decide +kernel
theorem dX7_acknowledged_123 : decode cX7_acknowledged 123 = .ok (.iload 4, 2) := by decide +kernel
theorem dX7_acknowledged_125 : decode cX7_acknowledged 125 = .ok (.ifCond .ne 16, 3) := by decide +kernel
theorem dX7_acknowledged_128 : decode cX7_acknowledged 128 = .ok (.aload_n 0, 1) := by decide +kernel
theorem dX7_acknowledged_129 : decode cX7_acknowledged 129 = .ok (.iload_n 1, 1) := by decide +kernel
theorem dX7_acknowledged_130 : decode cX7_acknowledged 130 = .ok (.bipush 7, 2) := by decide +kernel
theorem dX7_acknowledged_132 : decode cX7_acknowledged 132 = .ok (.aload_n 0, 1) := by decide +kernel
theorem dX7_acknowledged_133 : decode cX7_acknowledged 133 = .ok (.getfield 19, 3) := by decide +kernel
theorem dX7_acknowledged_136 : decode cX7_acknowledged 136 = .ok (.iload_n 2, 1) := by decide +kernel
theorem dX7_acknowledged_137 : decode cX7_acknowledged 137 = .ok (.iaload, 1) := by decide +kernel
theorem dX7_acknowledged_138 : decode cX7_acknowledged 138 = .ok (.invokevirtual 149, 3) := by decide +kernel
theorem dX7_acknowledged_141 : decode cX7_acknowledged 141 = .ok (.return_, 1) := by decide +kernel
theorem dX7_up_0 : decode cX7_up 0 = .ok (.iload_n 1, 1) := by decide +kernel
theorem dX7_up_1 : decode cX7_up 1 = .ok (.invokestatic 138, 3) := by decide +kernel
theorem dX7_up_4 : decode cX7_up 4 = .ok (.ifCond .eq 5, 3) := by decide +kernel
theorem dX7_up_7 : decode cX7_up 7 = .ok (.iconst 0, 1) := by decide +kernel
theorem dX7_up_8 : decode cX7_up 8 = .ok (.ireturn, 1) := by decide +kernel
theorem dX7_up_9 : decode cX7_up 9 = .ok (.aload_n 0, 1) := by decide +kernel
theorem dX7_up_10 : decode cX7_up 10 = .ok (.getfield 7, 3) := by decide +kernel
theorem dX7_up_13 : decode cX7_up 13 = .ok (.iload_n 1, 1) := by decide +kernel
theorem dX7_up_14 : decode cX7_up 14 = .ok (.iaload, 1) := by decide +kernel
theorem dX7_up_15 : decode cX7_up 15 = .ok (.iconst 2, 1) := by decide +kernel
theorem dX7_up_16 : decode cX7_up 16 = .ok (.if_icmp .ne 18, 3) := by decide +kernel
theorem dX7_up_19 : decode cX7_up 19 = .ok (.aload_n 0, 1) := by decide +kernel
theorem dX7_up_20 : decode cX7_up 20 = .ok (.getfield 74, 3) := by decide +kernel
theorem dX7_up_23 : decode cX7_up 23 = .ok (.iload_n 1, 1) := by decide +kernel
theorem dX7_up_24 : decode cX7_up 24 = .ok (.iaload, 1) := by decide +kernel
theorem dX7_up_25 : decode cX7_up 25 = .ok (.aload_n 0, 1) := by decide +kernel
theorem dX7_up_26 : decode cX7_up 26 = .ok (.getfield 71, 3) := by decide +kernel
theorem dX7_up_29 : decode cX7_up 29 = .ok (.iload_n 1, 1) := by decide +kernel
theorem dX7_up_30 : decode cX7_up 30 = .ok (.iaload, 1) := by decide +kernel
theorem dX7_up_31 : decode cX7_up 31 = .ok (.if_icmp .ne 5, 3) := by decide +kernel
theorem dX7_up_34 : decode cX7_up 34 = .ok (.iconst 0, 1) := by decide +kernel
theorem dX7_up_35 : decode cX7_up 35 = .ok (.ireturn, 1) := by decide +kernel
theorem dX7_up_36 : decode cX7_up 36 = .ok (.aload_n 0, 1) := by decide +kernel
theorem dX7_up_37 : decode cX7_up 37 = .ok (.getfield 53, 3) := by decide +kernel
theorem dX7_up_40 : decode cX7_up 40 = .ok (.iload_n 1, 1) := by decide +kernel
theorem dX7_up_41 : decode cX7_up 41 = .ok (.iaload, 1) := by decide +kernel
theorem dX7_up_42 : decode cX7_up 42 = .ok (.istore_n 2, 1) := by decide +kernel
theorem dX7_up_43 : decode cX7_up 43 = .ok (.bipush 64, 2) := by decide +kernel
theorem dX7_up_45 : decode cX7_up 45 = .ok (.iload_n 1, 1) := by decide +kernel
theorem dX7_up_46 : decode cX7_up 46 = .ok (.imul, 1) := by decide +kernel
theorem dX7_up_47 : decode cX7_up 47 = .ok (.aload_n 0, 1) := by decide +kernel
theorem dX7_up_48 : decode cX7_up 48 = .ok (.getfield 74, 3) := by decide +kernel
theorem dX7_up_51 : decode cX7_up 51 = .ok (.iload_n 1, 1) := by decide +kernel
theorem dX7_up_52 : decode cX7_up 52 = .ok (.iaload, 1) := by decide +kernel
theorem dX7_up_53 : decode cX7_up 53 = .ok (.iadd, 1) := by decide +kernel
theorem dX7_up_54 : decode cX7_up 54 = .ok (.istore_n 3, 1) := by decide +kernel
theorem dX7_up_55 : decode cX7_up 55 = .ok (.aload_n 0, 1) := by decide +kernel
theorem dX7_up_56 : decode cX7_up 56 = .ok (.getfield 65, 3) := by decide +kernel
theorem dX7_up_59 : decode cX7_up 59 = .ok (.iload_n 3, 1) := by decide +kernel
theorem dX7_up_60 : decode cX7_up 60 = .ok (.iaload, 1) := by decide +kernel
theorem dX7_up_61 : decode cX7_up 61 = .ok (.istore 4, 2) := by decide +kernel
theorem dX7_up_63 : decode cX7_up 63 = .ok (.aload_n 0, 1) := by decide +kernel
theorem dX7_up_64 : decode cX7_up 64 = .ok (.getfield 68, 3) := by decide +kernel
theorem dX7_up_67 : decode cX7_up 67 = .ok (.iload_n 3, 1) := by decide +kernel
theorem dX7_up_68 : decode cX7_up 68 = .ok (.iaload, 1) := by decide +kernel
theorem dX7_up_69 : decode cX7_up 69 = .ok (.istore 5, 2) := by decide +kernel
theorem dX7_up_71 : decode cX7_up 71 = .ok (.aload_n 0, 1) := by decide +kernel
theorem dX7_up_72 : decode cX7_up 72 = .ok (.getfield 74, 3) := by decide +kernel
theorem dX7_up_75 : decode cX7_up 75 = .ok (.iload_n 1, 1) := by decide +kernel
theorem dX7_up_76 : decode cX7_up 76 = .ok (.dup2, 1) := by decide +kernel
theorem dX7_up_77 : decode cX7_up 77 = .ok (.iaload, 1) := by decide +kernel
theorem dX7_up_78 : decode cX7_up 78 = .ok (.iconst 1, 1) := by decide +kernel
theorem dX7_up_79 : decode cX7_up 79 = .ok (.iadd, 1) := by decide +kernel
theorem dX7_up_80 : decode cX7_up 80 = .ok (.iastore, 1) := by decide +kernel
theorem dX7_up_81 : decode cX7_up 81 = .ok (.iload 4, 2) := by decide +kernel
theorem dX7_up_83 : decode cX7_up 83 = .ok (.iconst 1, 1) := by decide +kernel
theorem dX7_up_84 : decode cX7_up 84 = .ok (.if_icmp .ne 69, 3) := by decide +kernel
theorem dX7_up_87 : decode cX7_up 87 = .ok (.aload_n 0, 1) := by decide +kernel
theorem dX7_up_88 : decode cX7_up 88 = .ok (.getfield 40, 3) := by decide +kernel
theorem dX7_up_91 : decode cX7_up 91 = .ok (.iload_n 2, 1) := by decide +kernel
theorem dX7_up_92 : decode cX7_up 92 = .ok (.iaload, 1) := by decide +kernel
theorem dX7_up_93 : decode cX7_up 93 = .ok (.ifCond .ne 45, 3) := by decide +kernel
theorem dX7_up_96 : decode cX7_up 96 = .ok (.aload_n 0, 1) := by decide +kernel
theorem dX7_up_97 : decode cX7_up 97 = .ok (.getfield 40, 3) := by decide +kernel
theorem dX7_up_100 : decode cX7_up 100 = .ok (.iload_n 2, 1) := by decide +kernel
theorem dX7_up_101 : decode cX7_up 101 = .ok (.iconst 1, 1) := by decide +kernel
theorem dX7_up_102 : decode cX7_up 102 = .ok (.iload 5, 2) := by decide +kernel
theorem dX7_up_104 : decode cX7_up 104 = .ok (.aload_n 0, 1) := by decide +kernel
theorem dX7_up_105 : decode cX7_up 105 = .ok (.getfield 13, 3) := by decide +kernel
theorem dX7_up_108 : decode cX7_up 108 = .ok (.iload_n 2, 1) := by decide +kernel
theorem dX7_up_109 : decode cX7_up 109 = .ok (.iaload, 1) := by decide +kernel
theorem dX7_up_110 : decode cX7_up 110 = .ok (.if_icmp .le 8, 3) := by decide +kernel
theorem dX7_up_113 : decode cX7_up 113 = .ok (.iload 5, 2) := by decide +kernel
theorem dX7_up_115 : decode cX7_up 115 = .ok (.goto 9, 3) := by decide +kernel
theorem dX7_up_118 : decode cX7_up 118 = .ok (.aload_n 0, 1) := by decide +kernel
theorem dX7_up_119 : decode cX7_up 119 = .ok (.getfield 13, 3) := by decide +kernel
theorem dX7_up_122 : decode cX7_up 122 = .ok (.iload_n 2, 1) := by decide +kernel
theorem dX7_up_123 : decode cX7_up 123 = .ok (.iaload, 1) := by decide +kernel
theorem dX7_up_124 : decode cX7_up 124 = .ok (.iadd, 1) := by decide +kernel
theorem dX7_up_125 : decode cX7_up 125 = .ok (.iastore, 1) := by decide +kernel
theorem dX7_up_126 : decode cX7_up 126 = .ok (.aload_n 0, 1) := by decide +kernel
theorem dX7_up_127 : decode cX7_up 127 = .ok (.getfield 13, 3) := by decide +kernel
theorem dX7_up_130 : decode cX7_up 130 = .ok (.iload_n 2, 1) := by decide +kernel
theorem dX7_up_131 : decode cX7_up 131 = .ok (.aload_n 0, 1) := by decide +kernel
theorem dX7_up_132 : decode cX7_up 132 = .ok (.getfield 40, 3) := by decide +kernel
theorem dX7_up_135 : decode cX7_up 135 = .ok (.iload_n 2, 1) := by decide +kernel
theorem dX7_up_136 : decode cX7_up 136 = .ok (.iaload, 1) := by decide +kernel
theorem dX7_up_137 : decode cX7_up 137 = .ok (.iastore, 1) := by decide +kernel
theorem dX7_up_138 : decode cX7_up 138 = .ok (.aload_n 0, 1) := by decide +kernel
theorem dX7_up_139 : decode cX7_up 139 = .ok (.iload_n 1, 1) := by decide +kernel
theorem dX7_up_140 : decode cX7_up 140 = .ok (.iconst 4, 1) := by decide +kernel
theorem dX7_up_141 : decode cX7_up 141 = .ok (.aload_n 0, 1) := by decide +kernel
theorem dX7_up_142 : decode cX7_up 142 = .ok (.getfield 40, 3) := by decide +kernel
theorem dX7_up_145 : decode cX7_up 145 = .ok (.iload_n 2, 1) := by decide +kernel
theorem dX7_up_146 : decode cX7_up 146 = .ok (.iaload, 1) := by decide +kernel
theorem dX7_up_147 : decode cX7_up 147 = .ok (.invokevirtual 149, 3) := by decide +kernel
theorem dX7_up_150 : decode cX7_up 150 = .ok (.goto 37, 3) := by decide +kernel
theorem dX7_up_153 : decode cX7_up 153 = .ok (.iload 4, 2) := by decide +kernel
theorem dX7_up_155 : decode cX7_up 155 = .ok (.iconst 2, 1) := by decide +kernel
theorem dX7_up_156 : decode cX7_up 156 = .ok (.if_icmp .ne 23, 3) := by decide +kernel
theorem dX7_up_159 : decode cX7_up 159 = .ok (.aload_n 0, 1) := by decide +kernel
theorem dX7_up_160 : decode cX7_up 160 = .ok (.iload_n 1, 1) := by decide +kernel
theorem dX7_up_161 : decode cX7_up 161 = .ok (.iload_n 2, 1) := by decide +kernel
theorem dX7_up_162 : decode cX7_up 162 = .ok (.iload 5, 2) := by decide +kernel
theorem dX7_up_164 : decode cX7_up 164 = .ok (.iconst 1, 1) := by decide +kernel
theorem dX7_up_165 : decode cX7_up 165 = .ok (.if_icmp .ne 7, 3) := by decide +kernel
theorem dX7_up_168 : decode cX7_up 168 = .ok (.iconst 1, 1) := by decide +kernel
theorem dX7_up_169 : decode cX7_up 169 = .ok (.goto 4, 3) := by decide +kernel
theorem dX7_up_172 : decode cX7_up 172 = .ok (.iconst 0, 1) := by decide +kernel
theorem dX7_up_173 : decode cX7_up 173 = .ok (.invokevirtual 165, 3) := by decide +kernel
theorem dX7_up_176 : decode cX7_up 176 = .ok (.goto 11, 3) := by decide +kernel
theorem dX7_up_179 : decode cX7_up 179 = .ok (.aload_n 0, 1) := by decide +kernel
theorem dX7_up_180 : decode cX7_up 180 = .ok (.iload_n 1, 1) := by decide +kernel
theorem dX7_up_181 : decode cX7_up 181 = .ok (.iload_n 2, 1) := by decide +kernel
theorem dX7_up_182 : decode cX7_up 182 = .ok (.iload 5, 2) := by decide +kernel
theorem dX7_up_184 : decode cX7_up 184 = .ok (.invokevirtual 169, 3) := by decide +kernel
theorem dX7_up_187 : decode cX7_up 187 = .ok (.iload 4, 2) := by decide +kernel
theorem dX7_up_189 : decode cX7_up 189 = .ok (.ireturn, 1) := by decide +kernel
theorem dX7_down_0 : decode cX7_down 0 = .ok (.iload_n 1, 1) := by decide +kernel
theorem dX7_down_1 : decode cX7_down 1 = .ok (.invokestatic 138, 3) := by decide +kernel
theorem dX7_down_4 : decode cX7_down 4 = .ok (.ifCond .eq 5, 3) := by decide +kernel
theorem dX7_down_7 : decode cX7_down 7 = .ok (.iconst 0, 1) := by decide +kernel
theorem dX7_down_8 : decode cX7_down 8 = .ok (.ireturn, 1) := by decide +kernel
theorem dX7_down_9 : decode cX7_down 9 = .ok (.aload_n 0, 1) := by decide +kernel
theorem dX7_down_10 : decode cX7_down 10 = .ok (.getfield 7, 3) := by decide +kernel
theorem dX7_down_13 : decode cX7_down 13 = .ok (.iload_n 1, 1) := by decide +kernel
theorem dX7_down_14 : decode cX7_down 14 = .ok (.iaload, 1) := by decide +kernel
theorem dX7_down_15 : decode cX7_down 15 = .ok (.iconst 2, 1) := by decide +kernel
theorem dX7_down_16 : decode cX7_down 16 = .ok (.if_icmp .ne 18, 3) := by decide +kernel
theorem dX7_down_19 : decode cX7_down 19 = .ok (.aload_n 0, 1) := by decide +kernel
theorem dX7_down_20 : decode cX7_down 20 = .ok (.getfield 86, 3) := by decide +kernel
theorem dX7_down_23 : decode cX7_down 23 = .ok (.iload_n 1, 1) := by decide +kernel
theorem dX7_down_24 : decode cX7_down 24 = .ok (.iaload, 1) := by decide +kernel
theorem dX7_down_25 : decode cX7_down 25 = .ok (.aload_n 0, 1) := by decide +kernel
theorem dX7_down_26 : decode cX7_down 26 = .ok (.getfield 83, 3) := by decide +kernel
theorem dX7_down_29 : decode cX7_down 29 = .ok (.iload_n 1, 1) := by decide +kernel
theorem dX7_down_30 : decode cX7_down 30 = .ok (.iaload, 1) := by decide +kernel
theorem dX7_down_31 : decode cX7_down 31 = .ok (.if_icmp .ne 5, 3) := by decide +kernel
theorem dX7_down_34 : decode cX7_down 34 = .ok (.iconst 0, 1) := by decide +kernel
theorem dX7_down_35 : decode cX7_down 35 = .ok (.ireturn, 1) := by decide +kernel
theorem dX7_down_36 : decode cX7_down 36 = .ok (.aload_n 0, 1) := by decide +kernel
theorem dX7_down_37 : decode cX7_down 37 = .ok (.getfield 53, 3) := by decide +kernel
theorem dX7_down_40 : decode cX7_down 40 = .ok (.iload_n 1, 1) := by decide +kernel
theorem dX7_down_41 : decode cX7_down 41 = .ok (.iaload, 1) := by decide +kernel
theorem dX7_down_42 : decode cX7_down 42 = .ok (.istore_n 2, 1) := by decide +kernel
theorem dX7_down_43 : decode cX7_down 43 = .ok (.bipush 64, 2) := by decide +kernel
theorem dX7_down_45 : decode cX7_down 45 = .ok (.iload_n 1, 1) := by decide +kernel
theorem dX7_down_46 : decode cX7_down 46 = .ok (.imul, 1) := by decide +kernel
theorem dX7_down_47 : decode cX7_down 47 = .ok (.aload_n 0, 1) := by decide +kernel
theorem dX7_down_48 : decode cX7_down 48 = .ok (.getfield 86, 3) := by decide +kernel
theorem dX7_down_51 : decode cX7_down 51 = .ok (.iload_n 1, 1) := by decide +kernel
theorem dX7_down_52 : decode cX7_down 52 = .ok (.iaload, 1) := by decide +kernel
theorem dX7_down_53 : decode cX7_down 53 = .ok (.iadd, 1) := by decide +kernel
theorem dX7_down_54 : decode cX7_down 54 = .ok (.istore_n 3, 1) := by decide +kernel
theorem dX7_down_55 : decode cX7_down 55 = .ok (.aload_n 0, 1) := by decide +kernel
theorem dX7_down_56 : decode cX7_down 56 = .ok (.getfield 77, 3) := by decide +kernel
theorem dX7_down_59 : decode cX7_down 59 = .ok (.iload_n 3, 1) := by decide +kernel
theorem dX7_down_60 : decode cX7_down 60 = .ok (.iaload, 1) := by decide +kernel
theorem dX7_down_61 : decode cX7_down 61 = .ok (.istore 4, 2) := by decide +kernel
theorem dX7_down_63 : decode cX7_down 63 = .ok (.aload_n 0, 1) := by decide +kernel
theorem dX7_down_64 : decode cX7_down 64 = .ok (.getfield 80, 3) := by decide +kernel
theorem dX7_down_67 : decode cX7_down 67 = .ok (.iload_n 3, 1) := by decide +kernel
theorem dX7_down_68 : decode cX7_down 68 = .ok (.iaload, 1) := by decide +kernel
theorem dX7_down_69 : decode cX7_down 69 = .ok (.istore 5, 2) := by decide +kernel
theorem dX7_down_71 : decode cX7_down 71 = .ok (.aload_n 0, 1) := by decide +kernel
theorem dX7_down_72 : decode cX7_down 72 = .ok (.getfield 86, 3) := by decide +kernel
theorem dX7_down_75 : decode cX7_down 75 = .ok (.iload_n 1, 1) := by decide +kernel
theorem dX7_down_76 : decode cX7_down 76 = .ok (.dup2, 1) := by decide +kernel
theorem dX7_down_77 : decode cX7_down 77 = .ok (.iaload, 1) := by decide +kernel
theorem dX7_down_78 : decode cX7_down 78 = .ok (.iconst 1, 1) := by decide +kernel
theorem dX7_down_79 : decode cX7_down 79 = .ok (.iadd, 1) := by decide +kernel
theorem dX7_down_80 : decode cX7_down 80 = .ok (.iastore, 1) := by decide +kernel
theorem dX7_down_81 : decode cX7_down 81 = .ok (.iload 4, 2) := by decide +kernel
theorem dX7_down_83 : decode cX7_down 83 = .ok (.iconst 4, 1) := by decide +kernel
theorem dX7_down_84 : decode cX7_down 84 = .ok (.if_icmp .ne 22, 3) := by decide +kernel
theorem dX7_down_87 : decode cX7_down 87 = .ok (.iload 5, 2) := by decide +kernel
theorem dX7_down_89 : decode cX7_down 89 = .ok (.aload_n 0, 1) := by decide +kernel
theorem dX7_down_90 : decode cX7_down 90 = .ok (.getfield 13, 3) := by decide +kernel
theorem dX7_down_93 : decode cX7_down 93 = .ok (.iload_n 1, 1) := by decide +kernel
theorem dX7_down_94 : decode cX7_down 94 = .ok (.iaload, 1) := by decide +kernel
theorem dX7_down_95 : decode cX7_down 95 = .ok (.if_icmp .ge 11, 3) := by decide +kernel
theorem dX7_down_98 : decode cX7_down 98 = .ok (.aload_n 0, 1) := by decide +kernel
theorem dX7_down_99 : decode cX7_down 99 = .ok (.iload_n 1, 1) := by decide +kernel
theorem dX7_down_100 : decode cX7_down 100 = .ok (.invokevirtual 134, 3) := by decide +kernel
theorem dX7_down_103 : decode cX7_down 103 = .ok (.goto 161, 3) := by decide +kernel
theorem dX7_down_106 : decode cX7_down 106 = .ok (.iload 4, 2) := by decide +kernel
theorem dX7_down_108 : decode cX7_down 108 = .ok (.iconst 4, 1) := by decide +kernel
theorem dX7_down_109 : decode cX7_down 109 = .ok (.if_icmp .ne 36, 3) := by decide +kernel
theorem dX7_down_112 : decode cX7_down 112 = .ok (.aload_n 0, 1) := by decide +kernel
theorem dX7_down_113 : decode cX7_down 113 = .ok (.iload_n 1, 1) := by decide +kernel
theorem dX7_down_114 : decode cX7_down 114 = .ok (.iconst 2, 1) := by decide +kernel
theorem dX7_down_115 : decode cX7_down 115 = .ok (.iload 5, 2) := by decide +kernel
theorem dX7_down_117 : decode cX7_down 117 = .ok (.aload_n 0, 1) := by decide +kernel
theorem dX7_down_118 : decode cX7_down 118 = .ok (.getfield 13, 3) := by decide +kernel
theorem dX7_down_121 : decode cX7_down 121 = .ok (.iload_n 1, 1) := by decide +kernel
theorem dX7_down_122 : decode cX7_down 122 = .ok (.iaload, 1) := by decide +kernel
theorem dX7_down_123 : decode cX7_down 123 = .ok (.if_icmp .le 7, 3) := by decide +kernel
theorem dX7_down_126 : decode cX7_down 126 = .ok (.iconst 1, 1) := by decide +kernel
theorem dX7_down_127 : decode cX7_down 127 = .ok (.goto 4, 3) := by decide +kernel
theorem dX7_down_130 : decode cX7_down 130 = .ok (.iconst 0, 1) := by decide +kernel
theorem dX7_down_131 : decode cX7_down 131 = .ok (.invokevirtual 142, 3) := by decide +kernel
theorem dX7_down_134 : decode cX7_down 134 = .ok (.aload_n 0, 1) := by decide +kernel
theorem dX7_down_135 : decode cX7_down 135 = .ok (.getfield 13, 3) := by decide +kernel
theorem dX7_down_138 : decode cX7_down 138 = .ok (.iload_n 1, 1) := by decide +kernel
theorem dX7_down_139 : decode cX7_down 139 = .ok (.iload 5, 2) := by decide +kernel
theorem dX7_down_141 : decode cX7_down 141 = .ok (.iastore, 1) := by decide +kernel
theorem dX7_down_142 : decode cX7_down 142 = .ok (.goto 122, 3) := by decide +kernel
theorem dX7_down_145 : decode cX7_down 145 = .ok (.iload 4, 2) := by decide +kernel
theorem dX7_down_147 : decode cX7_down 147 = .ok (.iconst 5, 1) := by decide +kernel
theorem dX7_down_148 : decode cX7_down 148 = .ok (.if_icmp .ne 34, 3) := by decide +kernel
theorem dX7_down_151 : decode cX7_down 151 = .ok (.aload_n 0, 1) := by decide +kernel
theorem dX7_down_152 : decode cX7_down 152 = .ok (.getfield 16, 3) := by decide +kernel
theorem dX7_down_155 : decode cX7_down 155 = .ok (.iload_n 1, 1) := by decide +kernel
theorem dX7_down_156 : decode cX7_down 156 = .ok (.aload_n 0, 1) := by decide +kernel
theorem dX7_down_157 : decode cX7_down 157 = .ok (.getfield 13, 3) := by decide +kernel
theorem dX7_down_160 : decode cX7_down 160 = .ok (.iload_n 1, 1) := by decide +kernel
theorem dX7_down_161 : decode cX7_down 161 = .ok (.iaload, 1) := by decide +kernel
theorem dX7_down_162 : decode cX7_down 162 = .ok (.iastore, 1) := by decide +kernel
theorem dX7_down_163 : decode cX7_down 163 = .ok (.aload_n 0, 1) := by decide +kernel
theorem dX7_down_164 : decode cX7_down 164 = .ok (.iload_n 2, 1) := by decide +kernel
theorem dX7_down_165 : decode cX7_down 165 = .ok (.iload_n 1, 1) := by decide +kernel
theorem dX7_down_166 : decode cX7_down 166 = .ok (.iload 5, 2) := by decide +kernel
theorem dX7_down_168 : decode cX7_down 168 = .ok (.invokevirtual 162, 3) := by decide +kernel
theorem dX7_down_171 : decode cX7_down 171 = .ok (.aload_n 0, 1) := by decide +kernel
theorem dX7_down_172 : decode cX7_down 172 = .ok (.iload_n 1, 1) := by decide +kernel
theorem dX7_down_173 : decode cX7_down 173 = .ok (.iconst 3, 1) := by decide +kernel
theorem dX7_down_174 : decode cX7_down 174 = .ok (.iload 5, 2) := by decide +kernel
theorem dX7_down_176 : decode cX7_down 176 = .ok (.invokevirtual 142, 3) := by decide +kernel
theorem dX7_down_179 : decode cX7_down 179 = .ok (.goto 85, 3) := by decide +kernel
theorem dX7_down_182 : decode cX7_down 182 = .ok (.iload 4, 2) := by decide +kernel
theorem dX7_down_184 : decode cX7_down 184 = .ok (.bipush 6, 2) := by decide +kernel
theorem dX7_down_186 : decode cX7_down 186 = .ok (.if_icmp .ne 50, 3) := by decide +kernel
theorem dX7_down_189 : decode cX7_down 189 = .ok (.aload_n 0, 1) := by decide +kernel
theorem dX7_down_190 : decode cX7_down 190 = .ok (.bipush 24, 2) := by decide +kernel
theorem dX7_down_192 : decode cX7_down 192 = .ok (.iload_n 2, 1) := by decide +kernel
theorem dX7_down_193 : decode cX7_down 193 = .ok (.imul, 1) := by decide +kernel
theorem dX7_down_194 : decode cX7_down 194 = .ok (.iload 5, 2) := by decide +kernel
theorem dX7_down_196 : decode cX7_down 196 = .ok (.iadd, 1) := by decide +kernel
theorem dX7_down_197 : decode cX7_down 197 = .ok (.bipush 24, 2) := by decide +kernel
theorem dX7_down_199 : decode cX7_down 199 = .ok (.iload_n 1, 1) := by decide +kernel
theorem dX7_down_200 : decode cX7_down 200 = .ok (.imul, 1) := by decide +kernel
theorem dX7_down_201 : decode cX7_down 201 = .ok (.aload_n 0, 1) := by decide +kernel
theorem dX7_down_202 : decode cX7_down 202 = .ok (.getfield 22, 3) := by decide +kernel
theorem dX7_down_205 : decode cX7_down 205 = .ok (.iload_n 1, 1) := by decide +kernel
theorem dX7_down_206 : decode cX7_down 206 = .ok (.iaload, 1) := by decide +kernel
theorem dX7_down_207 : decode cX7_down 207 = .ok (.iadd, 1) := by decide +kernel
theorem dX7_down_208 : decode cX7_down 208 = .ok (.invokevirtual 152, 3) := by decide +kernel
theorem dX7_down_211 : decode cX7_down 211 = .ok (.aload_n 0, 1) := by decide +kernel
theorem dX7_down_212 : decode cX7_down 212 = .ok (.getfield 22, 3) := by decide +kernel
theorem dX7_down_215 : decode cX7_down 215 = .ok (.iload_n 1, 1) := by decide +kernel
theorem dX7_down_216 : decode cX7_down 216 = .ok (.dup2, 1) := by decide +kernel
theorem dX7_down_217 : decode cX7_down 217 = .ok (.iaload, 1) := by decide +kernel
theorem dX7_down_218 : decode cX7_down 218 = .ok (.iconst 1, 1) := by decide +kernel
theorem dX7_down_219 : decode cX7_down 219 = .ok (.iadd, 1) := by decide +kernel
theorem dX7_down_220 : decode cX7_down 220 = .ok (.iastore, 1) := by decide +kernel
theorem dX7_down_221 : decode cX7_down 221 = .ok (.aload_n 0, 1) := by decide +kernel
theorem dX7_down_222 : decode cX7_down 222 = .ok (.iload_n 1, 1) := by decide +kernel
theorem dX7_down_223 : decode cX7_down 223 = .ok (.iconst 3, 1) := by decide +kernel
theorem dX7_down_224 : decode cX7_down 224 = .ok (.aload_n 0, 1) := by decide +kernel
theorem dX7_down_225 : decode cX7_down 225 = .ok (.getfield 22, 3) := by decide +kernel
theorem dX7_down_228 : decode cX7_down 228 = .ok (.iload_n 1, 1) := by decide +kernel
theorem dX7_down_229 : decode cX7_down 229 = .ok (.iaload, 1) := by decide +kernel
theorem dX7_down_230 : decode cX7_down 230 = .ok (.invokevirtual 142, 3) := by decide +kernel
theorem dX7_down_233 : decode cX7_down 233 = .ok (.goto 31, 3) := by decide +kernel
theorem dX7_down_236 : decode cX7_down 236 = .ok (.aload_n 0, 1) := by decide +kernel
theorem dX7_down_237 : decode cX7_down 237 = .ok (.getfield 19, 3) := by decide +kernel
theorem dX7_down_240 : decode cX7_down 240 = .ok (.iload_n 1, 1) := by decide +kernel
theorem dX7_down_241 : decode cX7_down 241 = .ok (.iload 5, 2) := by decide +kernel
theorem dX7_down_243 : decode cX7_down 243 = .ok (.aload_n 0, 1) := by decide +kernel
theorem dX7_down_244 : decode cX7_down 244 = .ok (.getfield 19, 3) := by decide +kernel
theorem dX7_down_247 : decode cX7_down 247 = .ok (.iload_n 1, 1) := by decide +kernel
theorem dX7_down_248 : decode cX7_down 248 = .ok (.iaload, 1) := by decide +kernel
theorem dX7_down_249 : decode cX7_down 249 = .ok (.if_icmp .le 8, 3) := by decide +kernel
theorem dX7_down_252 : decode cX7_down 252 = .ok (.iload 5, 2) := by decide +kernel
theorem dX7_down_254 : decode cX7_down 254 = .ok (.goto 9, 3) := by decide +kernel
theorem dX7_down_257 : decode cX7_down 257 = .ok (.aload_n 0, 1) := by decide +kernel
theorem dX7_down_258 : decode cX7_down 258 = .ok (.getfield 19, 3) := by decide +kernel
theorem dX7_down_261 : decode cX7_down 261 = .ok (.iload_n 1, 1) := by decide +kernel
theorem dX7_down_262 : decode cX7_down 262 = .ok (.iaload, 1) := by decide +kernel
theorem dX7_down_263 : decode cX7_down 263 = .ok (.iastore, 1) := by decide +kernel
theorem dX7_down_264 : decode cX7_down 264 = .ok (.iload 4, 2) := by decide +kernel
theorem dX7_down_266 : decode cX7_down 266 = .ok (.ireturn, 1) := by decide +kernel
theorem dX7_make_0 : decode cX7_make 0 = .ok (.bipush 24, 2) := by decide +kernel
theorem dX7_make_2 : decode cX7_make 2 = .ok (.iload_n 1, 1) := by decide +kernel
theorem dX7_make_3 : decode cX7_make 3 = .ok (.imul, 1) := by decide +kernel
theorem dX7_make_4 : decode cX7_make 4 = .ok (.aload_n 0, 1) := by decide +kernel
theorem dX7_make_5 : decode cX7_make 5 = .ok (.getfield 22, 3) := by decide +kernel
theorem dX7_make_8 : decode cX7_make 8 = .ok (.iload_n 1, 1) := by decide +kernel
theorem dX7_make_9 : decode cX7_make 9 = .ok (.iaload, 1) := by decide +kernel
theorem dX7_make_10 : decode cX7_make 10 = .ok (.iadd, 1) := by decide +kernel
theorem dX7_make_11 : decode cX7_make 11 = .ok (.istore 6, 2) := by decide +kernel
theorem dX7_make_13 : decode cX7_make 13 = .ok (.aload_n 0, 1) := by decide +kernel
theorem dX7_make_14 : decode cX7_make 14 = .ok (.getfield 47, 3) := by decide +kernel
theorem dX7_make_17 : decode cX7_make 17 = .ok (.iload_n 1, 1) := by decide +kernel
theorem dX7_make_18 : decode cX7_make 18 = .ok (.dup2, 1) := by decide +kernel
theorem dX7_make_19 : decode cX7_make 19 = .ok (.iaload, 1) := by decide +kernel
theorem dX7_make_20 : decode cX7_make 20 = .ok (.iconst 1, 1) := by decide +kernel
theorem dX7_make_21 : decode cX7_make 21 = .ok (.iadd, 1) := by decide +kernel
theorem dX7_make_22 : decode cX7_make 22 = .ok (.iastore, 1) := by decide +kernel
theorem dX7_make_23 : decode cX7_make 23 = .ok (.aload_n 0, 1) := by decide +kernel
theorem dX7_make_24 : decode cX7_make 24 = .ok (.getfield 25, 3) := by decide +kernel
theorem dX7_make_27 : decode cX7_make 27 = .ok (.iload 6, 2) := by decide +kernel
theorem dX7_make_29 : decode cX7_make 29 = .ok (.sipush 1000, 3) := by decide +kernel
theorem dX7_make_32 : decode cX7_make 32 = .ok (.aload_n 0, 1) := by decide +kernel
theorem dX7_make_33 : decode cX7_make 33 = .ok (.getfield 16, 3) := by decide +kernel
theorem dX7_make_36 : decode cX7_make 36 = .ok (.iload_n 1, 1) := by decide +kernel
theorem dX7_make_37 : decode cX7_make 37 = .ok (.iaload, 1) := by decide +kernel
theorem dX7_make_38 : decode cX7_make 38 = .ok (.imul, 1) := by decide +kernel
theorem dX7_make_39 : decode cX7_make 39 = .ok (.aload_n 0, 1) := by decide +kernel
theorem dX7_make_40 : decode cX7_make 40 = .ok (.getfield 47, 3) := by decide +kernel
theorem dX7_make_43 : decode cX7_make 43 = .ok (.iload_n 1, 1) := by decide +kernel
theorem dX7_make_44 : decode cX7_make 44 = .ok (.iaload, 1) := by decide +kernel
theorem dX7_make_45 : decode cX7_make 45 = .ok (.iadd, 1) := by decide +kernel
theorem dX7_make_46 : decode cX7_make 46 = .ok (.iastore, 1) := by decide +kernel
theorem dX7_make_47 : decode cX7_make 47 = .ok (.aload_n 0, 1) := by decide +kernel
theorem dX7_make_48 : decode cX7_make 48 = .ok (.getfield 28, 3) := by decide +kernel
theorem dX7_make_51 : decode cX7_make 51 = .ok (.iload 6, 2) := by decide +kernel
theorem dX7_make_53 : decode cX7_make 53 = .ok (.iload_n 2, 1) := by decide +kernel
theorem dX7_make_54 : decode cX7_make 54 = .ok (.iastore, 1) := by decide +kernel
theorem dX7_make_55 : decode cX7_make 55 = .ok (.aload_n 0, 1) := by decide +kernel
theorem dX7_make_56 : decode cX7_make 56 = .ok (.getfield 31, 3) := by decide +kernel
theorem dX7_make_59 : decode cX7_make 59 = .ok (.iload 6, 2) := by decide +kernel
theorem dX7_make_61 : decode cX7_make 61 = .ok (.iload_n 3, 1) := by decide +kernel
theorem dX7_make_62 : decode cX7_make 62 = .ok (.iastore, 1) := by decide +kernel
theorem dX7_make_63 : decode cX7_make 63 = .ok (.aload_n 0, 1) := by decide +kernel
theorem dX7_make_64 : decode cX7_make 64 = .ok (.getfield 34, 3) := by decide +kernel
theorem dX7_make_67 : decode cX7_make 67 = .ok (.iload 6, 2) := by decide +kernel
theorem dX7_make_69 : decode cX7_make 69 = .ok (.iload 4, 2) := by decide +kernel
theorem dX7_make_71 : decode cX7_make 71 = .ok (.iastore, 1) := by decide +kernel
theorem dX7_make_72 : decode cX7_make 72 = .ok (.aload_n 0, 1) := by decide +kernel
theorem dX7_make_73 : decode cX7_make 73 = .ok (.getfield 37, 3) := by decide +kernel
theorem dX7_make_76 : decode cX7_make 76 = .ok (.iload 6, 2) := by decide +kernel
theorem dX7_make_78 : decode cX7_make 78 = .ok (.iload 5, 2) := by decide +kernel
theorem dX7_make_80 : decode cX7_make 80 = .ok (.iastore, 1) := by decide +kernel
theorem dX7_make_81 : decode cX7_make 81 = .ok (.iconst 0, 1) := by decide +kernel
theorem dX7_make_82 : decode cX7_make 82 = .ok (.istore 7, 2) := by decide +kernel
theorem dX7_make_84 : decode cX7_make 84 = .ok (.iload 7, 2) := by decide +kernel
theorem dX7_make_86 : decode cX7_make 86 = .ok (.iconst 3, 1) := by decide +kernel
theorem dX7_make_87 : decode cX7_make 87 = .ok (.if_icmp .ge 43, 3) := by decide +kernel
theorem dX7_make_90 : decode cX7_make 90 = .ok (.aload_n 0, 1) := by decide +kernel
theorem dX7_make_91 : decode cX7_make 91 = .ok (.iload 7, 2) := by decide +kernel
theorem dX7_make_93 : decode cX7_make 93 = .ok (.iload_n 1, 1) := by decide +kernel
theorem dX7_make_94 : decode cX7_make 94 = .ok (.invokevirtual 130, 3) := by decide +kernel
theorem dX7_make_97 : decode cX7_make 97 = .ok (.ifCond .eq 27, 3) := by decide +kernel
theorem dX7_make_100 : decode cX7_make 100 = .ok (.aload_n 0, 1) := by decide +kernel
theorem dX7_make_101 : decode cX7_make 101 = .ok (.getfield 59, 3) := by decide +kernel
theorem dX7_make_104 : decode cX7_make 104 = .ok (.iload 7, 2) := by decide +kernel
theorem dX7_make_106 : decode cX7_make 106 = .ok (.baload, 1) := by decide +kernel
theorem dX7_make_107 : decode cX7_make 107 = .ok (.ifCond .eq 17, 3) := by decide +kernel
theorem dX7_make_110 : decode cX7_make 110 = .ok (.aload_n 0, 1) := by decide +kernel
theorem dX7_make_111 : decode cX7_make 111 = .ok (.iload 7, 2) := by decide +kernel
theorem dX7_make_113 : decode cX7_make 113 = .ok (.bipush 6, 2) := by decide +kernel
theorem dX7_make_115 : decode cX7_make 115 = .ok (.aload_n 0, 1) := by decide +kernel
theorem dX7_make_116 : decode cX7_make 116 = .ok (.getfield 22, 3) := by decide +kernel
theorem dX7_make_119 : decode cX7_make 119 = .ok (.iload_n 1, 1) := by decide +kernel
theorem dX7_make_120 : decode cX7_make 120 = .ok (.iaload, 1) := by decide +kernel
theorem dX7_make_121 : decode cX7_make 121 = .ok (.invokevirtual 149, 3) := by decide +kernel
theorem dX7_make_124 : decode cX7_make 124 = .ok (.iinc 7 1, 3) := by decide +kernel
theorem dX7_make_127 : decode cX7_make 127 = .ok (.goto (-43), 3) := by decide +kernel
theorem dX7_make_130 : decode cX7_make 130 = .ok (.aload_n 0, 1) := by decide +kernel
theorem dX7_make_131 : decode cX7_make 131 = .ok (.getfield 22, 3) := by decide +kernel
theorem dX7_make_134 : decode cX7_make 134 = .ok (.iload_n 1, 1) := by decide +kernel
theorem dX7_make_135 : decode cX7_make 135 = .ok (.dup2, 1) := by decide +kernel
theorem dX7_make_136 : decode cX7_make 136 = .ok (.iaload, 1) := by decide +kernel
theorem dX7_make_137 : decode cX7_make 137 = .ok (.iconst 1, 1) := by decide +kernel
theorem dX7_make_138 : decode cX7_make 138 = .ok (.iadd, 1) := by decide +kernel
theorem dX7_make_139 : decode cX7_make 139 = .ok (.iastore, 1) := by decide +kernel
theorem dX7_make_140 : decode cX7_make 140 = .ok (.return_, 1) := by decide +kernel
theorem dX7_isPath_0 : decode cX7_isPath 0 = .ok (.iload_n 0, 1) := by decide +kernel
theorem dX7_isPath_1 : decode cX7_isPath 1 = .ok (.iconst 1, 1) := by decide +kernel
theorem dX7_isPath_2 : decode cX7_isPath 2 = .ok (.if_icmp .lt 10, 3) := by decide +kernel
theorem dX7_isPath_5 : decode cX7_isPath 5 = .ok (.iload_n 0, 1) := by decide +kernel
theorem dX7_isPath_6 : decode cX7_isPath 6 = .ok (.sipush 511, 3) := by decide +kernel
theorem dX7_isPath_9 : decode cX7_isPath 9 = .ok (.if_icmp .le 5, 3) := by decide +kernel
theorem dX7_isPath_12 : decode cX7_isPath 12 = .ok (.iconst 0, 1) := by decide +kernel
theorem dX7_isPath_13 : decode cX7_isPath 13 = .ok (.ireturn, 1) := by decide +kernel
theorem dX7_isPath_14 : decode cX7_isPath 14 = .ok (.iload_n 0, 1) := by decide +kernel
theorem dX7_isPath_15 : decode cX7_isPath 15 = .ok (.bipush 8, 2) := by decide +kernel
theorem dX7_isPath_17 : decode cX7_isPath 17 = .ok (.irem, 1) := by decide +kernel
theorem dX7_isPath_18 : decode cX7_isPath 18 = .ok (.ifCond .eq 23, 3) := by decide +kernel
theorem dX7_isPath_21 : decode cX7_isPath 21 = .ok (.iload_n 0, 1) := by decide +kernel
theorem dX7_isPath_22 : decode cX7_isPath 22 = .ok (.bipush 8, 2) := by decide +kernel
theorem dX7_isPath_24 : decode cX7_isPath 24 = .ok (.if_icmp .lt 13, 3) := by decide +kernel
theorem dX7_isPath_27 : decode cX7_isPath 27 = .ok (.iload_n 0, 1) := by decide +kernel
theorem dX7_isPath_28 : decode cX7_isPath 28 = .ok (.bipush 8, 2) := by decide +kernel
theorem dX7_isPath_30 : decode cX7_isPath 30 = .ok (.idiv, 1) := by decide +kernel
theorem dX7_isPath_31 : decode cX7_isPath 31 = .ok (.bipush 8, 2) := by decide +kernel
theorem dX7_isPath_33 : decode cX7_isPath 33 = .ok (.irem, 1) := by decide +kernel
theorem dX7_isPath_34 : decode cX7_isPath 34 = .ok (.ifCond .eq 7, 3) := by decide +kernel
theorem dX7_isPath_37 : decode cX7_isPath 37 = .ok (.iconst 1, 1) := by decide +kernel
theorem dX7_isPath_38 : decode cX7_isPath 38 = .ok (.goto 4, 3) := by decide +kernel
theorem dX7_isPath_41 : decode cX7_isPath 41 = .ok (.iconst 0, 1) := by decide +kernel
theorem dX7_isPath_42 : decode cX7_isPath 42 = .ok (.ireturn, 1) := by decide +kernel
theorem dX7_submit_0 : decode cX7_submit 0 = .ok (.iload_n 1, 1) := by decide +kernel
theorem dX7_submit_1 : decode cX7_submit 1 = .ok (.invokestatic 138, 3) := by decide +kernel
theorem dX7_submit_4 : decode cX7_submit 4 = .ok (.ifCond .ne 13, 3) := by decide +kernel
theorem dX7_submit_7 : decode cX7_submit 7 = .ok (.iload_n 2, 1) := by decide +kernel
theorem dX7_submit_8 : decode cX7_submit 8 = .ok (.iconst 1, 1) := by decide +kernel
theorem dX7_submit_9 : decode cX7_submit 9 = .ok (.if_icmp .lt 8, 3) := by decide +kernel
theorem dX7_submit_12 : decode cX7_submit 12 = .ok (.iload_n 2, 1) := by decide +kernel
theorem dX7_submit_13 : decode cX7_submit 13 = .ok (.iconst 5, 1) := by decide +kernel
theorem dX7_submit_14 : decode cX7_submit 14 = .ok (.if_icmp .le 5, 3) := by decide +kernel
theorem dX7_submit_17 : decode cX7_submit 17 = .ok (.iconst (-1), 1) := by decide +kernel
theorem dX7_submit_18 : decode cX7_submit 18 = .ok (.ireturn, 1) := by decide +kernel
theorem dX7_submit_19 : decode cX7_submit 19 = .ok (.iload_n 2, 1) := by decide +kernel
theorem dX7_submit_20 : decode cX7_submit 20 = .ok (.iconst 3, 1) := by decide +kernel
theorem dX7_submit_21 : decode cX7_submit 21 = .ok (.if_icmp .gt 12, 3) := by decide +kernel
theorem dX7_submit_24 : decode cX7_submit 24 = .ok (.iload_n 3, 1) := by decide +kernel
theorem dX7_submit_25 : decode cX7_submit 25 = .ok (.invokestatic 172, 3) := by decide +kernel
theorem dX7_submit_28 : decode cX7_submit 28 = .ok (.ifCond .ne 5, 3) := by decide +kernel
theorem dX7_submit_31 : decode cX7_submit 31 = .ok (.iconst (-1), 1) := by decide +kernel
theorem dX7_submit_32 : decode cX7_submit 32 = .ok (.ireturn, 1) := by decide +kernel
theorem dX7_submit_33 : decode cX7_submit 33 = .ok (.iload_n 2, 1) := by decide +kernel
theorem dX7_submit_34 : decode cX7_submit 34 = .ok (.iconst 1, 1) := by decide +kernel
theorem dX7_submit_35 : decode cX7_submit 35 = .ok (.if_icmp .ne 16, 3) := by decide +kernel
theorem dX7_submit_38 : decode cX7_submit 38 = .ok (.iload 5, 2) := by decide +kernel
theorem dX7_submit_40 : decode cX7_submit 40 = .ok (.ifCond .lt 9, 3) := by decide +kernel
theorem dX7_submit_43 : decode cX7_submit 43 = .ok (.iload 5, 2) := by decide +kernel
theorem dX7_submit_45 : decode cX7_submit 45 = .ok (.iconst 4, 1) := by decide +kernel
theorem dX7_submit_46 : decode cX7_submit 46 = .ok (.if_icmp .le 5, 3) := by decide +kernel
theorem dX7_submit_49 : decode cX7_submit 49 = .ok (.iconst (-1), 1) := by decide +kernel
theorem dX7_submit_50 : decode cX7_submit 50 = .ok (.ireturn, 1) := by decide +kernel
theorem dX7_submit_51 : decode cX7_submit 51 = .ok (.iload_n 2, 1) := by decide +kernel
theorem dX7_submit_52 : decode cX7_submit 52 = .ok (.iconst 2, 1) := by decide +kernel
theorem dX7_submit_53 : decode cX7_submit 53 = .ok (.if_icmp .eq 8, 3) := by decide +kernel
theorem dX7_submit_56 : decode cX7_submit 56 = .ok (.iload_n 2, 1) := by decide +kernel
theorem dX7_submit_57 : decode cX7_submit 57 = .ok (.iconst 3, 1) := by decide +kernel
theorem dX7_submit_58 : decode cX7_submit 58 = .ok (.if_icmp .ne 11, 3) := by decide +kernel
theorem dX7_submit_61 : decode cX7_submit 61 = .ok (.iload 5, 2) := by decide +kernel
theorem dX7_submit_63 : decode cX7_submit 63 = .ok (.iconst (-1), 1) := by decide +kernel
theorem dX7_submit_64 : decode cX7_submit 64 = .ok (.if_icmp .ge 5, 3) := by decide +kernel
theorem dX7_submit_67 : decode cX7_submit 67 = .ok (.iconst (-1), 1) := by decide +kernel
theorem dX7_submit_68 : decode cX7_submit 68 = .ok (.ireturn, 1) := by decide +kernel
theorem dX7_submit_69 : decode cX7_submit 69 = .ok (.iload_n 2, 1) := by decide +kernel
theorem dX7_submit_70 : decode cX7_submit 70 = .ok (.iconst 4, 1) := by decide +kernel
theorem dX7_submit_71 : decode cX7_submit 71 = .ok (.if_icmp .lt 17, 3) := by decide +kernel
theorem dX7_submit_74 : decode cX7_submit 74 = .ok (.iload 5, 2) := by decide +kernel
theorem dX7_submit_76 : decode cX7_submit 76 = .ok (.iconst 1, 1) := by decide +kernel
theorem dX7_submit_77 : decode cX7_submit 77 = .ok (.if_icmp .lt 9, 3) := by decide +kernel
theorem dX7_submit_80 : decode cX7_submit 80 = .ok (.iload 5, 2) := by decide +kernel
theorem dX7_submit_82 : decode cX7_submit 82 = .ok (.iconst 4, 1) := by decide +kernel
theorem dX7_submit_83 : decode cX7_submit 83 = .ok (.if_icmp .le 5, 3) := by decide +kernel
theorem dX7_submit_86 : decode cX7_submit 86 = .ok (.iconst (-1), 1) := by decide +kernel
theorem dX7_submit_87 : decode cX7_submit 87 = .ok (.ireturn, 1) := by decide +kernel
theorem dX7_submit_88 : decode cX7_submit 88 = .ok (.aload_n 0, 1) := by decide +kernel
theorem dX7_submit_89 : decode cX7_submit 89 = .ok (.getfield 7, 3) := by decide +kernel
theorem dX7_submit_92 : decode cX7_submit 92 = .ok (.iload_n 1, 1) := by decide +kernel
theorem dX7_submit_93 : decode cX7_submit 93 = .ok (.iaload, 1) := by decide +kernel
theorem dX7_submit_94 : decode cX7_submit 94 = .ok (.iconst 4, 1) := by decide +kernel
theorem dX7_submit_95 : decode cX7_submit 95 = .ok (.if_icmp .eq 6, 3) := by decide +kernel
theorem dX7_submit_98 : decode cX7_submit 98 = .ok (.bipush (-2), 2) := by decide +kernel
theorem dX7_submit_100 : decode cX7_submit 100 = .ok (.ireturn, 1) := by decide +kernel
theorem dX7_submit_101 : decode cX7_submit 101 = .ok (.aload_n 0, 1) := by decide +kernel
theorem dX7_submit_102 : decode cX7_submit 102 = .ok (.getfield 22, 3) := by decide +kernel
theorem dX7_submit_105 : decode cX7_submit 105 = .ok (.iload_n 1, 1) := by decide +kernel
theorem dX7_submit_106 : decode cX7_submit 106 = .ok (.iaload, 1) := by decide +kernel
theorem dX7_submit_107 : decode cX7_submit 107 = .ok (.bipush 24, 2) := by decide +kernel
theorem dX7_submit_109 : decode cX7_submit 109 = .ok (.if_icmp .ne 6, 3) := by decide +kernel
theorem dX7_submit_112 : decode cX7_submit 112 = .ok (.bipush (-3), 2) := by decide +kernel
theorem dX7_submit_114 : decode cX7_submit 114 = .ok (.ireturn, 1) := by decide +kernel
theorem dX7_submit_115 : decode cX7_submit 115 = .ok (.aload_n 0, 1) := by decide +kernel
theorem dX7_submit_116 : decode cX7_submit 116 = .ok (.iload_n 1, 1) := by decide +kernel
theorem dX7_submit_117 : decode cX7_submit 117 = .ok (.iload_n 2, 1) := by decide +kernel
theorem dX7_submit_118 : decode cX7_submit 118 = .ok (.iload_n 3, 1) := by decide +kernel
theorem dX7_submit_119 : decode cX7_submit 119 = .ok (.iload 4, 2) := by decide +kernel
theorem dX7_submit_121 : decode cX7_submit 121 = .ok (.iload 5, 2) := by decide +kernel
theorem dX7_submit_123 : decode cX7_submit 123 = .ok (.invokevirtual 175, 3) := by decide +kernel
theorem dX7_submit_126 : decode cX7_submit 126 = .ok (.aload_n 0, 1) := by decide +kernel
theorem dX7_submit_127 : decode cX7_submit 127 = .ok (.getfield 22, 3) := by decide +kernel
theorem dX7_submit_130 : decode cX7_submit 130 = .ok (.iload_n 1, 1) := by decide +kernel
theorem dX7_submit_131 : decode cX7_submit 131 = .ok (.iaload, 1) := by decide +kernel
theorem dX7_submit_132 : decode cX7_submit 132 = .ok (.ireturn, 1) := by decide +kernel
theorem dX7_tick_0 : decode cX7_tick 0 = .ok (.iconst 0, 1) := by decide +kernel
theorem dX7_tick_1 : decode cX7_tick 1 = .ok (.istore_n 1, 1) := by decide +kernel
theorem dX7_tick_2 : decode cX7_tick 2 = .ok (.iconst 0, 1) := by decide +kernel
theorem dX7_tick_3 : decode cX7_tick 3 = .ok (.istore_n 2, 1) := by decide +kernel
theorem dX7_tick_4 : decode cX7_tick 4 = .ok (.iload_n 2, 1) := by decide +kernel
theorem dX7_tick_5 : decode cX7_tick 5 = .ok (.iconst 3, 1) := by decide +kernel
theorem dX7_tick_6 : decode cX7_tick 6 = .ok (.if_icmp .ge 155, 3) := by decide +kernel
theorem dX7_tick_9 : decode cX7_tick 9 = .ok (.aload_n 0, 1) := by decide +kernel
theorem dX7_tick_10 : decode cX7_tick 10 = .ok (.getfield 7, 3) := by decide +kernel
theorem dX7_tick_13 : decode cX7_tick 13 = .ok (.iload_n 2, 1) := by decide +kernel
theorem dX7_tick_14 : decode cX7_tick 14 = .ok (.iaload, 1) := by decide +kernel
theorem dX7_tick_15 : decode cX7_tick 15 = .ok (.iconst 4, 1) := by decide +kernel
theorem dX7_tick_16 : decode cX7_tick 16 = .ok (.if_icmp .ne 139, 3) := by decide +kernel
theorem dX7_tick_19 : decode cX7_tick 19 = .ok (.aload_n 0, 1) := by decide +kernel
theorem dX7_tick_20 : decode cX7_tick 20 = .ok (.iload_n 2, 1) := by decide +kernel
theorem dX7_tick_21 : decode cX7_tick 21 = .ok (.invokevirtual 179, 3) := by decide +kernel
theorem dX7_tick_24 : decode cX7_tick 24 = .ok (.iconst 1, 1) := by decide +kernel
theorem dX7_tick_25 : decode cX7_tick 25 = .ok (.istore_n 3, 1) := by decide +kernel
theorem dX7_tick_26 : decode cX7_tick 26 = .ok (.iload_n 3, 1) := by decide +kernel
theorem dX7_tick_27 : decode cX7_tick 27 = .ok (.iconst 4, 1) := by decide +kernel
theorem dX7_tick_28 : decode cX7_tick 28 = .ok (.if_icmp .gt 66, 3) := by decide +kernel
theorem dX7_tick_31 : decode cX7_tick 31 = .ok (.aload_n 0, 1) := by decide +kernel
theorem dX7_tick_32 : decode cX7_tick 32 = .ok (.getfield 50, 3) := by decide +kernel
theorem dX7_tick_35 : decode cX7_tick 35 = .ok (.iconst 5, 1) := by decide +kernel
theorem dX7_tick_36 : decode cX7_tick 36 = .ok (.iload_n 2, 1) := by decide +kernel
theorem dX7_tick_37 : decode cX7_tick 37 = .ok (.imul, 1) := by decide +kernel
theorem dX7_tick_38 : decode cX7_tick 38 = .ok (.iload_n 3, 1) := by decide +kernel
theorem dX7_tick_39 : decode cX7_tick 39 = .ok (.iadd, 1) := by decide +kernel
theorem dX7_tick_40 : decode cX7_tick 40 = .ok (.iaload, 1) := by decide +kernel
theorem dX7_tick_41 : decode cX7_tick 41 = .ok (.iconst 3, 1) := by decide +kernel
theorem dX7_tick_42 : decode cX7_tick 42 = .ok (.if_icmp .ge 18, 3) := by decide +kernel
theorem dX7_tick_45 : decode cX7_tick 45 = .ok (.aload_n 0, 1) := by decide +kernel
theorem dX7_tick_46 : decode cX7_tick 46 = .ok (.getfield 50, 3) := by decide +kernel
theorem dX7_tick_49 : decode cX7_tick 49 = .ok (.iconst 5, 1) := by decide +kernel
theorem dX7_tick_50 : decode cX7_tick 50 = .ok (.iload_n 2, 1) := by decide +kernel
theorem dX7_tick_51 : decode cX7_tick 51 = .ok (.imul, 1) := by decide +kernel
theorem dX7_tick_52 : decode cX7_tick 52 = .ok (.iload_n 3, 1) := by decide +kernel
theorem dX7_tick_53 : decode cX7_tick 53 = .ok (.iadd, 1) := by decide +kernel
theorem dX7_tick_54 : decode cX7_tick 54 = .ok (.iaload, 1) := by decide +kernel
theorem dX7_tick_55 : decode cX7_tick 55 = .ok (.iconst 1, 1) := by decide +kernel
theorem dX7_tick_56 : decode cX7_tick 56 = .ok (.iadd, 1) := by decide +kernel
theorem dX7_tick_57 : decode cX7_tick 57 = .ok (.goto 4, 3) := by decide +kernel
theorem dX7_tick_60 : decode cX7_tick 60 = .ok (.iconst 3, 1) := by decide +kernel
theorem dX7_tick_61 : decode cX7_tick 61 = .ok (.istore 4, 2) := by decide +kernel
theorem dX7_tick_63 : decode cX7_tick 63 = .ok (.aload_n 0, 1) := by decide +kernel
theorem dX7_tick_64 : decode cX7_tick 64 = .ok (.getfield 50, 3) := by decide +kernel
theorem dX7_tick_67 : decode cX7_tick 67 = .ok (.iconst 5, 1) := by decide +kernel
theorem dX7_tick_68 : decode cX7_tick 68 = .ok (.iload_n 2, 1) := by decide +kernel
theorem dX7_tick_69 : decode cX7_tick 69 = .ok (.imul, 1) := by decide +kernel
theorem dX7_tick_70 : decode cX7_tick 70 = .ok (.iload_n 3, 1) := by decide +kernel
theorem dX7_tick_71 : decode cX7_tick 71 = .ok (.iadd, 1) := by decide +kernel
theorem dX7_tick_72 : decode cX7_tick 72 = .ok (.aload_n 0, 1) := by decide +kernel
theorem dX7_tick_73 : decode cX7_tick 73 = .ok (.getfield 101, 3) := by decide +kernel
theorem dX7_tick_76 : decode cX7_tick 76 = .ok (.iload_n 3, 1) := by decide +kernel
theorem dX7_tick_77 : decode cX7_tick 77 = .ok (.baload, 1) := by decide +kernel
theorem dX7_tick_78 : decode cX7_tick 78 = .ok (.ifCond .eq 8, 3) := by decide +kernel
theorem dX7_tick_81 : decode cX7_tick 81 = .ok (.iload 4, 2) := by decide +kernel
theorem dX7_tick_83 : decode cX7_tick 83 = .ok (.goto 4, 3) := by decide +kernel
theorem dX7_tick_86 : decode cX7_tick 86 = .ok (.iconst 0, 1) := by decide +kernel
theorem dX7_tick_87 : decode cX7_tick 87 = .ok (.iastore, 1) := by decide +kernel
theorem dX7_tick_88 : decode cX7_tick 88 = .ok (.iinc 3 1, 3) := by decide +kernel
theorem dX7_tick_91 : decode cX7_tick 91 = .ok (.goto (-65), 3) := by decide +kernel
theorem dX7_tick_94 : decode cX7_tick 94 = .ok (.iconst 1, 1) := by decide +kernel
theorem dX7_tick_95 : decode cX7_tick 95 = .ok (.istore_n 3, 1) := by decide +kernel
theorem dX7_tick_96 : decode cX7_tick 96 = .ok (.iload_n 3, 1) := by decide +kernel
theorem dX7_tick_97 : decode cX7_tick 97 = .ok (.iconst 4, 1) := by decide +kernel
theorem dX7_tick_98 : decode cX7_tick 98 = .ok (.if_icmp .gt 57, 3) := by decide +kernel
theorem dX7_tick_101 : decode cX7_tick 101 = .ok (.aload_n 0, 1) := by decide +kernel
theorem dX7_tick_102 : decode cX7_tick 102 = .ok (.getfield 50, 3) := by decide +kernel
theorem dX7_tick_105 : decode cX7_tick 105 = .ok (.iconst 5, 1) := by decide +kernel
theorem dX7_tick_106 : decode cX7_tick 106 = .ok (.iload_n 2, 1) := by decide +kernel
theorem dX7_tick_107 : decode cX7_tick 107 = .ok (.imul, 1) := by decide +kernel
theorem dX7_tick_108 : decode cX7_tick 108 = .ok (.iload_n 3, 1) := by decide +kernel
theorem dX7_tick_109 : decode cX7_tick 109 = .ok (.iadd, 1) := by decide +kernel
theorem dX7_tick_110 : decode cX7_tick 110 = .ok (.iaload, 1) := by decide +kernel
theorem dX7_tick_111 : decode cX7_tick 111 = .ok (.iconst 3, 1) := by decide +kernel
theorem dX7_tick_112 : decode cX7_tick 112 = .ok (.if_icmp .ne 37, 3) := by decide +kernel
theorem dX7_tick_115 : decode cX7_tick 115 = .ok (.aload_n 0, 1) := by decide +kernel
theorem dX7_tick_116 : decode cX7_tick 116 = .ok (.getfield 22, 3) := by decide +kernel
theorem dX7_tick_119 : decode cX7_tick 119 = .ok (.iload_n 2, 1) := by decide +kernel
theorem dX7_tick_120 : decode cX7_tick 120 = .ok (.iaload, 1) := by decide +kernel
theorem dX7_tick_121 : decode cX7_tick 121 = .ok (.bipush 24, 2) := by decide +kernel
theorem dX7_tick_123 : decode cX7_tick 123 = .ok (.if_icmp .ge 26, 3) := by decide +kernel
theorem dX7_tick_126 : decode cX7_tick 126 = .ok (.aload_n 0, 1) := by decide +kernel
theorem dX7_tick_127 : decode cX7_tick 127 = .ok (.iload_n 2, 1) := by decide +kernel
theorem dX7_tick_128 : decode cX7_tick 128 = .ok (.iconst 5, 1) := by decide +kernel
theorem dX7_tick_129 : decode cX7_tick 129 = .ok (.iconst 0, 1) := by decide +kernel
theorem dX7_tick_130 : decode cX7_tick 130 = .ok (.iconst 0, 1) := by decide +kernel
theorem dX7_tick_131 : decode cX7_tick 131 = .ok (.iload_n 3, 1) := by decide +kernel
theorem dX7_tick_132 : decode cX7_tick 132 = .ok (.invokevirtual 175, 3) := by decide +kernel
theorem dX7_tick_135 : decode cX7_tick 135 = .ok (.aload_n 0, 1) := by decide +kernel
theorem dX7_tick_136 : decode cX7_tick 136 = .ok (.getfield 50, 3) := by decide +kernel
theorem dX7_tick_139 : decode cX7_tick 139 = .ok (.iconst 5, 1) := by decide +kernel
theorem dX7_tick_140 : decode cX7_tick 140 = .ok (.iload_n 2, 1) := by decide +kernel
theorem dX7_tick_141 : decode cX7_tick 141 = .ok (.imul, 1) := by decide +kernel
theorem dX7_tick_142 : decode cX7_tick 142 = .ok (.iload_n 3, 1) := by decide +kernel
theorem dX7_tick_143 : decode cX7_tick 143 = .ok (.iadd, 1) := by decide +kernel
theorem dX7_tick_144 : decode cX7_tick 144 = .ok (.iconst 0, 1) := by decide +kernel
theorem dX7_tick_145 : decode cX7_tick 145 = .ok (.iastore, 1) := by decide +kernel
theorem dX7_tick_146 : decode cX7_tick 146 = .ok (.iinc 1 1, 3) := by decide +kernel
theorem dX7_tick_149 : decode cX7_tick 149 = .ok (.iinc 3 1, 3) := by decide +kernel
theorem dX7_tick_152 : decode cX7_tick 152 = .ok (.goto (-56), 3) := by decide +kernel
theorem dX7_tick_155 : decode cX7_tick 155 = .ok (.iinc 2 1, 3) := by decide +kernel
theorem dX7_tick_158 : decode cX7_tick 158 = .ok (.goto (-154), 3) := by decide +kernel
theorem dX7_tick_161 : decode cX7_tick 161 = .ok (.iload_n 1, 1) := by decide +kernel
theorem dX7_tick_162 : decode cX7_tick 162 = .ok (.ireturn, 1) := by decide +kernel
theorem dX7_touch_0 : decode cX7_touch 0 = .ok (.iload_n 1, 1) := by decide +kernel
theorem dX7_touch_1 : decode cX7_touch 1 = .ok (.invokestatic 138, 3) := by decide +kernel
theorem dX7_touch_4 : decode cX7_touch 4 = .ok (.ifCond .ne 13, 3) := by decide +kernel
theorem dX7_touch_7 : decode cX7_touch 7 = .ok (.iload_n 2, 1) := by decide +kernel
theorem dX7_touch_8 : decode cX7_touch 8 = .ok (.iconst 1, 1) := by decide +kernel
theorem dX7_touch_9 : decode cX7_touch 9 = .ok (.if_icmp .lt 8, 3) := by decide +kernel
theorem dX7_touch_12 : decode cX7_touch 12 = .ok (.iload_n 2, 1) := by decide +kernel
theorem dX7_touch_13 : decode cX7_touch 13 = .ok (.iconst 4, 1) := by decide +kernel
theorem dX7_touch_14 : decode cX7_touch 14 = .ok (.if_icmp .le 5, 3) := by decide +kernel
theorem dX7_touch_17 : decode cX7_touch 17 = .ok (.iconst 0, 1) := by decide +kernel
theorem dX7_touch_18 : decode cX7_touch 18 = .ok (.ireturn, 1) := by decide +kernel
theorem dX7_touch_19 : decode cX7_touch 19 = .ok (.aload_n 0, 1) := by decide +kernel
theorem dX7_touch_20 : decode cX7_touch 20 = .ok (.iload_n 1, 1) := by decide +kernel
theorem dX7_touch_21 : decode cX7_touch 21 = .ok (.invokevirtual 179, 3) := by decide +kernel
theorem dX7_touch_24 : decode cX7_touch 24 = .ok (.aload_n 0, 1) := by decide +kernel
theorem dX7_touch_25 : decode cX7_touch 25 = .ok (.getfield 7, 3) := by decide +kernel
theorem dX7_touch_28 : decode cX7_touch 28 = .ok (.iload_n 1, 1) := by decide +kernel
theorem dX7_touch_29 : decode cX7_touch 29 = .ok (.iaload, 1) := by decide +kernel
theorem dX7_touch_30 : decode cX7_touch 30 = .ok (.iconst 4, 1) := by decide +kernel
theorem dX7_touch_31 : decode cX7_touch 31 = .ok (.if_icmp .ne 12, 3) := by decide +kernel
theorem dX7_touch_34 : decode cX7_touch 34 = .ok (.aload_n 0, 1) := by decide +kernel
theorem dX7_touch_35 : decode cX7_touch 35 = .ok (.getfield 101, 3) := by decide +kernel
theorem dX7_touch_38 : decode cX7_touch 38 = .ok (.iload_n 2, 1) := by decide +kernel
theorem dX7_touch_39 : decode cX7_touch 39 = .ok (.baload, 1) := by decide +kernel
theorem dX7_touch_40 : decode cX7_touch 40 = .ok (.ifCond .ne 5, 3) := by decide +kernel
theorem dX7_touch_43 : decode cX7_touch 43 = .ok (.iconst 0, 1) := by decide +kernel
theorem dX7_touch_44 : decode cX7_touch 44 = .ok (.ireturn, 1) := by decide +kernel
theorem dX7_touch_45 : decode cX7_touch 45 = .ok (.aload_n 0, 1) := by decide +kernel
theorem dX7_touch_46 : decode cX7_touch 46 = .ok (.getfield 50, 3) := by decide +kernel
theorem dX7_touch_49 : decode cX7_touch 49 = .ok (.iconst 5, 1) := by decide +kernel
theorem dX7_touch_50 : decode cX7_touch 50 = .ok (.iload_n 1, 1) := by decide +kernel
theorem dX7_touch_51 : decode cX7_touch 51 = .ok (.imul, 1) := by decide +kernel
theorem dX7_touch_52 : decode cX7_touch 52 = .ok (.iload_n 2, 1) := by decide +kernel
theorem dX7_touch_53 : decode cX7_touch 53 = .ok (.iadd, 1) := by decide +kernel
theorem dX7_touch_54 : decode cX7_touch 54 = .ok (.iconst 0, 1) := by decide +kernel
theorem dX7_touch_55 : decode cX7_touch 55 = .ok (.iastore, 1) := by decide +kernel
theorem dX7_touch_56 : decode cX7_touch 56 = .ok (.iconst 1, 1) := by decide +kernel
theorem dX7_touch_57 : decode cX7_touch 57 = .ok (.ireturn, 1) := by decide +kernel
theorem dX7_role_0 : decode cX7_role 0 = .ok (.iload_n 1, 1) := by decide +kernel
theorem dX7_role_1 : decode cX7_role 1 = .ok (.invokestatic 138, 3) := by decide +kernel
theorem dX7_role_4 : decode cX7_role 4 = .ok (.ifCond .eq 7, 3) := by decide +kernel
theorem dX7_role_7 : decode cX7_role 7 = .ok (.iconst (-1), 1) := by decide +kernel
theorem dX7_role_8 : decode cX7_role 8 = .ok (.goto 9, 3) := by decide +kernel
theorem dX7_role_11 : decode cX7_role 11 = .ok (.aload_n 0, 1) := by decide +kernel
theorem dX7_role_12 : decode cX7_role 12 = .ok (.getfield 7, 3) := by decide +kernel
theorem dX7_role_15 : decode cX7_role 15 = .ok (.iload_n 1, 1) := by decide +kernel
theorem dX7_role_16 : decode cX7_role 16 = .ok (.iaload, 1) := by decide +kernel
theorem dX7_role_17 : decode cX7_role 17 = .ok (.ireturn, 1) := by decide +kernel
theorem dX7_promise_0 : decode cX7_promise 0 = .ok (.iload_n 1, 1) := by decide +kernel
theorem dX7_promise_1 : decode cX7_promise 1 = .ok (.invokestatic 138, 3) := by decide +kernel
theorem dX7_promise_4 : decode cX7_promise 4 = .ok (.ifCond .eq 7, 3) := by decide +kernel
theorem dX7_promise_7 : decode cX7_promise 7 = .ok (.iconst (-1), 1) := by decide +kernel
theorem dX7_promise_8 : decode cX7_promise 8 = .ok (.goto 9, 3) := by decide +kernel
theorem dX7_promise_11 : decode cX7_promise 11 = .ok (.aload_n 0, 1) := by decide +kernel
theorem dX7_promise_12 : decode cX7_promise 12 = .ok (.getfield 13, 3) := by decide +kernel
theorem dX7_promise_15 : decode cX7_promise 15 = .ok (.iload_n 1, 1) := by decide +kernel
theorem dX7_promise_16 : decode cX7_promise 16 = .ok (.iaload, 1) := by decide +kernel
theorem dX7_promise_17 : decode cX7_promise 17 = .ok (.ireturn, 1) := by decide +kernel
theorem dX7_epoch_0 : decode cX7_epoch 0 = .ok (.iload_n 1, 1) := by decide +kernel
theorem dX7_epoch_1 : decode cX7_epoch 1 = .ok (.invokestatic 138, 3) := by decide +kernel
theorem dX7_epoch_4 : decode cX7_epoch 4 = .ok (.ifCond .eq 7, 3) := by decide +kernel
theorem dX7_epoch_7 : decode cX7_epoch 7 = .ok (.iconst (-1), 1) := by decide +kernel
theorem dX7_epoch_8 : decode cX7_epoch 8 = .ok (.goto 9, 3) := by decide +kernel
theorem dX7_epoch_11 : decode cX7_epoch 11 = .ok (.aload_n 0, 1) := by decide +kernel
theorem dX7_epoch_12 : decode cX7_epoch 12 = .ok (.getfield 16, 3) := by decide +kernel
theorem dX7_epoch_15 : decode cX7_epoch 15 = .ok (.iload_n 1, 1) := by decide +kernel
theorem dX7_epoch_16 : decode cX7_epoch 16 = .ok (.iaload, 1) := by decide +kernel
theorem dX7_epoch_17 : decode cX7_epoch 17 = .ok (.ireturn, 1) := by decide +kernel
theorem dX7_length_0 : decode cX7_length 0 = .ok (.iload_n 1, 1) := by decide +kernel
theorem dX7_length_1 : decode cX7_length 1 = .ok (.invokestatic 138, 3) := by decide +kernel
theorem dX7_length_4 : decode cX7_length 4 = .ok (.ifCond .eq 7, 3) := by decide +kernel
theorem dX7_length_7 : decode cX7_length 7 = .ok (.iconst (-1), 1) := by decide +kernel
theorem dX7_length_8 : decode cX7_length 8 = .ok (.goto 9, 3) := by decide +kernel
theorem dX7_length_11 : decode cX7_length 11 = .ok (.aload_n 0, 1) := by decide +kernel
theorem dX7_length_12 : decode cX7_length 12 = .ok (.getfield 22, 3) := by decide +kernel
theorem dX7_length_15 : decode cX7_length 15 = .ok (.iload_n 1, 1) := by decide +kernel
theorem dX7_length_16 : decode cX7_length 16 = .ok (.iaload, 1) := by decide +kernel
theorem dX7_length_17 : decode cX7_length 17 = .ok (.ireturn, 1) := by decide +kernel
theorem dX7_mark_0 : decode cX7_mark 0 = .ok (.iload_n 1, 1) := by decide +kernel
theorem dX7_mark_1 : decode cX7_mark 1 = .ok (.invokestatic 138, 3) := by decide +kernel
theorem dX7_mark_4 : decode cX7_mark 4 = .ok (.ifCond .eq 5, 3) := by decide +kernel
theorem dX7_mark_7 : decode cX7_mark 7 = .ok (.iconst 0, 1) := by decide +kernel
theorem dX7_mark_8 : decode cX7_mark 8 = .ok (.ireturn, 1) := by decide +kernel
theorem dX7_mark_9 : decode cX7_mark 9 = .ok (.iload_n 2, 1) := by decide +kernel
theorem dX7_mark_10 : decode cX7_mark 10 = .ok (.iconst 1, 1) := by decide +kernel
theorem dX7_mark_11 : decode cX7_mark 11 = .ok (.if_icmp .lt 13, 3) := by decide +kernel
theorem dX7_mark_14 : decode cX7_mark 14 = .ok (.iload_n 2, 1) := by decide +kernel
theorem dX7_mark_15 : decode cX7_mark 15 = .ok (.aload_n 0, 1) := by decide +kernel
theorem dX7_mark_16 : decode cX7_mark 16 = .ok (.getfield 22, 3) := by decide +kernel
theorem dX7_mark_19 : decode cX7_mark 19 = .ok (.iload_n 1, 1) := by decide +kernel
theorem dX7_mark_20 : decode cX7_mark 20 = .ok (.iaload, 1) := by decide +kernel
theorem dX7_mark_21 : decode cX7_mark 21 = .ok (.if_icmp .le 7, 3) := by decide +kernel
theorem dX7_mark_24 : decode cX7_mark 24 = .ok (.iconst 0, 1) := by decide +kernel
theorem dX7_mark_25 : decode cX7_mark 25 = .ok (.goto 16, 3) := by decide +kernel
theorem dX7_mark_28 : decode cX7_mark 28 = .ok (.aload_n 0, 1) := by decide +kernel
theorem dX7_mark_29 : decode cX7_mark 29 = .ok (.getfield 25, 3) := by decide +kernel
theorem dX7_mark_32 : decode cX7_mark 32 = .ok (.bipush 24, 2) := by decide +kernel
theorem dX7_mark_34 : decode cX7_mark 34 = .ok (.iload_n 1, 1) := by decide +kernel
theorem dX7_mark_35 : decode cX7_mark 35 = .ok (.imul, 1) := by decide +kernel
theorem dX7_mark_36 : decode cX7_mark 36 = .ok (.iload_n 2, 1) := by decide +kernel
theorem dX7_mark_37 : decode cX7_mark 37 = .ok (.iadd, 1) := by decide +kernel
theorem dX7_mark_38 : decode cX7_mark 38 = .ok (.iconst 1, 1) := by decide +kernel
theorem dX7_mark_39 : decode cX7_mark 39 = .ok (.isub, 1) := by decide +kernel
theorem dX7_mark_40 : decode cX7_mark 40 = .ok (.iaload, 1) := by decide +kernel
theorem dX7_mark_41 : decode cX7_mark 41 = .ok (.ireturn, 1) := by decide +kernel
theorem dX7_applied_0 : decode cX7_applied 0 = .ok (.iload_n 1, 1) := by decide +kernel
theorem dX7_applied_1 : decode cX7_applied 1 = .ok (.invokestatic 138, 3) := by decide +kernel
theorem dX7_applied_4 : decode cX7_applied 4 = .ok (.ifCond .eq 7, 3) := by decide +kernel
theorem dX7_applied_7 : decode cX7_applied 7 = .ok (.iconst (-1), 1) := by decide +kernel
theorem dX7_applied_8 : decode cX7_applied 8 = .ok (.goto 9, 3) := by decide +kernel
theorem dX7_applied_11 : decode cX7_applied 11 = .ok (.aload_n 0, 1) := by decide +kernel
theorem dX7_applied_12 : decode cX7_applied 12 = .ok (.getfield 19, 3) := by decide +kernel
theorem dX7_applied_15 : decode cX7_applied 15 = .ok (.iload_n 1, 1) := by decide +kernel
theorem dX7_applied_16 : decode cX7_applied 16 = .ok (.iaload, 1) := by decide +kernel
theorem dX7_applied_17 : decode cX7_applied 17 = .ok (.ireturn, 1) := by decide +kernel
theorem dX7_result_0 : decode cX7_result 0 = .ok (.iload_n 1, 1) := by decide +kernel
theorem dX7_result_1 : decode cX7_result 1 = .ok (.invokestatic 138, 3) := by decide +kernel
theorem dX7_result_4 : decode cX7_result 4 = .ok (.ifCond .eq 5, 3) := by decide +kernel
theorem dX7_result_7 : decode cX7_result 7 = .ok (.iconst (-1), 1) := by decide +kernel
theorem dX7_result_8 : decode cX7_result 8 = .ok (.ireturn, 1) := by decide +kernel
theorem dX7_result_9 : decode cX7_result 9 = .ok (.iload_n 2, 1) := by decide +kernel
theorem dX7_result_10 : decode cX7_result 10 = .ok (.iconst 1, 1) := by decide +kernel
theorem dX7_result_11 : decode cX7_result 11 = .ok (.if_icmp .lt 13, 3) := by decide +kernel
theorem dX7_result_14 : decode cX7_result 14 = .ok (.iload_n 2, 1) := by decide +kernel
theorem dX7_result_15 : decode cX7_result 15 = .ok (.aload_n 0, 1) := by decide +kernel
theorem dX7_result_16 : decode cX7_result 16 = .ok (.getfield 19, 3) := by decide +kernel
theorem dX7_result_19 : decode cX7_result 19 = .ok (.iload_n 1, 1) := by decide +kernel
theorem dX7_result_20 : decode cX7_result 20 = .ok (.iaload, 1) := by decide +kernel
theorem dX7_result_21 : decode cX7_result 21 = .ok (.if_icmp .le 5, 3) := by decide +kernel
theorem dX7_result_24 : decode cX7_result 24 = .ok (.iconst (-1), 1) := by decide +kernel
theorem dX7_result_25 : decode cX7_result 25 = .ok (.ireturn, 1) := by decide +kernel
theorem dX7_result_26 : decode cX7_result 26 = .ok (.aload_n 0, 1) := by decide +kernel
theorem dX7_result_27 : decode cX7_result 27 = .ok (.iload_n 1, 1) := by decide +kernel
theorem dX7_result_28 : decode cX7_result 28 = .ok (.invokevirtual 179, 3) := by decide +kernel
theorem dX7_result_31 : decode cX7_result 31 = .ok (.aload_n 0, 1) := by decide +kernel
theorem dX7_result_32 : decode cX7_result 32 = .ok (.getfield 104, 3) := by decide +kernel
theorem dX7_result_35 : decode cX7_result 35 = .ok (.iload_n 2, 1) := by decide +kernel
theorem dX7_result_36 : decode cX7_result 36 = .ok (.iconst 1, 1) := by decide +kernel
theorem dX7_result_37 : decode cX7_result 37 = .ok (.isub, 1) := by decide +kernel
theorem dX7_result_38 : decode cX7_result 38 = .ok (.iaload, 1) := by decide +kernel
theorem dX7_result_39 : decode cX7_result 39 = .ok (.ireturn, 1) := by decide +kernel
theorem dX7_node_0 : decode cX7_node 0 = .ok (.iload_n 1, 1) := by decide +kernel
theorem dX7_node_1 : decode cX7_node 1 = .ok (.invokestatic 138, 3) := by decide +kernel
theorem dX7_node_4 : decode cX7_node 4 = .ok (.ifCond .ne 23, 3) := by decide +kernel
theorem dX7_node_7 : decode cX7_node 7 = .ok (.iload_n 2, 1) := by decide +kernel
theorem dX7_node_8 : decode cX7_node 8 = .ok (.ifCond .lt 19, 3) := by decide +kernel
theorem dX7_node_11 : decode cX7_node 11 = .ok (.iload_n 2, 1) := by decide +kernel
theorem dX7_node_12 : decode cX7_node 12 = .ok (.sipush 511, 3) := by decide +kernel
theorem dX7_node_15 : decode cX7_node 15 = .ok (.if_icmp .gt 12, 3) := by decide +kernel
theorem dX7_node_18 : decode cX7_node 18 = .ok (.iload_n 3, 1) := by decide +kernel
theorem dX7_node_19 : decode cX7_node 19 = .ok (.ifCond .lt 8, 3) := by decide +kernel
theorem dX7_node_22 : decode cX7_node 22 = .ok (.iload_n 3, 1) := by decide +kernel
theorem dX7_node_23 : decode cX7_node 23 = .ok (.iconst 4, 1) := by decide +kernel
theorem dX7_node_24 : decode cX7_node 24 = .ok (.if_icmp .le 5, 3) := by decide +kernel
theorem dX7_node_27 : decode cX7_node 27 = .ok (.iconst 0, 1) := by decide +kernel
theorem dX7_node_28 : decode cX7_node 28 = .ok (.ireturn, 1) := by decide +kernel
theorem dX7_node_29 : decode cX7_node 29 = .ok (.aload_n 0, 1) := by decide +kernel
theorem dX7_node_30 : decode cX7_node 30 = .ok (.iload_n 1, 1) := by decide +kernel
theorem dX7_node_31 : decode cX7_node 31 = .ok (.invokevirtual 179, 3) := by decide +kernel
theorem dX7_node_34 : decode cX7_node 34 = .ok (.aload_n 0, 1) := by decide +kernel
theorem dX7_node_35 : decode cX7_node 35 = .ok (.iload_n 2, 1) := by decide +kernel
theorem dX7_node_36 : decode cX7_node 36 = .ok (.invokevirtual 111, 3) := by decide +kernel
theorem dX7_node_39 : decode cX7_node 39 = .ok (.istore 4, 2) := by decide +kernel
theorem dX7_node_41 : decode cX7_node 41 = .ok (.iload_n 2, 1) := by decide +kernel
theorem dX7_node_42 : decode cX7_node 42 = .ok (.ifCond .eq 10, 3) := by decide +kernel
theorem dX7_node_45 : decode cX7_node 45 = .ok (.iload 4, 2) := by decide +kernel
theorem dX7_node_47 : decode cX7_node 47 = .ok (.ifCond .ge 5, 3) := by decide +kernel
theorem dX7_node_50 : decode cX7_node 50 = .ok (.iconst 0, 1) := by decide +kernel
theorem dX7_node_51 : decode cX7_node 51 = .ok (.ireturn, 1) := by decide +kernel
theorem dX7_node_52 : decode cX7_node 52 = .ok (.iload_n 3, 1) := by decide +kernel
theorem dX7_node_53 : decode cX7_node 53 = .ok (.ifCond .ne 5, 3) := by decide +kernel
theorem dX7_node_56 : decode cX7_node 56 = .ok (.iconst 1, 1) := by decide +kernel
theorem dX7_node_57 : decode cX7_node 57 = .ok (.ireturn, 1) := by decide +kernel
theorem dX7_node_58 : decode cX7_node 58 = .ok (.iload_n 3, 1) := by decide +kernel
theorem dX7_node_59 : decode cX7_node 59 = .ok (.iconst 3, 1) := by decide +kernel
theorem dX7_node_60 : decode cX7_node 60 = .ok (.if_icmp .ne 9, 3) := by decide +kernel
theorem dX7_node_63 : decode cX7_node 63 = .ok (.aload_n 0, 1) := by decide +kernel
theorem dX7_node_64 : decode cX7_node 64 = .ok (.iload_n 2, 1) := by decide +kernel
theorem dX7_node_65 : decode cX7_node 65 = .ok (.invokevirtual 115, 3) := by decide +kernel
theorem dX7_node_68 : decode cX7_node 68 = .ok (.ireturn, 1) := by decide +kernel
theorem dX7_node_69 : decode cX7_node 69 = .ok (.iload_n 2, 1) := by decide +kernel
theorem dX7_node_70 : decode cX7_node 70 = .ok (.ifCond .ne 5, 3) := by decide +kernel
theorem dX7_node_73 : decode cX7_node 73 = .ok (.iconst 0, 1) := by decide +kernel
theorem dX7_node_74 : decode cX7_node 74 = .ok (.ireturn, 1) := by decide +kernel
theorem dX7_node_75 : decode cX7_node 75 = .ok (.iload_n 3, 1) := by decide +kernel
theorem dX7_node_76 : decode cX7_node 76 = .ok (.iconst 1, 1) := by decide +kernel
theorem dX7_node_77 : decode cX7_node 77 = .ok (.if_icmp .ne 13, 3) := by decide +kernel
theorem dX7_node_80 : decode cX7_node 80 = .ok (.aload_n 0, 1) := by decide +kernel
theorem dX7_node_81 : decode cX7_node 81 = .ok (.getfield 92, 3) := by decide +kernel
theorem dX7_node_84 : decode cX7_node 84 = .ok (.iload 4, 2) := by decide +kernel
theorem dX7_node_86 : decode cX7_node 86 = .ok (.iaload, 1) := by decide +kernel
theorem dX7_node_87 : decode cX7_node 87 = .ok (.goto 25, 3) := by decide +kernel
theorem dX7_node_90 : decode cX7_node 90 = .ok (.iload_n 3, 1) := by decide +kernel
theorem dX7_node_91 : decode cX7_node 91 = .ok (.iconst 2, 1) := by decide +kernel
theorem dX7_node_92 : decode cX7_node 92 = .ok (.if_icmp .ne 13, 3) := by decide +kernel
theorem dX7_node_95 : decode cX7_node 95 = .ok (.aload_n 0, 1) := by decide +kernel
theorem dX7_node_96 : decode cX7_node 96 = .ok (.getfield 95, 3) := by decide +kernel
theorem dX7_node_99 : decode cX7_node 99 = .ok (.iload 4, 2) := by decide +kernel
theorem dX7_node_101 : decode cX7_node 101 = .ok (.iaload, 1) := by decide +kernel
theorem dX7_node_102 : decode cX7_node 102 = .ok (.goto 10, 3) := by decide +kernel
theorem dX7_node_105 : decode cX7_node 105 = .ok (.aload_n 0, 1) := by decide +kernel
theorem dX7_node_106 : decode cX7_node 106 = .ok (.getfield 98, 3) := by decide +kernel
theorem dX7_node_109 : decode cX7_node 109 = .ok (.iload 4, 2) := by decide +kernel
theorem dX7_node_111 : decode cX7_node 111 = .ok (.iaload, 1) := by decide +kernel
theorem dX7_node_112 : decode cX7_node 112 = .ok (.ireturn, 1) := by decide +kernel
theorem dX7_tree_0 : decode cX7_tree 0 = .ok (.iload_n 1, 1) := by decide +kernel
theorem dX7_tree_1 : decode cX7_tree 1 = .ok (.invokestatic 138, 3) := by decide +kernel
theorem dX7_tree_4 : decode cX7_tree 4 = .ok (.ifCond .eq 5, 3) := by decide +kernel
theorem dX7_tree_7 : decode cX7_tree 7 = .ok (.iconst (-1), 1) := by decide +kernel
theorem dX7_tree_8 : decode cX7_tree 8 = .ok (.ireturn, 1) := by decide +kernel
theorem dX7_tree_9 : decode cX7_tree 9 = .ok (.aload_n 0, 1) := by decide +kernel
theorem dX7_tree_10 : decode cX7_tree 10 = .ok (.iload_n 1, 1) := by decide +kernel
theorem dX7_tree_11 : decode cX7_tree 11 = .ok (.invokevirtual 179, 3) := by decide +kernel
theorem dX7_tree_14 : decode cX7_tree 14 = .ok (.iconst 0, 1) := by decide +kernel
theorem dX7_tree_15 : decode cX7_tree 15 = .ok (.istore_n 2, 1) := by decide +kernel
theorem dX7_tree_16 : decode cX7_tree 16 = .ok (.iconst 0, 1) := by decide +kernel
theorem dX7_tree_17 : decode cX7_tree 17 = .ok (.istore_n 3, 1) := by decide +kernel
theorem dX7_tree_18 : decode cX7_tree 18 = .ok (.iload_n 3, 1) := by decide +kernel
theorem dX7_tree_19 : decode cX7_tree 19 = .ok (.aload_n 0, 1) := by decide +kernel
theorem dX7_tree_20 : decode cX7_tree 20 = .ok (.getfield 107, 3) := by decide +kernel
theorem dX7_tree_23 : decode cX7_tree 23 = .ok (.if_icmp .ge 26, 3) := by decide +kernel
theorem dX7_tree_26 : decode cX7_tree 26 = .ok (.aload_n 0, 1) := by decide +kernel
theorem dX7_tree_27 : decode cX7_tree 27 = .ok (.getfield 89, 3) := by decide +kernel
theorem dX7_tree_30 : decode cX7_tree 30 = .ok (.iload_n 3, 1) := by decide +kernel
theorem dX7_tree_31 : decode cX7_tree 31 = .ok (.iaload, 1) := by decide +kernel
theorem dX7_tree_32 : decode cX7_tree 32 = .ok (.ifCond .le 9, 3) := by decide +kernel
theorem dX7_tree_35 : decode cX7_tree 35 = .ok (.iload_n 2, 1) := by decide +kernel
theorem dX7_tree_36 : decode cX7_tree 36 = .ok (.iconst 1, 1) := by decide +kernel
theorem dX7_tree_37 : decode cX7_tree 37 = .ok (.iadd, 1) := by decide +kernel
theorem dX7_tree_38 : decode cX7_tree 38 = .ok (.goto 4, 3) := by decide +kernel
theorem dX7_tree_41 : decode cX7_tree 41 = .ok (.iload_n 2, 1) := by decide +kernel
theorem dX7_tree_42 : decode cX7_tree 42 = .ok (.istore_n 2, 1) := by decide +kernel
theorem dX7_tree_43 : decode cX7_tree 43 = .ok (.iinc 3 1, 3) := by decide +kernel
theorem dX7_tree_46 : decode cX7_tree 46 = .ok (.goto (-28), 3) := by decide +kernel
theorem dX7_tree_49 : decode cX7_tree 49 = .ok (.iconst 1, 1) := by decide +kernel
theorem dX7_tree_50 : decode cX7_tree 50 = .ok (.istore_n 3, 1) := by decide +kernel
theorem dX7_tree_51 : decode cX7_tree 51 = .ok (.iload_n 3, 1) := by decide +kernel
theorem dX7_tree_52 : decode cX7_tree 52 = .ok (.iconst 4, 1) := by decide +kernel
theorem dX7_tree_53 : decode cX7_tree 53 = .ok (.if_icmp .gt 29, 3) := by decide +kernel
theorem dX7_tree_56 : decode cX7_tree 56 = .ok (.aload_n 0, 1) := by decide +kernel
theorem dX7_tree_57 : decode cX7_tree 57 = .ok (.getfield 101, 3) := by decide +kernel
theorem dX7_tree_60 : decode cX7_tree 60 = .ok (.iload_n 3, 1) := by decide +kernel
theorem dX7_tree_61 : decode cX7_tree 61 = .ok (.baload, 1) := by decide +kernel
theorem dX7_tree_62 : decode cX7_tree 62 = .ok (.ifCond .eq 12, 3) := by decide +kernel
theorem dX7_tree_65 : decode cX7_tree 65 = .ok (.iload_n 2, 1) := by decide +kernel
theorem dX7_tree_66 : decode cX7_tree 66 = .ok (.bipush 64, 2) := by decide +kernel
theorem dX7_tree_68 : decode cX7_tree 68 = .ok (.iload_n 3, 1) := by decide +kernel
theorem dX7_tree_69 : decode cX7_tree 69 = .ok (.ishl, 1) := by decide +kernel
theorem dX7_tree_70 : decode cX7_tree 70 = .ok (.iadd, 1) := by decide +kernel
theorem dX7_tree_71 : decode cX7_tree 71 = .ok (.goto 4, 3) := by decide +kernel
theorem dX7_tree_74 : decode cX7_tree 74 = .ok (.iload_n 2, 1) := by decide +kernel
theorem dX7_tree_75 : decode cX7_tree 75 = .ok (.istore_n 2, 1) := by decide +kernel
theorem dX7_tree_76 : decode cX7_tree 76 = .ok (.iinc 3 1, 3) := by decide +kernel
theorem dX7_tree_79 : decode cX7_tree 79 = .ok (.goto (-28), 3) := by decide +kernel
theorem dX7_tree_82 : decode cX7_tree 82 = .ok (.iload_n 2, 1) := by decide +kernel
theorem dX7_tree_83 : decode cX7_tree 83 = .ok (.ireturn, 1) := by decide +kernel
theorem dX7_waiting_0 : decode cX7_waiting 0 = .ok (.iload_n 1, 1) := by decide +kernel
theorem dX7_waiting_1 : decode cX7_waiting 1 = .ok (.invokestatic 138, 3) := by decide +kernel
theorem dX7_waiting_4 : decode cX7_waiting 4 = .ok (.ifCond .eq 5, 3) := by decide +kernel
theorem dX7_waiting_7 : decode cX7_waiting 7 = .ok (.iconst 0, 1) := by decide +kernel
theorem dX7_waiting_8 : decode cX7_waiting 8 = .ok (.ireturn, 1) := by decide +kernel
theorem dX7_waiting_9 : decode cX7_waiting 9 = .ok (.aload_n 0, 1) := by decide +kernel
theorem dX7_waiting_10 : decode cX7_waiting 10 = .ok (.getfield 7, 3) := by decide +kernel
theorem dX7_waiting_13 : decode cX7_waiting 13 = .ok (.iload_n 1, 1) := by decide +kernel
theorem dX7_waiting_14 : decode cX7_waiting 14 = .ok (.iaload, 1) := by decide +kernel
theorem dX7_waiting_15 : decode cX7_waiting 15 = .ok (.iconst 2, 1) := by decide +kernel
theorem dX7_waiting_16 : decode cX7_waiting 16 = .ok (.if_icmp .eq 5, 3) := by decide +kernel
theorem dX7_waiting_19 : decode cX7_waiting 19 = .ok (.iconst 0, 1) := by decide +kernel
theorem dX7_waiting_20 : decode cX7_waiting 20 = .ok (.ireturn, 1) := by decide +kernel
theorem dX7_waiting_21 : decode cX7_waiting 21 = .ok (.iload_n 2, 1) := by decide +kernel
theorem dX7_waiting_22 : decode cX7_waiting 22 = .ok (.ifCond .eq 19, 3) := by decide +kernel
theorem dX7_waiting_25 : decode cX7_waiting 25 = .ok (.aload_n 0, 1) := by decide +kernel
theorem dX7_waiting_26 : decode cX7_waiting 26 = .ok (.getfield 71, 3) := by decide +kernel
theorem dX7_waiting_29 : decode cX7_waiting 29 = .ok (.iload_n 1, 1) := by decide +kernel
theorem dX7_waiting_30 : decode cX7_waiting 30 = .ok (.iaload, 1) := by decide +kernel
theorem dX7_waiting_31 : decode cX7_waiting 31 = .ok (.aload_n 0, 1) := by decide +kernel
theorem dX7_waiting_32 : decode cX7_waiting 32 = .ok (.getfield 74, 3) := by decide +kernel
theorem dX7_waiting_35 : decode cX7_waiting 35 = .ok (.iload_n 1, 1) := by decide +kernel
theorem dX7_waiting_36 : decode cX7_waiting 36 = .ok (.iaload, 1) := by decide +kernel
theorem dX7_waiting_37 : decode cX7_waiting 37 = .ok (.isub, 1) := by decide +kernel
theorem dX7_waiting_38 : decode cX7_waiting 38 = .ok (.goto 16, 3) := by decide +kernel
theorem dX7_waiting_41 : decode cX7_waiting 41 = .ok (.aload_n 0, 1) := by decide +kernel
theorem dX7_waiting_42 : decode cX7_waiting 42 = .ok (.getfield 83, 3) := by decide +kernel
theorem dX7_waiting_45 : decode cX7_waiting 45 = .ok (.iload_n 1, 1) := by decide +kernel
theorem dX7_waiting_46 : decode cX7_waiting 46 = .ok (.iaload, 1) := by decide +kernel
theorem dX7_waiting_47 : decode cX7_waiting 47 = .ok (.aload_n 0, 1) := by decide +kernel
theorem dX7_waiting_48 : decode cX7_waiting 48 = .ok (.getfield 86, 3) := by decide +kernel
theorem dX7_waiting_51 : decode cX7_waiting 51 = .ok (.iload_n 1, 1) := by decide +kernel
theorem dX7_waiting_52 : decode cX7_waiting 52 = .ok (.iaload, 1) := by decide +kernel
theorem dX7_waiting_53 : decode cX7_waiting 53 = .ok (.isub, 1) := by decide +kernel
theorem dX7_waiting_54 : decode cX7_waiting 54 = .ok (.ireturn, 1) := by decide +kernel
