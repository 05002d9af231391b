theorem dX6_init_0 : decode cX6_init 0 = .ok (.aload_n 0, 1) := by decide +kernel
theorem dX6_init_1 : decode cX6_init 1 = .ok (.invokespecial 1, 3) := by decide +kernel
theorem dX6_init_4 : decode cX6_init 4 = .ok (.aload_n 0, 1) := by decide +kernel
theorem dX6_init_5 : decode cX6_init 5 = .ok (.bipush 120, 2) := by decide +kernel
theorem dX6_init_7 : decode cX6_init 7 = .ok (.newarray .long, 2) := by decide +kernel
theorem dX6_init_9 : decode cX6_init 9 = .ok (.putfield 7, 3) := by decide +kernel
theorem dX6_init_12 : decode cX6_init 12 = .ok (.aload_n 0, 1) := by decide +kernel
theorem dX6_init_13 : decode cX6_init 13 = .ok (.bipush 6, 2) := by decide +kernel
theorem dX6_init_15 : decode cX6_init 15 = .ok (.newarray .long, 2) := by decide +kernel
theorem dX6_init_17 : decode cX6_init 17 = .ok (.putfield 13, 3) := by decide +kernel
theorem dX6_init_20 : decode cX6_init 20 = .ok (.aload_n 0, 1) := by decide +kernel
theorem dX6_init_21 : decode cX6_init 21 = .ok (.bipush 6, 2) := by decide +kernel
theorem dX6_init_23 : decode cX6_init 23 = .ok (.newarray .long, 2) := by decide +kernel
theorem dX6_init_25 : decode cX6_init 25 = .ok (.putfield 16, 3) := by decide +kernel
theorem dX6_init_28 : decode cX6_init 28 = .ok (.aload_n 0, 1) := by decide +kernel
theorem dX6_init_29 : decode cX6_init 29 = .ok (.bipush 30, 2) := by decide +kernel
theorem dX6_init_31 : decode cX6_init 31 = .ok (.newarray .int, 2) := by decide +kernel
theorem dX6_init_33 : decode cX6_init 33 = .ok (.putfield 19, 3) := by decide +kernel
theorem dX6_init_36 : decode cX6_init 36 = .ok (.aload_n 0, 1) := by decide +kernel
theorem dX6_init_37 : decode cX6_init 37 = .ok (.bipush 30, 2) := by decide +kernel
theorem dX6_init_39 : decode cX6_init 39 = .ok (.newarray .int, 2) := by decide +kernel
theorem dX6_init_41 : decode cX6_init 41 = .ok (.putfield 23, 3) := by decide +kernel
theorem dX6_init_44 : decode cX6_init 44 = .ok (.aload_n 0, 1) := by decide +kernel
theorem dX6_init_45 : decode cX6_init 45 = .ok (.bipush 30, 2) := by decide +kernel
theorem dX6_init_47 : decode cX6_init 47 = .ok (.newarray .int, 2) := by decide +kernel
theorem dX6_init_49 : decode cX6_init 49 = .ok (.putfield 26, 3) := by decide +kernel
theorem dX6_init_52 : decode cX6_init 52 = .ok (.aload_n 0, 1) := by decide +kernel
theorem dX6_init_53 : decode cX6_init 53 = .ok (.bipush 30, 2) := by decide +kernel
theorem dX6_init_55 : decode cX6_init 55 = .ok (.newarray .int, 2) := by decide +kernel
theorem dX6_init_57 : decode cX6_init 57 = .ok (.putfield 29, 3) := by decide +kernel
theorem dX6_init_60 : decode cX6_init 60 = .ok (.aload_n 0, 1) := by decide +kernel
theorem dX6_init_61 : decode cX6_init 61 = .ok (.bipush 30, 2) := by decide +kernel
theorem dX6_init_63 : decode cX6_init 63 = .ok (.newarray .int, 2) := by decide +kernel
theorem dX6_init_65 : decode cX6_init 65 = .ok (.putfield 32, 3) := by decide +kernel
theorem dX6_init_68 : decode cX6_init 68 = .ok (.aload_n 0, 1) := by decide +kernel
theorem dX6_init_69 : decode cX6_init 69 = .ok (.sipush 600, 3) := by decide +kernel
theorem dX6_init_72 : decode cX6_init 72 = .ok (.newarray .int, 2) := by decide +kernel
theorem dX6_init_74 : decode cX6_init 74 = .ok (.putfield 35, 3) := by decide +kernel
theorem dX6_init_77 : decode cX6_init 77 = .ok (.aload_n 0, 1) := by decide +kernel
theorem dX6_init_78 : decode cX6_init 78 = .ok (.sipush 600, 3) := by decide +kernel
theorem dX6_init_81 : decode cX6_init 81 = .ok (.newarray .int, 2) := by decide +kernel
theorem dX6_init_83 : decode cX6_init 83 = .ok (.putfield 38, 3) := by decide +kernel
theorem dX6_init_86 : decode cX6_init 86 = .ok (.aload_n 0, 1) := by decide +kernel
theorem dX6_init_87 : decode cX6_init 87 = .ok (.sipush 600, 3) := by decide +kernel
theorem dX6_init_90 : decode cX6_init 90 = .ok (.newarray .int, 2) := by decide +kernel
theorem dX6_init_92 : decode cX6_init 92 = .ok (.putfield 41, 3) := by decide +kernel
theorem dX6_init_95 : decode cX6_init 95 = .ok (.aload_n 0, 1) := by decide +kernel
theorem dX6_init_96 : decode cX6_init 96 = .ok (.sipush 600, 3) := by decide +kernel
theorem dX6_init_99 : decode cX6_init 99 = .ok (.newarray .int, 2) := by decide +kernel
theorem dX6_init_101 : decode cX6_init 101 = .ok (.putfield 44, 3) := by decide +kernel
theorem dX6_init_104 : decode cX6_init 104 = .ok (.aload_n 0, 1) := by decide +kernel
theorem dX6_init_105 : decode cX6_init 105 = .ok (.sipush 600, 3) := by decide +kernel
theorem dX6_init_108 : decode cX6_init 108 = .ok (.newarray .int, 2) := by decide +kernel
theorem dX6_init_110 : decode cX6_init 110 = .ok (.putfield 47, 3) := by decide +kernel
theorem dX6_init_113 : decode cX6_init 113 = .ok (.aload_n 0, 1) := by decide +kernel
theorem dX6_init_114 : decode cX6_init 114 = .ok (.bipush 6, 2) := by decide +kernel
theorem dX6_init_116 : decode cX6_init 116 = .ok (.newarray .int, 2) := by decide +kernel
theorem dX6_init_118 : decode cX6_init 118 = .ok (.putfield 50, 3) := by decide +kernel
theorem dX6_init_121 : decode cX6_init 121 = .ok (.aload_n 0, 1) := by decide +kernel
theorem dX6_init_122 : decode cX6_init 122 = .ok (.bipush 6, 2) := by decide +kernel
theorem dX6_init_124 : decode cX6_init 124 = .ok (.newarray .int, 2) := by decide +kernel
theorem dX6_init_126 : decode cX6_init 126 = .ok (.putfield 53, 3) := by decide +kernel
theorem dX6_init_129 : decode cX6_init 129 = .ok (.aload_n 0, 1) := by decide +kernel
theorem dX6_init_130 : decode cX6_init 130 = .ok (.bipush 6, 2) := by decide +kernel
theorem dX6_init_132 : decode cX6_init 132 = .ok (.newarray .int, 2) := by decide +kernel
theorem dX6_init_134 : decode cX6_init 134 = .ok (.putfield 56, 3) := by decide +kernel
theorem dX6_init_137 : decode cX6_init 137 = .ok (.aload_n 0, 1) := by decide +kernel
theorem dX6_init_138 : decode cX6_init 138 = .ok (.iconst 4, 1) := by decide +kernel
theorem dX6_init_139 : decode cX6_init 139 = .ok (.newarray .int, 2) := by decide +kernel
theorem dX6_init_141 : decode cX6_init 141 = .ok (.putfield 59, 3) := by decide +kernel
theorem dX6_init_144 : decode cX6_init 144 = .ok (.aload_n 0, 1) := by decide +kernel
theorem dX6_init_145 : decode cX6_init 145 = .ok (.iconst 4, 1) := by decide +kernel
theorem dX6_init_146 : decode cX6_init 146 = .ok (.newarray .int, 2) := by decide +kernel
theorem dX6_init_148 : decode cX6_init 148 = .ok (.putfield 62, 3) := by decide +kernel
theorem dX6_init_151 : decode cX6_init 151 = .ok (.aload_n 0, 1) := by decide +kernel
theorem dX6_init_152 : decode cX6_init 152 = .ok (.sipush 150, 3) := by decide +kernel
theorem dX6_init_155 : decode cX6_init 155 = .ok (.newarray .int, 2) := by decide +kernel
theorem dX6_init_157 : decode cX6_init 157 = .ok (.putfield 65, 3) := by decide +kernel
theorem dX6_init_160 : decode cX6_init 160 = .ok (.aload_n 0, 1) := by decide +kernel
theorem dX6_init_161 : decode cX6_init 161 = .ok (.sipush 150, 3) := by decide +kernel
theorem dX6_init_164 : decode cX6_init 164 = .ok (.newarray .int, 2) := by decide +kernel
theorem dX6_init_166 : decode cX6_init 166 = .ok (.putfield 68, 3) := by decide +kernel
theorem dX6_init_169 : decode cX6_init 169 = .ok (.aload_n 0, 1) := by decide +kernel
theorem dX6_init_170 : decode cX6_init 170 = .ok (.sipush 150, 3) := by decide +kernel
theorem dX6_init_173 : decode cX6_init 173 = .ok (.newarray .int, 2) := by decide +kernel
theorem dX6_init_175 : decode cX6_init 175 = .ok (.putfield 71, 3) := by decide +kernel
theorem dX6_init_178 : decode cX6_init 178 = .ok (.aload_n 0, 1) := by decide +kernel
theorem dX6_init_179 : decode cX6_init 179 = .ok (.bipush 120, 2) := by decide +kernel
theorem dX6_init_181 : decode cX6_init 181 = .ok (.newarray .int, 2) := by decide +kernel
theorem dX6_init_183 : decode cX6_init 183 = .ok (.putfield 74, 3) := by decide +kernel
theorem dX6_init_186 : decode cX6_init 186 = .ok (.aload_n 0, 1) := by decide +kernel
theorem dX6_init_187 : decode cX6_init 187 = .ok (.bipush 120, 2) := by decide +kernel
theorem dX6_init_189 : decode cX6_init 189 = .ok (.newarray .int, 2) := by decide +kernel
theorem dX6_init_191 : decode cX6_init 191 = .ok (.putfield 77, 3) := by decide +kernel
theorem dX6_init_194 : decode cX6_init 194 = .ok (.aload_n 0, 1) := by decide +kernel
theorem dX6_init_195 : decode cX6_init 195 = .ok (.iconst 0, 1) := by decide +kernel
theorem dX6_init_196 : decode cX6_init 196 = .ok (.putfield 80, 3) := by decide +kernel
theorem dX6_init_199 : decode cX6_init 199 = .ok (.aload_n 0, 1) := by decide +kernel
theorem dX6_init_200 : decode cX6_init 200 = .ok (.iconst 0, 1) := by decide +kernel
theorem dX6_init_201 : decode cX6_init 201 = .ok (.putfield 84, 3) := by decide +kernel
theorem dX6_init_204 : decode cX6_init 204 = .ok (.aload_n 0, 1) := by decide +kernel
theorem dX6_init_205 : decode cX6_init 205 = .ok (.bipush 60, 2) := by decide +kernel
theorem dX6_init_207 : decode cX6_init 207 = .ok (.putfield 87, 3) := by decide +kernel
theorem dX6_init_210 : decode cX6_init 210 = .ok (.aload_n 0, 1) := by decide +kernel
theorem dX6_init_211 : decode cX6_init 211 = .ok (.sipush 180, 3) := by decide +kernel
theorem dX6_init_214 : decode cX6_init 214 = .ok (.putfield 90, 3) := by decide +kernel
theorem dX6_init_217 : decode cX6_init 217 = .ok (.aload_n 0, 1) := by decide +kernel
theorem dX6_init_218 : decode cX6_init 218 = .ok (.iconst 0, 1) := by decide +kernel
theorem dX6_init_219 : decode cX6_init 219 = .ok (.putfield 93, 3) := by decide +kernel
theorem dX6_init_222 : decode cX6_init 222 = .ok (.aload_n 0, 1) := by decide +kernel
theorem dX6_init_223 : decode cX6_init 223 = .ok (.iconst 0, 1) := by decide +kernel
theorem dX6_init_224 : decode cX6_init 224 = .ok (.putfield 96, 3) := by decide +kernel
theorem dX6_init_227 : decode cX6_init 227 = .ok (.aload_n 0, 1) := by decide +kernel
theorem dX6_init_228 : decode cX6_init 228 = .ok (.iconst 0, 1) := by decide +kernel
theorem dX6_init_229 : decode cX6_init 229 = .ok (.putfield 99, 3) := by decide +kernel
theorem dX6_init_232 : decode cX6_init 232 = .ok (.aload_n 0, 1) := by decide +kernel
theorem dX6_init_233 : decode cX6_init 233 = .ok (.iconst 0, 1) := by decide +kernel
theorem dX6_init_234 : decode cX6_init 234 = .ok (.putfield 102, 3) := by decide +kernel
theorem dX6_init_237 : decode cX6_init 237 = .ok (.aload_n 0, 1) := by decide +kernel
theorem dX6_init_238 : decode cX6_init 238 = .ok (.iconst 0, 1) := by decide +kernel
theorem dX6_init_239 : decode cX6_init 239 = .ok (.putfield 105, 3) := by decide +kernel
theorem dX6_init_242 : decode cX6_init 242 = .ok (.aload_n 0, 1) := by decide +kernel
theorem dX6_init_243 : decode cX6_init 243 = .ok (.iconst 0, 1) := by decide +kernel
theorem dX6_init_244 : decode cX6_init 244 = .ok (.putfield 108, 3) := by decide +kernel
theorem dX6_init_247 : decode cX6_init 247 = .ok (.aload_n 0, 1) := by decide +kernel
theorem dX6_init_248 : decode cX6_init 248 = .ok (.iconst 0, 1) := by decide +kernel
theorem dX6_init_249 : decode cX6_init 249 = .ok (.putfield 111, 3) := by decide +kernel
theorem dX6_init_252 : decode cX6_init 252 = .ok (.aload_n 0, 1) := by decide +kernel
theorem dX6_init_253 : decode cX6_init 253 = .ok (.iconst 0, 1) := by decide +kernel
theorem dX6_init_254 : decode cX6_init 254 = .ok (.putfield 114, 3) := by decide +kernel
theorem dX6_init_257 : decode cX6_init 257 = .ok (.aload_n 0, 1) := by decide +kernel
theorem dX6_init_258 : decode cX6_init 258 = .ok (.iconst 0, 1) := by decide +kernel
theorem dX6_init_259 : decode cX6_init 259 = .ok (.putfield 117, 3) := by decide +kernel
theorem dX6_init_262 : decode cX6_init 262 = .ok (.aload_n 0, 1) := by decide +kernel
theorem dX6_init_263 : decode cX6_init 263 = .ok (.iconst 0, 1) := by decide +kernel
theorem dX6_init_264 : decode cX6_init 264 = .ok (.putfield 120, 3) := by decide +kernel
theorem dX6_init_267 : decode cX6_init 267 = .ok (.return_, 1) := by decide +kernel
theorem dX6_thrown_0 : decode cX6_thrown 0 = .ok (.aload_n 0, 1) := by decide +kernel
theorem dX6_thrown_1 : decode cX6_thrown 1 = .ok (.getfield 80, 3) := by decide +kernel
theorem dX6_thrown_4 : decode cX6_thrown 4 = .ok (.ireturn, 1) := by decide +kernel
theorem dX6_in_0 : decode cX6_in 0 = .ok (.iload_n 0, 1) := by decide +kernel
theorem dX6_in_1 : decode cX6_in 1 = .ok (.iload_n 1, 1) := by decide +kernel
theorem dX6_in_2 : decode cX6_in 2 = .ok (.if_icmp .lt 12, 3) := by decide +kernel
theorem dX6_in_5 : decode cX6_in 5 = .ok (.iload_n 0, 1) := by decide +kernel
theorem dX6_in_6 : decode cX6_in 6 = .ok (.iload_n 2, 1) := by decide +kernel
theorem dX6_in_7 : decode cX6_in 7 = .ok (.if_icmp .gt 7, 3) := by decide +kernel
theorem dX6_in_10 : decode cX6_in 10 = .ok (.iconst 1, 1) := by decide +kernel
theorem dX6_in_11 : decode cX6_in 11 = .ok (.goto 4, 3) := by decide +kernel
theorem dX6_in_14 : decode cX6_in 14 = .ok (.iconst 0, 1) := by decide +kernel
theorem dX6_in_15 : decode cX6_in 15 = .ok (.ireturn, 1) := by decide +kernel
theorem dX6_plain_0 : decode cX6_plain 0 = .ok (.aload_n 0, 1) := by decide +kernel
theorem dX6_plain_1 : decode cX6_plain 1 = .ok (.iconst 0, 1) := by decide +kernel
theorem dX6_plain_2 : decode cX6_plain 2 = .ok (.putfield 80, 3) := by decide +kernel
theorem dX6_plain_5 : decode cX6_plain 5 = .ok (.iload_n 1, 1) := by decide +kernel
theorem dX6_plain_6 : decode cX6_plain 6 = .ok (.ireturn, 1) := by decide +kernel
theorem dX6_checked_0 : decode cX6_checked 0 = .ok (.aload_n 0, 1) := by decide +kernel
theorem dX6_checked_1 : decode cX6_checked 1 = .ok (.iload_n 1, 1) := by decide +kernel
theorem dX6_checked_2 : decode cX6_checked 2 = .ok (.ifCond .eq 7, 3) := by decide +kernel
theorem dX6_checked_5 : decode cX6_checked 5 = .ok (.iconst 0, 1) := by decide +kernel
theorem dX6_checked_6 : decode cX6_checked 6 = .ok (.goto 4, 3) := by decide +kernel
theorem dX6_checked_9 : decode cX6_checked 9 = .ok (.iconst 1, 1) := by decide +kernel
theorem dX6_checked_10 : decode cX6_checked 10 = .ok (.putfield 80, 3) := by decide +kernel
theorem dX6_checked_13 : decode cX6_checked 13 = .ok (.aload_n 0, 1) := by decide +kernel
theorem dX6_checked_14 : decode cX6_checked 14 = .ok (.getfield 80, 3) := by decide +kernel
theorem dX6_checked_17 : decode cX6_checked 17 = .ok (.ireturn, 1) := by decide +kernel
theorem dX6_bits_0 : decode cX6_bits 0 = .ok (.iconst 0, 1) := by decide +kernel
theorem dX6_bits_1 : decode cX6_bits 1 = .ok (.istore_n 2, 1) := by decide +kernel
theorem dX6_bits_2 : decode cX6_bits 2 = .ok (.iconst 0, 1) := by decide +kernel
theorem dX6_bits_3 : decode cX6_bits 3 = .ok (.istore_n 3, 1) := by decide +kernel
theorem dX6_bits_4 : decode cX6_bits 4 = .ok (.iload_n 3, 1) := by decide +kernel
theorem dX6_bits_5 : decode cX6_bits 5 = .ok (.bipush 64, 2) := by decide +kernel
theorem dX6_bits_7 : decode cX6_bits 7 = .ok (.if_icmp .ge 27, 3) := by decide +kernel
theorem dX6_bits_10 : decode cX6_bits 10 = .ok (.iload_n 2, 1) := by decide +kernel
theorem dX6_bits_11 : decode cX6_bits 11 = .ok (.lload_n 0, 1) := by decide +kernel
theorem dX6_bits_12 : decode cX6_bits 12 = .ok (.iload_n 3, 1) := by decide +kernel
theorem dX6_bits_13 : decode cX6_bits 13 = .ok (.lshr, 1) := by decide +kernel
theorem dX6_bits_14 : decode cX6_bits 14 = .ok (.lconst 1, 1) := by decide +kernel
theorem dX6_bits_15 : decode cX6_bits 15 = .ok (.land, 1) := by decide +kernel
theorem dX6_bits_16 : decode cX6_bits 16 = .ok (.lconst 1, 1) := by decide +kernel
theorem dX6_bits_17 : decode cX6_bits 17 = .ok (.lcmp, 1) := by decide +kernel
theorem dX6_bits_18 : decode cX6_bits 18 = .ok (.ifCond .ne 7, 3) := by decide +kernel
theorem dX6_bits_21 : decode cX6_bits 21 = .ok (.iconst 1, 1) := by decide +kernel
theorem dX6_bits_22 : decode cX6_bits 22 = .ok (.goto 4, 3) := by decide +kernel
theorem dX6_bits_25 : decode cX6_bits 25 = .ok (.iconst 0, 1) := by decide +kernel
theorem dX6_bits_26 : decode cX6_bits 26 = .ok (.iadd, 1) := by decide +kernel
theorem dX6_bits_27 : decode cX6_bits 27 = .ok (.istore_n 2, 1) := by decide +kernel
theorem dX6_bits_28 : decode cX6_bits 28 = .ok (.iinc 3 1, 3) := by decide +kernel
theorem dX6_bits_31 : decode cX6_bits 31 = .ok (.goto (-27), 3) := by decide +kernel
theorem dX6_bits_34 : decode cX6_bits 34 = .ok (.iload_n 2, 1) := by decide +kernel
theorem dX6_bits_35 : decode cX6_bits 35 = .ok (.ireturn, 1) := by decide +kernel
theorem dX6_likenessOf_0 : decode cX6_likenessOf 0 = .ok (.bipush 100, 2) := by decide +kernel
theorem dX6_likenessOf_2 : decode cX6_likenessOf 2 = .ok (.lload_n 0, 1) := by decide +kernel
theorem dX6_likenessOf_3 : decode cX6_likenessOf 3 = .ok (.lload_n 2, 1) := by decide +kernel
theorem dX6_likenessOf_4 : decode cX6_likenessOf 4 = .ok (.land, 1) := by decide +kernel
theorem dX6_likenessOf_5 : decode cX6_likenessOf 5 = .ok (.invokestatic 124, 3) := by decide +kernel
theorem dX6_likenessOf_8 : decode cX6_likenessOf 8 = .ok (.imul, 1) := by decide +kernel
theorem dX6_likenessOf_9 : decode cX6_likenessOf 9 = .ok (.lload_n 0, 1) := by decide +kernel
theorem dX6_likenessOf_10 : decode cX6_likenessOf 10 = .ok (.lload_n 2, 1) := by decide +kernel
theorem dX6_likenessOf_11 : decode cX6_likenessOf 11 = .ok (.lor, 1) := by decide +kernel
theorem dX6_likenessOf_12 : decode cX6_likenessOf 12 = .ok (.invokestatic 124, 3) := by decide +kernel
theorem dX6_likenessOf_15 : decode cX6_likenessOf 15 = .ok (.idiv, 1) := by decide +kernel
theorem dX6_likenessOf_16 : decode cX6_likenessOf 16 = .ok (.ireturn, 1) := by decide +kernel
theorem dX6_pass_0 : decode cX6_pass 0 = .ok (.aload_n 0, 1) := by decide +kernel
theorem dX6_pass_1 : decode cX6_pass 1 = .ok (.iload_n 1, 1) := by decide +kernel
theorem dX6_pass_2 : decode cX6_pass 2 = .ok (.iconst 1, 1) := by decide +kernel
theorem dX6_pass_3 : decode cX6_pass 3 = .ok (.sipush 2000, 3) := by decide +kernel
theorem dX6_pass_6 : decode cX6_pass 6 = .ok (.invokestatic 128, 3) := by decide +kernel
theorem dX6_pass_9 : decode cX6_pass 9 = .ok (.ifCond .ne 7, 3) := by decide +kernel
theorem dX6_pass_12 : decode cX6_pass 12 = .ok (.iconst 1, 1) := by decide +kernel
theorem dX6_pass_13 : decode cX6_pass 13 = .ok (.goto 19, 3) := by decide +kernel
theorem dX6_pass_16 : decode cX6_pass 16 = .ok (.aload_n 0, 1) := by decide +kernel
theorem dX6_pass_17 : decode cX6_pass 17 = .ok (.getfield 84, 3) := by decide +kernel
theorem dX6_pass_20 : decode cX6_pass 20 = .ok (.iload_n 1, 1) := by decide +kernel
theorem dX6_pass_21 : decode cX6_pass 21 = .ok (.iadd, 1) := by decide +kernel
theorem dX6_pass_22 : decode cX6_pass 22 = .ok (.ldc 132, 2) := by decide +kernel
theorem dX6_pass_24 : decode cX6_pass 24 = .ok (.if_icmp .le 7, 3) := by decide +kernel
theorem dX6_pass_27 : decode cX6_pass 27 = .ok (.iconst 2, 1) := by decide +kernel
theorem dX6_pass_28 : decode cX6_pass 28 = .ok (.goto 4, 3) := by decide +kernel
theorem dX6_pass_31 : decode cX6_pass 31 = .ok (.iconst 0, 1) := by decide +kernel
theorem dX6_pass_32 : decode cX6_pass 32 = .ok (.putfield 80, 3) := by decide +kernel
theorem dX6_pass_35 : decode cX6_pass 35 = .ok (.aload_n 0, 1) := by decide +kernel
theorem dX6_pass_36 : decode cX6_pass 36 = .ok (.getfield 80, 3) := by decide +kernel
theorem dX6_pass_39 : decode cX6_pass 39 = .ok (.ifCond .le 5, 3) := by decide +kernel
theorem dX6_pass_42 : decode cX6_pass 42 = .ok (.iconst 0, 1) := by decide +kernel
theorem dX6_pass_43 : decode cX6_pass 43 = .ok (.ireturn, 1) := by decide +kernel
theorem dX6_pass_44 : decode cX6_pass 44 = .ok (.aload_n 0, 1) := by decide +kernel
theorem dX6_pass_45 : decode cX6_pass 45 = .ok (.dup, 1) := by decide +kernel
theorem dX6_pass_46 : decode cX6_pass 46 = .ok (.getfield 84, 3) := by decide +kernel
theorem dX6_pass_49 : decode cX6_pass 49 = .ok (.iload_n 1, 1) := by decide +kernel
theorem dX6_pass_50 : decode cX6_pass 50 = .ok (.iadd, 1) := by decide +kernel
theorem dX6_pass_51 : decode cX6_pass 51 = .ok (.putfield 84, 3) := by decide +kernel
theorem dX6_pass_54 : decode cX6_pass 54 = .ok (.aload_n 0, 1) := by decide +kernel
theorem dX6_pass_55 : decode cX6_pass 55 = .ok (.getfield 84, 3) := by decide +kernel
theorem dX6_pass_58 : decode cX6_pass 58 = .ok (.ireturn, 1) := by decide +kernel
theorem dX6_now_0 : decode cX6_now 0 = .ok (.aload_n 0, 1) := by decide +kernel
theorem dX6_now_1 : decode cX6_now 1 = .ok (.aload_n 0, 1) := by decide +kernel
theorem dX6_now_2 : decode cX6_now 2 = .ok (.getfield 84, 3) := by decide +kernel
theorem dX6_now_5 : decode cX6_now 5 = .ok (.invokevirtual 133, 3) := by decide +kernel
theorem dX6_now_8 : decode cX6_now 8 = .ok (.ireturn, 1) := by decide +kernel
theorem dX6_setThreshold_0 : decode cX6_setThreshold 0 = .ok (.aload_n 0, 1) := by decide +kernel
theorem dX6_setThreshold_1 : decode cX6_setThreshold 1 = .ok (.iload_n 1, 1) := by decide +kernel
theorem dX6_setThreshold_2 : decode cX6_setThreshold 2 = .ok (.iconst 1, 1) := by decide +kernel
theorem dX6_setThreshold_3 : decode cX6_setThreshold 3 = .ok (.bipush 100, 2) := by decide +kernel
theorem dX6_setThreshold_5 : decode cX6_setThreshold 5 = .ok (.invokestatic 128, 3) := by decide +kernel
theorem dX6_setThreshold_8 : decode cX6_setThreshold 8 = .ok (.invokevirtual 137, 3) := by decide +kernel
theorem dX6_setThreshold_11 : decode cX6_setThreshold 11 = .ok (.ifCond .le 5, 3) := by decide +kernel
theorem dX6_setThreshold_14 : decode cX6_setThreshold 14 = .ok (.iconst 0, 1) := by decide +kernel
theorem dX6_setThreshold_15 : decode cX6_setThreshold 15 = .ok (.ireturn, 1) := by decide +kernel
theorem dX6_setThreshold_16 : decode cX6_setThreshold 16 = .ok (.aload_n 0, 1) := by decide +kernel
theorem dX6_setThreshold_17 : decode cX6_setThreshold 17 = .ok (.getfield 87, 3) := by decide +kernel
theorem dX6_setThreshold_20 : decode cX6_setThreshold 20 = .ok (.istore_n 2, 1) := by decide +kernel
theorem dX6_setThreshold_21 : decode cX6_setThreshold 21 = .ok (.aload_n 0, 1) := by decide +kernel
theorem dX6_setThreshold_22 : decode cX6_setThreshold 22 = .ok (.iload_n 1, 1) := by decide +kernel
theorem dX6_setThreshold_23 : decode cX6_setThreshold 23 = .ok (.putfield 87, 3) := by decide +kernel
theorem dX6_setThreshold_26 : decode cX6_setThreshold 26 = .ok (.iload_n 2, 1) := by decide +kernel
theorem dX6_setThreshold_27 : decode cX6_setThreshold 27 = .ok (.ireturn, 1) := by decide +kernel
theorem dX6_setWindow_0 : decode cX6_setWindow 0 = .ok (.aload_n 0, 1) := by decide +kernel
theorem dX6_setWindow_1 : decode cX6_setWindow 1 = .ok (.iload_n 1, 1) := by decide +kernel
theorem dX6_setWindow_2 : decode cX6_setWindow 2 = .ok (.iconst 0, 1) := by decide +kernel
theorem dX6_setWindow_3 : decode cX6_setWindow 3 = .ok (.sipush 1440, 3) := by decide +kernel
theorem dX6_setWindow_6 : decode cX6_setWindow 6 = .ok (.invokestatic 128, 3) := by decide +kernel
theorem dX6_setWindow_9 : decode cX6_setWindow 9 = .ok (.invokevirtual 137, 3) := by decide +kernel
theorem dX6_setWindow_12 : decode cX6_setWindow 12 = .ok (.ifCond .le 5, 3) := by decide +kernel
theorem dX6_setWindow_15 : decode cX6_setWindow 15 = .ok (.iconst 0, 1) := by decide +kernel
theorem dX6_setWindow_16 : decode cX6_setWindow 16 = .ok (.ireturn, 1) := by decide +kernel
theorem dX6_setWindow_17 : decode cX6_setWindow 17 = .ok (.aload_n 0, 1) := by decide +kernel
theorem dX6_setWindow_18 : decode cX6_setWindow 18 = .ok (.getfield 90, 3) := by decide +kernel
theorem dX6_setWindow_21 : decode cX6_setWindow 21 = .ok (.istore_n 2, 1) := by decide +kernel
theorem dX6_setWindow_22 : decode cX6_setWindow 22 = .ok (.aload_n 0, 1) := by decide +kernel
theorem dX6_setWindow_23 : decode cX6_setWindow 23 = .ok (.iload_n 1, 1) := by decide +kernel
theorem dX6_setWindow_24 : decode cX6_setWindow 24 = .ok (.putfield 90, 3) := by decide +kernel
theorem dX6_setWindow_27 : decode cX6_setWindow 27 = .ok (.iload_n 2, 1) := by decide +kernel
theorem dX6_setWindow_28 : decode cX6_setWindow 28 = .ok (.ireturn, 1) := by decide +kernel
theorem dX6_likeness_0 : decode cX6_likeness 0 = .ok (.aload_n 0, 1) := by decide +kernel
theorem dX6_likeness_1 : decode cX6_likeness 1 = .ok (.lload_n 1, 1) := by decide +kernel
theorem dX6_likeness_2 : decode cX6_likeness 2 = .ok (.lconst 0, 1) := by decide +kernel
theorem dX6_likeness_3 : decode cX6_likeness 3 = .ok (.lcmp, 1) := by decide +kernel
theorem dX6_likeness_4 : decode cX6_likeness 4 = .ok (.ifCond .eq 13, 3) := by decide +kernel
theorem dX6_likeness_7 : decode cX6_likeness 7 = .ok (.lload_n 3, 1) := by decide +kernel
theorem dX6_likeness_8 : decode cX6_likeness 8 = .ok (.lconst 0, 1) := by decide +kernel
theorem dX6_likeness_9 : decode cX6_likeness 9 = .ok (.lcmp, 1) := by decide +kernel
theorem dX6_likeness_10 : decode cX6_likeness 10 = .ok (.ifCond .eq 7, 3) := by decide +kernel
theorem dX6_likeness_13 : decode cX6_likeness 13 = .ok (.iconst 1, 1) := by decide +kernel
theorem dX6_likeness_14 : decode cX6_likeness 14 = .ok (.goto 4, 3) := by decide +kernel
theorem dX6_likeness_17 : decode cX6_likeness 17 = .ok (.iconst 0, 1) := by decide +kernel
theorem dX6_likeness_18 : decode cX6_likeness 18 = .ok (.invokevirtual 137, 3) := by decide +kernel
theorem dX6_likeness_21 : decode cX6_likeness 21 = .ok (.ifCond .le 7, 3) := by decide +kernel
theorem dX6_likeness_24 : decode cX6_likeness 24 = .ok (.iconst 0, 1) := by decide +kernel
theorem dX6_likeness_25 : decode cX6_likeness 25 = .ok (.goto 8, 3) := by decide +kernel
theorem dX6_likeness_28 : decode cX6_likeness 28 = .ok (.lload_n 1, 1) := by decide +kernel
theorem dX6_likeness_29 : decode cX6_likeness 29 = .ok (.lload_n 3, 1) := by decide +kernel
theorem dX6_likeness_30 : decode cX6_likeness 30 = .ok (.invokestatic 141, 3) := by decide +kernel
theorem dX6_likeness_33 : decode cX6_likeness 33 = .ok (.ireturn, 1) := by decide +kernel
theorem dX6_addSource_0 : decode cX6_addSource 0 = .ok (.aload_n 0, 1) := by decide +kernel
theorem dX6_addSource_1 : decode cX6_addSource 1 = .ok (.aload_n 0, 1) := by decide +kernel
theorem dX6_addSource_2 : decode cX6_addSource 2 = .ok (.getfield 93, 3) := by decide +kernel
theorem dX6_addSource_5 : decode cX6_addSource 5 = .ok (.bipush 6, 2) := by decide +kernel
theorem dX6_addSource_7 : decode cX6_addSource 7 = .ok (.if_icmp .ge 7, 3) := by decide +kernel
theorem dX6_addSource_10 : decode cX6_addSource 10 = .ok (.iconst 1, 1) := by decide +kernel
theorem dX6_addSource_11 : decode cX6_addSource 11 = .ok (.goto 4, 3) := by decide +kernel
theorem dX6_addSource_14 : decode cX6_addSource 14 = .ok (.iconst 0, 1) := by decide +kernel
theorem dX6_addSource_15 : decode cX6_addSource 15 = .ok (.invokevirtual 137, 3) := by decide +kernel
theorem dX6_addSource_18 : decode cX6_addSource 18 = .ok (.ifCond .le 5, 3) := by decide +kernel
theorem dX6_addSource_21 : decode cX6_addSource 21 = .ok (.iconst 0, 1) := by decide +kernel
theorem dX6_addSource_22 : decode cX6_addSource 22 = .ok (.ireturn, 1) := by decide +kernel
theorem dX6_addSource_23 : decode cX6_addSource 23 = .ok (.aload_n 0, 1) := by decide +kernel
theorem dX6_addSource_24 : decode cX6_addSource 24 = .ok (.dup, 1) := by decide +kernel
theorem dX6_addSource_25 : decode cX6_addSource 25 = .ok (.getfield 93, 3) := by decide +kernel
theorem dX6_addSource_28 : decode cX6_addSource 28 = .ok (.iconst 1, 1) := by decide +kernel
theorem dX6_addSource_29 : decode cX6_addSource 29 = .ok (.iadd, 1) := by decide +kernel
theorem dX6_addSource_30 : decode cX6_addSource 30 = .ok (.putfield 93, 3) := by decide +kernel
theorem dX6_addSource_33 : decode cX6_addSource 33 = .ok (.aload_n 0, 1) := by decide +kernel
theorem dX6_addSource_34 : decode cX6_addSource 34 = .ok (.getfield 93, 3) := by decide +kernel
theorem dX6_addSource_37 : decode cX6_addSource 37 = .ok (.iconst 1, 1) := by decide +kernel
theorem dX6_addSource_38 : decode cX6_addSource 38 = .ok (.isub, 1) := by decide +kernel
theorem dX6_addSource_39 : decode cX6_addSource 39 = .ok (.ireturn, 1) := by decide +kernel
theorem dX6_pairAt_0 : decode cX6_pairAt 0 = .ok (.iconst 0, 1) := by decide +kernel
theorem dX6_pairAt_1 : decode cX6_pairAt 1 = .ok (.istore_n 3, 1) := by decide +kernel
theorem dX6_pairAt_2 : decode cX6_pairAt 2 = .ok (.iload_n 3, 1) := by decide +kernel
theorem dX6_pairAt_3 : decode cX6_pairAt 3 = .ok (.aload_n 0, 1) := by decide +kernel
theorem dX6_pairAt_4 : decode cX6_pairAt 4 = .ok (.getfield 99, 3) := by decide +kernel
theorem dX6_pairAt_7 : decode cX6_pairAt 7 = .ok (.if_icmp .ge 36, 3) := by decide +kernel
theorem dX6_pairAt_10 : decode cX6_pairAt 10 = .ok (.aload_n 0, 1) := by decide +kernel
theorem dX6_pairAt_11 : decode cX6_pairAt 11 = .ok (.getfield 35, 3) := by decide +kernel
theorem dX6_pairAt_14 : decode cX6_pairAt 14 = .ok (.iload_n 3, 1) := by decide +kernel
theorem dX6_pairAt_15 : decode cX6_pairAt 15 = .ok (.iaload, 1) := by decide +kernel
theorem dX6_pairAt_16 : decode cX6_pairAt 16 = .ok (.iload_n 1, 1) := by decide +kernel
theorem dX6_pairAt_17 : decode cX6_pairAt 17 = .ok (.if_icmp .ne 20, 3) := by decide +kernel
theorem dX6_pairAt_20 : decode cX6_pairAt 20 = .ok (.aload_n 0, 1) := by decide +kernel
theorem dX6_pairAt_21 : decode cX6_pairAt 21 = .ok (.getfield 38, 3) := by decide +kernel
theorem dX6_pairAt_24 : decode cX6_pairAt 24 = .ok (.iload_n 3, 1) := by decide +kernel
theorem dX6_pairAt_25 : decode cX6_pairAt 25 = .ok (.iaload, 1) := by decide +kernel
theorem dX6_pairAt_26 : decode cX6_pairAt 26 = .ok (.iload_n 2, 1) := by decide +kernel
theorem dX6_pairAt_27 : decode cX6_pairAt 27 = .ok (.if_icmp .ne 10, 3) := by decide +kernel
theorem dX6_pairAt_30 : decode cX6_pairAt 30 = .ok (.aload_n 0, 1) := by decide +kernel
theorem dX6_pairAt_31 : decode cX6_pairAt 31 = .ok (.getfield 41, 3) := by decide +kernel
theorem dX6_pairAt_34 : decode cX6_pairAt 34 = .ok (.iload_n 3, 1) := by decide +kernel
theorem dX6_pairAt_35 : decode cX6_pairAt 35 = .ok (.iaload, 1) := by decide +kernel
theorem dX6_pairAt_36 : decode cX6_pairAt 36 = .ok (.ireturn, 1) := by decide +kernel
theorem dX6_pairAt_37 : decode cX6_pairAt 37 = .ok (.iinc 3 1, 3) := by decide +kernel
theorem dX6_pairAt_40 : decode cX6_pairAt 40 = .ok (.goto (-38), 3) := by decide +kernel
theorem dX6_pairAt_43 : decode cX6_pairAt 43 = .ok (.iconst (-1), 1) := by decide +kernel
theorem dX6_pairAt_44 : decode cX6_pairAt 44 = .ok (.ireturn, 1) := by decide +kernel
theorem dX6_linkAt_0 : decode cX6_linkAt 0 = .ok (.iconst 0, 1) := by decide +kernel
theorem dX6_linkAt_1 : decode cX6_linkAt 1 = .ok (.istore_n 2, 1) := by decide +kernel
theorem dX6_linkAt_2 : decode cX6_linkAt 2 = .ok (.iload_n 2, 1) := by decide +kernel
theorem dX6_linkAt_3 : decode cX6_linkAt 3 = .ok (.aload_n 0, 1) := by decide +kernel
theorem dX6_linkAt_4 : decode cX6_linkAt 4 = .ok (.getfield 102, 3) := by decide +kernel
theorem dX6_linkAt_7 : decode cX6_linkAt 7 = .ok (.if_icmp .ge 26, 3) := by decide +kernel
theorem dX6_linkAt_10 : decode cX6_linkAt 10 = .ok (.aload_n 0, 1) := by decide +kernel
theorem dX6_linkAt_11 : decode cX6_linkAt 11 = .ok (.getfield 44, 3) := by decide +kernel
theorem dX6_linkAt_14 : decode cX6_linkAt 14 = .ok (.iload_n 2, 1) := by decide +kernel
theorem dX6_linkAt_15 : decode cX6_linkAt 15 = .ok (.iaload, 1) := by decide +kernel
theorem dX6_linkAt_16 : decode cX6_linkAt 16 = .ok (.iload_n 1, 1) := by decide +kernel
theorem dX6_linkAt_17 : decode cX6_linkAt 17 = .ok (.if_icmp .ne 10, 3) := by decide +kernel
theorem dX6_linkAt_20 : decode cX6_linkAt 20 = .ok (.aload_n 0, 1) := by decide +kernel
theorem dX6_linkAt_21 : decode cX6_linkAt 21 = .ok (.getfield 47, 3) := by decide +kernel
theorem dX6_linkAt_24 : decode cX6_linkAt 24 = .ok (.iload_n 2, 1) := by decide +kernel
theorem dX6_linkAt_25 : decode cX6_linkAt 25 = .ok (.iaload, 1) := by decide +kernel
theorem dX6_linkAt_26 : decode cX6_linkAt 26 = .ok (.ireturn, 1) := by decide +kernel
theorem dX6_linkAt_27 : decode cX6_linkAt 27 = .ok (.iinc 2 1, 3) := by decide +kernel
theorem dX6_linkAt_30 : decode cX6_linkAt 30 = .ok (.goto (-28), 3) := by decide +kernel
theorem dX6_linkAt_33 : decode cX6_linkAt 33 = .ok (.iconst (-1), 1) := by decide +kernel
theorem dX6_linkAt_34 : decode cX6_linkAt 34 = .ok (.ireturn, 1) := by decide +kernel
theorem dX6_latest_0 : decode cX6_latest 0 = .ok (.aload_n 0, 1) := by decide +kernel
theorem dX6_latest_1 : decode cX6_latest 1 = .ok (.getfield 7, 3) := by decide +kernel
theorem dX6_latest_4 : decode cX6_latest 4 = .ok (.iconst 4, 1) := by decide +kernel
theorem dX6_latest_5 : decode cX6_latest 5 = .ok (.iload_n 1, 1) := by decide +kernel
theorem dX6_latest_6 : decode cX6_latest 6 = .ok (.imul, 1) := by decide +kernel
theorem dX6_latest_7 : decode cX6_latest 7 = .ok (.aload_n 0, 1) := by decide +kernel
theorem dX6_latest_8 : decode cX6_latest 8 = .ok (.getfield 29, 3) := by decide +kernel
theorem dX6_latest_11 : decode cX6_latest 11 = .ok (.iload_n 1, 1) := by decide +kernel
theorem dX6_latest_12 : decode cX6_latest 12 = .ok (.iaload, 1) := by decide +kernel
theorem dX6_latest_13 : decode cX6_latest 13 = .ok (.iconst 1, 1) := by decide +kernel
theorem dX6_latest_14 : decode cX6_latest 14 = .ok (.isub, 1) := by decide +kernel
theorem dX6_latest_15 : decode cX6_latest 15 = .ok (.iconst 4, 1) := by decide +kernel
theorem dX6_latest_16 : decode cX6_latest 16 = .ok (.irem, 1) := by decide +kernel
theorem dX6_latest_17 : decode cX6_latest 17 = .ok (.iadd, 1) := by decide +kernel
theorem dX6_latest_18 : decode cX6_latest 18 = .ok (.laload, 1) := by decide +kernel
theorem dX6_latest_19 : decode cX6_latest 19 = .ok (.lreturn, 1) := by decide +kernel
theorem dX6_likest_0 : decode cX6_likest 0 = .ok (.iconst (-1), 1) := by decide +kernel
theorem dX6_likest_1 : decode cX6_likest 1 = .ok (.istore_n 3, 1) := by decide +kernel
theorem dX6_likest_2 : decode cX6_likest 2 = .ok (.iconst 0, 1) := by decide +kernel
theorem dX6_likest_3 : decode cX6_likest 3 = .ok (.istore 4, 2) := by decide +kernel
theorem dX6_likest_5 : decode cX6_likest 5 = .ok (.iload 4, 2) := by decide +kernel
theorem dX6_likest_7 : decode cX6_likest 7 = .ok (.aload_n 0, 1) := by decide +kernel
theorem dX6_likest_8 : decode cX6_likest 8 = .ok (.getfield 96, 3) := by decide +kernel
theorem dX6_likest_11 : decode cX6_likest 11 = .ok (.if_icmp .ge 73, 3) := by decide +kernel
theorem dX6_likest_14 : decode cX6_likest 14 = .ok (.lload_n 1, 1) := by decide +kernel
theorem dX6_likest_15 : decode cX6_likest 15 = .ok (.aload_n 0, 1) := by decide +kernel
theorem dX6_likest_16 : decode cX6_likest 16 = .ok (.iload 4, 2) := by decide +kernel
theorem dX6_likest_18 : decode cX6_likest 18 = .ok (.invokevirtual 145, 3) := by decide +kernel
theorem dX6_likest_21 : decode cX6_likest 21 = .ok (.invokestatic 141, 3) := by decide +kernel
theorem dX6_likest_24 : decode cX6_likest 24 = .ok (.istore 5, 2) := by decide +kernel
theorem dX6_likest_26 : decode cX6_likest 26 = .ok (.aload_n 0, 1) := by decide +kernel
theorem dX6_likest_27 : decode cX6_likest 27 = .ok (.getfield 84, 3) := by decide +kernel
theorem dX6_likest_30 : decode cX6_likest 30 = .ok (.aload_n 0, 1) := by decide +kernel
theorem dX6_likest_31 : decode cX6_likest 31 = .ok (.getfield 19, 3) := by decide +kernel
theorem dX6_likest_34 : decode cX6_likest 34 = .ok (.iload 4, 2) := by decide +kernel
theorem dX6_likest_36 : decode cX6_likest 36 = .ok (.iaload, 1) := by decide +kernel
theorem dX6_likest_37 : decode cX6_likest 37 = .ok (.isub, 1) := by decide +kernel
theorem dX6_likest_38 : decode cX6_likest 38 = .ok (.aload_n 0, 1) := by decide +kernel
theorem dX6_likest_39 : decode cX6_likest 39 = .ok (.getfield 90, 3) := by decide +kernel
theorem dX6_likest_42 : decode cX6_likest 42 = .ok (.if_icmp .gt 36, 3) := by decide +kernel
theorem dX6_likest_45 : decode cX6_likest 45 = .ok (.iload 5, 2) := by decide +kernel
theorem dX6_likest_47 : decode cX6_likest 47 = .ok (.aload_n 0, 1) := by decide +kernel
theorem dX6_likest_48 : decode cX6_likest 48 = .ok (.getfield 87, 3) := by decide +kernel
theorem dX6_likest_51 : decode cX6_likest 51 = .ok (.if_icmp .ge 6, 3) := by decide +kernel
theorem dX6_likest_54 : decode cX6_likest 54 = .ok (.goto 24, 3) := by decide +kernel
theorem dX6_likest_57 : decode cX6_likest 57 = .ok (.iload_n 3, 1) := by decide +kernel
theorem dX6_likest_58 : decode cX6_likest 58 = .ok (.ifCond .lt 17, 3) := by decide +kernel
theorem dX6_likest_61 : decode cX6_likest 61 = .ok (.iload 5, 2) := by decide +kernel
theorem dX6_likest_63 : decode cX6_likest 63 = .ok (.lload_n 1, 1) := by decide +kernel
theorem dX6_likest_64 : decode cX6_likest 64 = .ok (.aload_n 0, 1) := by decide +kernel
theorem dX6_likest_65 : decode cX6_likest 65 = .ok (.iload_n 3, 1) := by decide +kernel
theorem dX6_likest_66 : decode cX6_likest 66 = .ok (.invokevirtual 145, 3) := by decide +kernel
theorem dX6_likest_69 : decode cX6_likest 69 = .ok (.invokestatic 141, 3) := by decide +kernel
theorem dX6_likest_72 : decode cX6_likest 72 = .ok (.if_icmp .le 6, 3) := by decide +kernel
theorem dX6_likest_75 : decode cX6_likest 75 = .ok (.iload 4, 2) := by decide +kernel
theorem dX6_likest_77 : decode cX6_likest 77 = .ok (.istore_n 3, 1) := by decide +kernel
theorem dX6_likest_78 : decode cX6_likest 78 = .ok (.iinc 4 1, 3) := by decide +kernel
theorem dX6_likest_81 : decode cX6_likest 81 = .ok (.goto (-76), 3) := by decide +kernel
theorem dX6_likest_84 : decode cX6_likest 84 = .ok (.iload_n 3, 1) := by decide +kernel
theorem dX6_likest_85 : decode cX6_likest 85 = .ok (.ireturn, 1) := by decide +kernel
theorem dX6_found_0 : decode cX6_found 0 = .ok (.iload_n 2, 1) := by decide +kernel
theorem dX6_found_1 : decode cX6_found 1 = .ok (.iconst (-1), 1) := by decide +kernel
theorem dX6_found_2 : decode cX6_found 2 = .ok (.if_icmp .ne 7, 3) := by decide +kernel
theorem dX6_found_5 : decode cX6_found 5 = .ok (.iconst (-1), 1) := by decide +kernel
theorem dX6_found_6 : decode cX6_found 6 = .ok (.goto 9, 3) := by decide +kernel
theorem dX6_found_9 : decode cX6_found 9 = .ok (.aload_n 0, 1) := by decide +kernel
theorem dX6_found_10 : decode cX6_found 10 = .ok (.iload_n 1, 1) := by decide +kernel
theorem dX6_found_11 : decode cX6_found 11 = .ok (.iload_n 2, 1) := by decide +kernel
theorem dX6_found_12 : decode cX6_found 12 = .ok (.invokevirtual 149, 3) := by decide +kernel
theorem dX6_found_15 : decode cX6_found 15 = .ok (.istore 6, 2) := by decide +kernel
theorem dX6_found_17 : decode cX6_found 17 = .ok (.iload 6, 2) := by decide +kernel
theorem dX6_found_19 : decode cX6_found 19 = .ok (.ifCond .ge 15, 3) := by decide +kernel
theorem dX6_found_22 : decode cX6_found 22 = .ok (.iload_n 3, 1) := by decide +kernel
theorem dX6_found_23 : decode cX6_found 23 = .ok (.iconst (-1), 1) := by decide +kernel
theorem dX6_found_24 : decode cX6_found 24 = .ok (.if_icmp .eq 10, 3) := by decide +kernel
theorem dX6_found_27 : decode cX6_found 27 = .ok (.aload_n 0, 1) := by decide +kernel
theorem dX6_found_28 : decode cX6_found 28 = .ok (.iload_n 3, 1) := by decide +kernel
theorem dX6_found_29 : decode cX6_found 29 = .ok (.invokevirtual 153, 3) := by decide +kernel
theorem dX6_found_32 : decode cX6_found 32 = .ok (.istore 6, 2) := by decide +kernel
theorem dX6_found_34 : decode cX6_found 34 = .ok (.iload 6, 2) := by decide +kernel
theorem dX6_found_36 : decode cX6_found 36 = .ok (.ifCond .ge 12, 3) := by decide +kernel
theorem dX6_found_39 : decode cX6_found 39 = .ok (.aload_n 0, 1) := by decide +kernel
theorem dX6_found_40 : decode cX6_found 40 = .ok (.lload 4, 2) := by decide +kernel
theorem dX6_found_42 : decode cX6_found 42 = .ok (.invokevirtual 156, 3) := by decide +kernel
theorem dX6_found_45 : decode cX6_found 45 = .ok (.goto 5, 3) := by decide +kernel
theorem dX6_found_48 : decode cX6_found 48 = .ok (.iload 6, 2) := by decide +kernel
theorem dX6_found_50 : decode cX6_found 50 = .ok (.ireturn, 1) := by decide +kernel
theorem dX6_adds_0 : decode cX6_adds 0 = .ok (.aload_n 0, 1) := by decide +kernel
theorem dX6_adds_1 : decode cX6_adds 1 = .ok (.getfield 19, 3) := by decide +kernel
theorem dX6_adds_4 : decode cX6_adds 4 = .ok (.aload_n 0, 1) := by decide +kernel
theorem dX6_adds_5 : decode cX6_adds 5 = .ok (.getfield 96, 3) := by decide +kernel
theorem dX6_adds_8 : decode cX6_adds 8 = .ok (.aload_n 0, 1) := by decide +kernel
theorem dX6_adds_9 : decode cX6_adds 9 = .ok (.getfield 84, 3) := by decide +kernel
theorem dX6_adds_12 : decode cX6_adds 12 = .ok (.iastore, 1) := by decide +kernel
theorem dX6_adds_13 : decode cX6_adds 13 = .ok (.aload_n 0, 1) := by decide +kernel
theorem dX6_adds_14 : decode cX6_adds 14 = .ok (.getfield 23, 3) := by decide +kernel
theorem dX6_adds_17 : decode cX6_adds 17 = .ok (.aload_n 0, 1) := by decide +kernel
theorem dX6_adds_18 : decode cX6_adds 18 = .ok (.getfield 96, 3) := by decide +kernel
theorem dX6_adds_21 : decode cX6_adds 21 = .ok (.iload_n 3, 1) := by decide +kernel
theorem dX6_adds_22 : decode cX6_adds 22 = .ok (.iconst (-1), 1) := by decide +kernel
theorem dX6_adds_23 : decode cX6_adds 23 = .ok (.if_icmp .eq 27, 3) := by decide +kernel
theorem dX6_adds_26 : decode cX6_adds 26 = .ok (.iload_n 3, 1) := by decide +kernel
theorem dX6_adds_27 : decode cX6_adds 27 = .ok (.aload_n 0, 1) := by decide +kernel
theorem dX6_adds_28 : decode cX6_adds 28 = .ok (.getfield 84, 3) := by decide +kernel
theorem dX6_adds_31 : decode cX6_adds 31 = .ok (.if_icmp .gt 19, 3) := by decide +kernel
theorem dX6_adds_34 : decode cX6_adds 34 = .ok (.iload_n 3, 1) := by decide +kernel
theorem dX6_adds_35 : decode cX6_adds 35 = .ok (.aload_n 0, 1) := by decide +kernel
theorem dX6_adds_36 : decode cX6_adds 36 = .ok (.getfield 84, 3) := by decide +kernel
theorem dX6_adds_39 : decode cX6_adds 39 = .ok (.sipush 1440, 3) := by decide +kernel
theorem dX6_adds_42 : decode cX6_adds 42 = .ok (.isub, 1) := by decide +kernel
theorem dX6_adds_43 : decode cX6_adds 43 = .ok (.if_icmp .lt 7, 3) := by decide +kernel
theorem dX6_adds_46 : decode cX6_adds 46 = .ok (.iload_n 3, 1) := by decide +kernel
theorem dX6_adds_47 : decode cX6_adds 47 = .ok (.goto 7, 3) := by decide +kernel
theorem dX6_adds_50 : decode cX6_adds 50 = .ok (.aload_n 0, 1) := by decide +kernel
theorem dX6_adds_51 : decode cX6_adds 51 = .ok (.getfield 84, 3) := by decide +kernel
theorem dX6_adds_54 : decode cX6_adds 54 = .ok (.iastore, 1) := by decide +kernel
theorem dX6_adds_55 : decode cX6_adds 55 = .ok (.aload_n 0, 1) := by decide +kernel
theorem dX6_adds_56 : decode cX6_adds 56 = .ok (.getfield 26, 3) := by decide +kernel
theorem dX6_adds_59 : decode cX6_adds 59 = .ok (.aload_n 0, 1) := by decide +kernel
theorem dX6_adds_60 : decode cX6_adds 60 = .ok (.getfield 96, 3) := by decide +kernel
theorem dX6_adds_63 : decode cX6_adds 63 = .ok (.iconst 0, 1) := by decide +kernel
theorem dX6_adds_64 : decode cX6_adds 64 = .ok (.iastore, 1) := by decide +kernel
theorem dX6_adds_65 : decode cX6_adds 65 = .ok (.aload_n 0, 1) := by decide +kernel
theorem dX6_adds_66 : decode cX6_adds 66 = .ok (.getfield 29, 3) := by decide +kernel
theorem dX6_adds_69 : decode cX6_adds 69 = .ok (.aload_n 0, 1) := by decide +kernel
theorem dX6_adds_70 : decode cX6_adds 70 = .ok (.getfield 96, 3) := by decide +kernel
theorem dX6_adds_73 : decode cX6_adds 73 = .ok (.iconst 1, 1) := by decide +kernel
theorem dX6_adds_74 : decode cX6_adds 74 = .ok (.iastore, 1) := by decide +kernel
theorem dX6_adds_75 : decode cX6_adds 75 = .ok (.aload_n 0, 1) := by decide +kernel
theorem dX6_adds_76 : decode cX6_adds 76 = .ok (.getfield 32, 3) := by decide +kernel
theorem dX6_adds_79 : decode cX6_adds 79 = .ok (.aload_n 0, 1) := by decide +kernel
theorem dX6_adds_80 : decode cX6_adds 80 = .ok (.getfield 96, 3) := by decide +kernel
theorem dX6_adds_83 : decode cX6_adds 83 = .ok (.iconst 0, 1) := by decide +kernel
theorem dX6_adds_84 : decode cX6_adds 84 = .ok (.iastore, 1) := by decide +kernel
theorem dX6_adds_85 : decode cX6_adds 85 = .ok (.aload_n 0, 1) := by decide +kernel
theorem dX6_adds_86 : decode cX6_adds 86 = .ok (.getfield 7, 3) := by decide +kernel
theorem dX6_adds_89 : decode cX6_adds 89 = .ok (.iconst 4, 1) := by decide +kernel
theorem dX6_adds_90 : decode cX6_adds 90 = .ok (.aload_n 0, 1) := by decide +kernel
theorem dX6_adds_91 : decode cX6_adds 91 = .ok (.getfield 96, 3) := by decide +kernel
theorem dX6_adds_94 : decode cX6_adds 94 = .ok (.imul, 1) := by decide +kernel
theorem dX6_adds_95 : decode cX6_adds 95 = .ok (.lload_n 1, 1) := by decide +kernel
theorem dX6_adds_96 : decode cX6_adds 96 = .ok (.lastore, 1) := by decide +kernel
theorem dX6_adds_97 : decode cX6_adds 97 = .ok (.aload_n 0, 1) := by decide +kernel
theorem dX6_adds_98 : decode cX6_adds 98 = .ok (.dup, 1) := by decide +kernel
theorem dX6_adds_99 : decode cX6_adds 99 = .ok (.getfield 96, 3) := by decide +kernel
theorem dX6_adds_102 : decode cX6_adds 102 = .ok (.iconst 1, 1) := by decide +kernel
theorem dX6_adds_103 : decode cX6_adds 103 = .ok (.iadd, 1) := by decide +kernel
theorem dX6_adds_104 : decode cX6_adds 104 = .ok (.putfield 96, 3) := by decide +kernel
theorem dX6_adds_107 : decode cX6_adds 107 = .ok (.return_, 1) := by decide +kernel
theorem dX6_changes_0 : decode cX6_changes 0 = .ok (.aload_n 0, 1) := by decide +kernel
theorem dX6_changes_1 : decode cX6_changes 1 = .ok (.iload_n 1, 1) := by decide +kernel
theorem dX6_changes_2 : decode cX6_changes 2 = .ok (.invokevirtual 145, 3) := by decide +kernel
theorem dX6_changes_5 : decode cX6_changes 5 = .ok (.lload_n 2, 1) := by decide +kernel
theorem dX6_changes_6 : decode cX6_changes 6 = .ok (.lcmp, 1) := by decide +kernel
theorem dX6_changes_7 : decode cX6_changes 7 = .ok (.ifCond .ne 4, 3) := by decide +kernel
theorem dX6_changes_10 : decode cX6_changes 10 = .ok (.return_, 1) := by decide +kernel
theorem dX6_changes_11 : decode cX6_changes 11 = .ok (.aload_n 0, 1) := by decide +kernel
theorem dX6_changes_12 : decode cX6_changes 12 = .ok (.iload_n 1, 1) := by decide +kernel
theorem dX6_changes_13 : decode cX6_changes 13 = .ok (.invokevirtual 145, 3) := by decide +kernel
theorem dX6_changes_16 : decode cX6_changes 16 = .ok (.lload_n 2, 1) := by decide +kernel
theorem dX6_changes_17 : decode cX6_changes 17 = .ok (.invokestatic 141, 3) := by decide +kernel
theorem dX6_changes_20 : decode cX6_changes 20 = .ok (.aload_n 0, 1) := by decide +kernel
theorem dX6_changes_21 : decode cX6_changes 21 = .ok (.getfield 87, 3) := by decide +kernel
theorem dX6_changes_24 : decode cX6_changes 24 = .ok (.if_icmp .ge 15, 3) := by decide +kernel
theorem dX6_changes_27 : decode cX6_changes 27 = .ok (.aload_n 0, 1) := by decide +kernel
theorem dX6_changes_28 : decode cX6_changes 28 = .ok (.getfield 32, 3) := by decide +kernel
theorem dX6_changes_31 : decode cX6_changes 31 = .ok (.iload_n 1, 1) := by decide +kernel
theorem dX6_changes_32 : decode cX6_changes 32 = .ok (.aload_n 0, 1) := by decide +kernel
theorem dX6_changes_33 : decode cX6_changes 33 = .ok (.getfield 29, 3) := by decide +kernel
theorem dX6_changes_36 : decode cX6_changes 36 = .ok (.iload_n 1, 1) := by decide +kernel
theorem dX6_changes_37 : decode cX6_changes 37 = .ok (.iaload, 1) := by decide +kernel
theorem dX6_changes_38 : decode cX6_changes 38 = .ok (.iastore, 1) := by decide +kernel
theorem dX6_changes_39 : decode cX6_changes 39 = .ok (.aload_n 0, 1) := by decide +kernel
theorem dX6_changes_40 : decode cX6_changes 40 = .ok (.getfield 29, 3) := by decide +kernel
theorem dX6_changes_43 : decode cX6_changes 43 = .ok (.iload_n 1, 1) := by decide +kernel
theorem dX6_changes_44 : decode cX6_changes 44 = .ok (.dup2, 1) := by decide +kernel
theorem dX6_changes_45 : decode cX6_changes 45 = .ok (.iaload, 1) := by decide +kernel
theorem dX6_changes_46 : decode cX6_changes 46 = .ok (.iconst 1, 1) := by decide +kernel
theorem dX6_changes_47 : decode cX6_changes 47 = .ok (.iadd, 1) := by decide +kernel
theorem dX6_changes_48 : decode cX6_changes 48 = .ok (.iastore, 1) := by decide +kernel
theorem dX6_changes_49 : decode cX6_changes 49 = .ok (.aload_n 0, 1) := by decide +kernel
theorem dX6_changes_50 : decode cX6_changes 50 = .ok (.getfield 7, 3) := by decide +kernel
theorem dX6_changes_53 : decode cX6_changes 53 = .ok (.iconst 4, 1) := by decide +kernel
theorem dX6_changes_54 : decode cX6_changes 54 = .ok (.iload_n 1, 1) := by decide +kernel
theorem dX6_changes_55 : decode cX6_changes 55 = .ok (.imul, 1) := by decide +kernel
theorem dX6_changes_56 : decode cX6_changes 56 = .ok (.aload_n 0, 1) := by decide +kernel
theorem dX6_changes_57 : decode cX6_changes 57 = .ok (.getfield 29, 3) := by decide +kernel
theorem dX6_changes_60 : decode cX6_changes 60 = .ok (.iload_n 1, 1) := by decide +kernel
theorem dX6_changes_61 : decode cX6_changes 61 = .ok (.iaload, 1) := by decide +kernel
theorem dX6_changes_62 : decode cX6_changes 62 = .ok (.iconst 1, 1) := by decide +kernel
theorem dX6_changes_63 : decode cX6_changes 63 = .ok (.isub, 1) := by decide +kernel
theorem dX6_changes_64 : decode cX6_changes 64 = .ok (.iconst 4, 1) := by decide +kernel
theorem dX6_changes_65 : decode cX6_changes 65 = .ok (.irem, 1) := by decide +kernel
theorem dX6_changes_66 : decode cX6_changes 66 = .ok (.iadd, 1) := by decide +kernel
theorem dX6_changes_67 : decode cX6_changes 67 = .ok (.lload_n 2, 1) := by decide +kernel
theorem dX6_changes_68 : decode cX6_changes 68 = .ok (.lastore, 1) := by decide +kernel
theorem dX6_changes_69 : decode cX6_changes 69 = .ok (.return_, 1) := by decide +kernel
theorem dX6_fetch_0 : decode cX6_fetch 0 = .ok (.aload_n 0, 1) := by decide +kernel
theorem dX6_fetch_1 : decode cX6_fetch 1 = .ok (.iload_n 1, 1) := by decide +kernel
theorem dX6_fetch_2 : decode cX6_fetch 2 = .ok (.iconst 0, 1) := by decide +kernel
theorem dX6_fetch_3 : decode cX6_fetch 3 = .ok (.aload_n 0, 1) := by decide +kernel
theorem dX6_fetch_4 : decode cX6_fetch 4 = .ok (.getfield 93, 3) := by decide +kernel
theorem dX6_fetch_7 : decode cX6_fetch 7 = .ok (.iconst 1, 1) := by decide +kernel
theorem dX6_fetch_8 : decode cX6_fetch 8 = .ok (.isub, 1) := by decide +kernel
theorem dX6_fetch_9 : decode cX6_fetch 9 = .ok (.invokestatic 128, 3) := by decide +kernel
theorem dX6_fetch_12 : decode cX6_fetch 12 = .ok (.ifCond .ne 7, 3) := by decide +kernel
theorem dX6_fetch_15 : decode cX6_fetch 15 = .ok (.iconst 1, 1) := by decide +kernel
theorem dX6_fetch_16 : decode cX6_fetch 16 = .ok (.goto 48, 3) := by decide +kernel
theorem dX6_fetch_19 : decode cX6_fetch 19 = .ok (.iload_n 2, 1) := by decide +kernel
theorem dX6_fetch_20 : decode cX6_fetch 20 = .ok (.iconst (-1), 1) := by decide +kernel
theorem dX6_fetch_21 : decode cX6_fetch 21 = .ok (.sipush 999, 3) := by decide +kernel
theorem dX6_fetch_24 : decode cX6_fetch 24 = .ok (.invokestatic 128, 3) := by decide +kernel
theorem dX6_fetch_27 : decode cX6_fetch 27 = .ok (.ifCond .eq 32, 3) := by decide +kernel
theorem dX6_fetch_30 : decode cX6_fetch 30 = .ok (.iload_n 3, 1) := by decide +kernel
theorem dX6_fetch_31 : decode cX6_fetch 31 = .ok (.iconst (-1), 1) := by decide +kernel
theorem dX6_fetch_32 : decode cX6_fetch 32 = .ok (.sipush 999, 3) := by decide +kernel
theorem dX6_fetch_35 : decode cX6_fetch 35 = .ok (.invokestatic 128, 3) := by decide +kernel
theorem dX6_fetch_38 : decode cX6_fetch 38 = .ok (.ifCond .eq 21, 3) := by decide +kernel
theorem dX6_fetch_41 : decode cX6_fetch 41 = .ok (.iload 6, 2) := by decide +kernel
theorem dX6_fetch_43 : decode cX6_fetch 43 = .ok (.iconst (-1), 1) := by decide +kernel
theorem dX6_fetch_44 : decode cX6_fetch 44 = .ok (.ldc 132, 2) := by decide +kernel
theorem dX6_fetch_46 : decode cX6_fetch 46 = .ok (.invokestatic 128, 3) := by decide +kernel
theorem dX6_fetch_49 : decode cX6_fetch 49 = .ok (.ifCond .eq 10, 3) := by decide +kernel
theorem dX6_fetch_52 : decode cX6_fetch 52 = .ok (.lload 4, 2) := by decide +kernel
theorem dX6_fetch_54 : decode cX6_fetch 54 = .ok (.lconst 0, 1) := by decide +kernel
theorem dX6_fetch_55 : decode cX6_fetch 55 = .ok (.lcmp, 1) := by decide +kernel
theorem dX6_fetch_56 : decode cX6_fetch 56 = .ok (.ifCond .ne 7, 3) := by decide +kernel
theorem dX6_fetch_59 : decode cX6_fetch 59 = .ok (.iconst 2, 1) := by decide +kernel
theorem dX6_fetch_60 : decode cX6_fetch 60 = .ok (.goto 4, 3) := by decide +kernel
theorem dX6_fetch_63 : decode cX6_fetch 63 = .ok (.iconst 0, 1) := by decide +kernel
theorem dX6_fetch_64 : decode cX6_fetch 64 = .ok (.putfield 80, 3) := by decide +kernel
theorem dX6_fetch_67 : decode cX6_fetch 67 = .ok (.aload_n 0, 1) := by decide +kernel
theorem dX6_fetch_68 : decode cX6_fetch 68 = .ok (.getfield 80, 3) := by decide +kernel
theorem dX6_fetch_71 : decode cX6_fetch 71 = .ok (.ifCond .le 5, 3) := by decide +kernel
theorem dX6_fetch_74 : decode cX6_fetch 74 = .ok (.iconst 0, 1) := by decide +kernel
theorem dX6_fetch_75 : decode cX6_fetch 75 = .ok (.ireturn, 1) := by decide +kernel
theorem dX6_fetch_76 : decode cX6_fetch 76 = .ok (.aload_n 0, 1) := by decide +kernel
theorem dX6_fetch_77 : decode cX6_fetch 77 = .ok (.iload_n 1, 1) := by decide +kernel
theorem dX6_fetch_78 : decode cX6_fetch 78 = .ok (.iload_n 2, 1) := by decide +kernel
theorem dX6_fetch_79 : decode cX6_fetch 79 = .ok (.iload_n 3, 1) := by decide +kernel
theorem dX6_fetch_80 : decode cX6_fetch 80 = .ok (.lload 4, 2) := by decide +kernel
theorem dX6_fetch_82 : decode cX6_fetch 82 = .ok (.invokevirtual 159, 3) := by decide +kernel
theorem dX6_fetch_85 : decode cX6_fetch 85 = .ok (.istore 7, 2) := by decide +kernel
theorem dX6_fetch_87 : decode cX6_fetch 87 = .ok (.aload_n 0, 1) := by decide +kernel
theorem dX6_fetch_88 : decode cX6_fetch 88 = .ok (.iload 7, 2) := by decide +kernel
theorem dX6_fetch_90 : decode cX6_fetch 90 = .ok (.ifCond .ge 16, 3) := by decide +kernel
theorem dX6_fetch_93 : decode cX6_fetch 93 = .ok (.aload_n 0, 1) := by decide +kernel
theorem dX6_fetch_94 : decode cX6_fetch 94 = .ok (.getfield 96, 3) := by decide +kernel
theorem dX6_fetch_97 : decode cX6_fetch 97 = .ok (.bipush 30, 2) := by decide +kernel
theorem dX6_fetch_99 : decode cX6_fetch 99 = .ok (.if_icmp .ne 7, 3) := by decide +kernel
theorem dX6_fetch_102 : decode cX6_fetch 102 = .ok (.iconst 3, 1) := by decide +kernel
theorem dX6_fetch_103 : decode cX6_fetch 103 = .ok (.goto 4, 3) := by decide +kernel
theorem dX6_fetch_106 : decode cX6_fetch 106 = .ok (.iconst 0, 1) := by decide +kernel
theorem dX6_fetch_107 : decode cX6_fetch 107 = .ok (.putfield 80, 3) := by decide +kernel
theorem dX6_fetch_110 : decode cX6_fetch 110 = .ok (.aload_n 0, 1) := by decide +kernel
theorem dX6_fetch_111 : decode cX6_fetch 111 = .ok (.getfield 80, 3) := by decide +kernel
theorem dX6_fetch_114 : decode cX6_fetch 114 = .ok (.ifCond .le 5, 3) := by decide +kernel
theorem dX6_fetch_117 : decode cX6_fetch 117 = .ok (.iconst 0, 1) := by decide +kernel
theorem dX6_fetch_118 : decode cX6_fetch 118 = .ok (.ireturn, 1) := by decide +kernel
theorem dX6_fetch_119 : decode cX6_fetch 119 = .ok (.iload 7, 2) := by decide +kernel
theorem dX6_fetch_121 : decode cX6_fetch 121 = .ok (.ifCond .ge 20, 3) := by decide +kernel
theorem dX6_fetch_124 : decode cX6_fetch 124 = .ok (.aload_n 0, 1) := by decide +kernel
theorem dX6_fetch_125 : decode cX6_fetch 125 = .ok (.getfield 96, 3) := by decide +kernel
theorem dX6_fetch_128 : decode cX6_fetch 128 = .ok (.istore 7, 2) := by decide +kernel
theorem dX6_fetch_130 : decode cX6_fetch 130 = .ok (.aload_n 0, 1) := by decide +kernel
theorem dX6_fetch_131 : decode cX6_fetch 131 = .ok (.lload 4, 2) := by decide +kernel
theorem dX6_fetch_133 : decode cX6_fetch 133 = .ok (.iload 6, 2) := by decide +kernel
theorem dX6_fetch_135 : decode cX6_fetch 135 = .ok (.invokevirtual 163, 3) := by decide +kernel
theorem dX6_fetch_138 : decode cX6_fetch 138 = .ok (.goto 11, 3) := by decide +kernel
theorem dX6_fetch_141 : decode cX6_fetch 141 = .ok (.aload_n 0, 1) := by decide +kernel
theorem dX6_fetch_142 : decode cX6_fetch 142 = .ok (.iload 7, 2) := by decide +kernel
theorem dX6_fetch_144 : decode cX6_fetch 144 = .ok (.lload 4, 2) := by decide +kernel
theorem dX6_fetch_146 : decode cX6_fetch 146 = .ok (.invokevirtual 167, 3) := by decide +kernel
theorem dX6_fetch_149 : decode cX6_fetch 149 = .ok (.aload_n 0, 1) := by decide +kernel
theorem dX6_fetch_150 : decode cX6_fetch 150 = .ok (.getfield 26, 3) := by decide +kernel
theorem dX6_fetch_153 : decode cX6_fetch 153 = .ok (.iload 7, 2) := by decide +kernel
theorem dX6_fetch_155 : decode cX6_fetch 155 = .ok (.dup2, 1) := by decide +kernel
theorem dX6_fetch_156 : decode cX6_fetch 156 = .ok (.iaload, 1) := by decide +kernel
theorem dX6_fetch_157 : decode cX6_fetch 157 = .ok (.iconst 1, 1) := by decide +kernel
theorem dX6_fetch_158 : decode cX6_fetch 158 = .ok (.iload_n 1, 1) := by decide +kernel
theorem dX6_fetch_159 : decode cX6_fetch 159 = .ok (.ishl, 1) := by decide +kernel
theorem dX6_fetch_160 : decode cX6_fetch 160 = .ok (.ior, 1) := by decide +kernel
theorem dX6_fetch_161 : decode cX6_fetch 161 = .ok (.iastore, 1) := by decide +kernel
theorem dX6_fetch_162 : decode cX6_fetch 162 = .ok (.iload_n 2, 1) := by decide +kernel
theorem dX6_fetch_163 : decode cX6_fetch 163 = .ok (.iconst (-1), 1) := by decide +kernel
theorem dX6_fetch_164 : decode cX6_fetch 164 = .ok (.if_icmp .eq 53, 3) := by decide +kernel
theorem dX6_fetch_167 : decode cX6_fetch 167 = .ok (.aload_n 0, 1) := by decide +kernel
theorem dX6_fetch_168 : decode cX6_fetch 168 = .ok (.iload_n 1, 1) := by decide +kernel
theorem dX6_fetch_169 : decode cX6_fetch 169 = .ok (.iload_n 2, 1) := by decide +kernel
theorem dX6_fetch_170 : decode cX6_fetch 170 = .ok (.invokevirtual 149, 3) := by decide +kernel
theorem dX6_fetch_173 : decode cX6_fetch 173 = .ok (.ifCond .ge 44, 3) := by decide +kernel
theorem dX6_fetch_176 : decode cX6_fetch 176 = .ok (.aload_n 0, 1) := by decide +kernel
theorem dX6_fetch_177 : decode cX6_fetch 177 = .ok (.getfield 35, 3) := by decide +kernel
theorem dX6_fetch_180 : decode cX6_fetch 180 = .ok (.aload_n 0, 1) := by decide +kernel
theorem dX6_fetch_181 : decode cX6_fetch 181 = .ok (.getfield 99, 3) := by decide +kernel
theorem dX6_fetch_184 : decode cX6_fetch 184 = .ok (.iload_n 1, 1) := by decide +kernel
theorem dX6_fetch_185 : decode cX6_fetch 185 = .ok (.iastore, 1) := by decide +kernel
theorem dX6_fetch_186 : decode cX6_fetch 186 = .ok (.aload_n 0, 1) := by decide +kernel
theorem dX6_fetch_187 : decode cX6_fetch 187 = .ok (.getfield 38, 3) := by decide +kernel
theorem dX6_fetch_190 : decode cX6_fetch 190 = .ok (.aload_n 0, 1) := by decide +kernel
theorem dX6_fetch_191 : decode cX6_fetch 191 = .ok (.getfield 99, 3) := by decide +kernel
theorem dX6_fetch_194 : decode cX6_fetch 194 = .ok (.iload_n 2, 1) := by decide +kernel
theorem dX6_fetch_195 : decode cX6_fetch 195 = .ok (.iastore, 1) := by decide +kernel
theorem dX6_fetch_196 : decode cX6_fetch 196 = .ok (.aload_n 0, 1) := by decide +kernel
theorem dX6_fetch_197 : decode cX6_fetch 197 = .ok (.getfield 41, 3) := by decide +kernel
theorem dX6_fetch_200 : decode cX6_fetch 200 = .ok (.aload_n 0, 1) := by decide +kernel
theorem dX6_fetch_201 : decode cX6_fetch 201 = .ok (.getfield 99, 3) := by decide +kernel
theorem dX6_fetch_204 : decode cX6_fetch 204 = .ok (.iload 7, 2) := by decide +kernel
theorem dX6_fetch_206 : decode cX6_fetch 206 = .ok (.iastore, 1) := by decide +kernel
theorem dX6_fetch_207 : decode cX6_fetch 207 = .ok (.aload_n 0, 1) := by decide +kernel
theorem dX6_fetch_208 : decode cX6_fetch 208 = .ok (.dup, 1) := by decide +kernel
theorem dX6_fetch_209 : decode cX6_fetch 209 = .ok (.getfield 99, 3) := by decide +kernel
theorem dX6_fetch_212 : decode cX6_fetch 212 = .ok (.iconst 1, 1) := by decide +kernel
theorem dX6_fetch_213 : decode cX6_fetch 213 = .ok (.iadd, 1) := by decide +kernel
theorem dX6_fetch_214 : decode cX6_fetch 214 = .ok (.putfield 99, 3) := by decide +kernel
theorem dX6_fetch_217 : decode cX6_fetch 217 = .ok (.iload_n 3, 1) := by decide +kernel
theorem dX6_fetch_218 : decode cX6_fetch 218 = .ok (.iconst (-1), 1) := by decide +kernel
theorem dX6_fetch_219 : decode cX6_fetch 219 = .ok (.if_icmp .eq 42, 3) := by decide +kernel
theorem dX6_fetch_222 : decode cX6_fetch 222 = .ok (.aload_n 0, 1) := by decide +kernel
theorem dX6_fetch_223 : decode cX6_fetch 223 = .ok (.iload_n 3, 1) := by decide +kernel
theorem dX6_fetch_224 : decode cX6_fetch 224 = .ok (.invokevirtual 153, 3) := by decide +kernel
theorem dX6_fetch_227 : decode cX6_fetch 227 = .ok (.ifCond .ge 34, 3) := by decide +kernel
theorem dX6_fetch_230 : decode cX6_fetch 230 = .ok (.aload_n 0, 1) := by decide +kernel
theorem dX6_fetch_231 : decode cX6_fetch 231 = .ok (.getfield 44, 3) := by decide +kernel
theorem dX6_fetch_234 : decode cX6_fetch 234 = .ok (.aload_n 0, 1) := by decide +kernel
theorem dX6_fetch_235 : decode cX6_fetch 235 = .ok (.getfield 102, 3) := by decide +kernel
theorem dX6_fetch_238 : decode cX6_fetch 238 = .ok (.iload_n 3, 1) := by decide +kernel
theorem dX6_fetch_239 : decode cX6_fetch 239 = .ok (.iastore, 1) := by decide +kernel
theorem dX6_fetch_240 : decode cX6_fetch 240 = .ok (.aload_n 0, 1) := by decide +kernel
theorem dX6_fetch_241 : decode cX6_fetch 241 = .ok (.getfield 47, 3) := by decide +kernel
theorem dX6_fetch_244 : decode cX6_fetch 244 = .ok (.aload_n 0, 1) := by decide +kernel
theorem dX6_fetch_245 : decode cX6_fetch 245 = .ok (.getfield 102, 3) := by decide +kernel
theorem dX6_fetch_248 : decode cX6_fetch 248 = .ok (.iload 7, 2) := by decide +kernel
theorem dX6_fetch_250 : decode cX6_fetch 250 = .ok (.iastore, 1) := by decide +kernel
theorem dX6_fetch_251 : decode cX6_fetch 251 = .ok (.aload_n 0, 1) := by decide +kernel
theorem dX6_fetch_252 : decode cX6_fetch 252 = .ok (.dup, 1) := by decide +kernel
theorem dX6_fetch_253 : decode cX6_fetch 253 = .ok (.getfield 102, 3) := by decide +kernel
theorem dX6_fetch_256 : decode cX6_fetch 256 = .ok (.iconst 1, 1) := by decide +kernel
theorem dX6_fetch_257 : decode cX6_fetch 257 = .ok (.iadd, 1) := by decide +kernel
theorem dX6_fetch_258 : decode cX6_fetch 258 = .ok (.putfield 102, 3) := by decide +kernel
theorem dX6_fetch_261 : decode cX6_fetch 261 = .ok (.iload 7, 2) := by decide +kernel
theorem dX6_fetch_263 : decode cX6_fetch 263 = .ok (.ireturn, 1) := by decide +kernel
theorem dX6_items_0 : decode cX6_items 0 = .ok (.aload_n 0, 1) := by decide +kernel
theorem dX6_items_1 : decode cX6_items 1 = .ok (.aload_n 0, 1) := by decide +kernel
theorem dX6_items_2 : decode cX6_items 2 = .ok (.getfield 96, 3) := by decide +kernel
theorem dX6_items_5 : decode cX6_items 5 = .ok (.invokevirtual 133, 3) := by decide +kernel
theorem dX6_items_8 : decode cX6_items 8 = .ok (.ireturn, 1) := by decide +kernel
theorem dX6_withIdentifier_0 : decode cX6_withIdentifier 0 = .ok (.aload_n 0, 1) := by decide +kernel
theorem dX6_withIdentifier_1 : decode cX6_withIdentifier 1 = .ok (.aload_n 0, 1) := by decide +kernel
theorem dX6_withIdentifier_2 : decode cX6_withIdentifier 2 = .ok (.iload_n 1, 1) := by decide +kernel
theorem dX6_withIdentifier_3 : decode cX6_withIdentifier 3 = .ok (.iload_n 2, 1) := by decide +kernel
theorem dX6_withIdentifier_4 : decode cX6_withIdentifier 4 = .ok (.invokevirtual 149, 3) := by decide +kernel
theorem dX6_withIdentifier_7 : decode cX6_withIdentifier 7 = .ok (.ifCond .lt 7, 3) := by decide +kernel
theorem dX6_withIdentifier_10 : decode cX6_withIdentifier 10 = .ok (.iconst 1, 1) := by decide +kernel
theorem dX6_withIdentifier_11 : decode cX6_withIdentifier 11 = .ok (.goto 4, 3) := by decide +kernel
theorem dX6_withIdentifier_14 : decode cX6_withIdentifier 14 = .ok (.iconst 0, 1) := by decide +kernel
theorem dX6_withIdentifier_15 : decode cX6_withIdentifier 15 = .ok (.invokevirtual 137, 3) := by decide +kernel
theorem dX6_withIdentifier_18 : decode cX6_withIdentifier 18 = .ok (.ifCond .le 7, 3) := by decide +kernel
theorem dX6_withIdentifier_21 : decode cX6_withIdentifier 21 = .ok (.iconst 0, 1) := by decide +kernel
theorem dX6_withIdentifier_22 : decode cX6_withIdentifier 22 = .ok (.goto 9, 3) := by decide +kernel
theorem dX6_withIdentifier_25 : decode cX6_withIdentifier 25 = .ok (.aload_n 0, 1) := by decide +kernel
theorem dX6_withIdentifier_26 : decode cX6_withIdentifier 26 = .ok (.iload_n 1, 1) := by decide +kernel
theorem dX6_withIdentifier_27 : decode cX6_withIdentifier 27 = .ok (.iload_n 2, 1) := by decide +kernel
theorem dX6_withIdentifier_28 : decode cX6_withIdentifier 28 = .ok (.invokevirtual 149, 3) := by decide +kernel
theorem dX6_withIdentifier_31 : decode cX6_withIdentifier 31 = .ok (.ireturn, 1) := by decide +kernel
theorem dX6_withLink_0 : decode cX6_withLink 0 = .ok (.aload_n 0, 1) := by decide +kernel
theorem dX6_withLink_1 : decode cX6_withLink 1 = .ok (.aload_n 0, 1) := by decide +kernel
theorem dX6_withLink_2 : decode cX6_withLink 2 = .ok (.iload_n 1, 1) := by decide +kernel
theorem dX6_withLink_3 : decode cX6_withLink 3 = .ok (.invokevirtual 153, 3) := by decide +kernel
theorem dX6_withLink_6 : decode cX6_withLink 6 = .ok (.ifCond .lt 7, 3) := by decide +kernel
theorem dX6_withLink_9 : decode cX6_withLink 9 = .ok (.iconst 1, 1) := by decide +kernel
theorem dX6_withLink_10 : decode cX6_withLink 10 = .ok (.goto 4, 3) := by decide +kernel
theorem dX6_withLink_13 : decode cX6_withLink 13 = .ok (.iconst 0, 1) := by decide +kernel
theorem dX6_withLink_14 : decode cX6_withLink 14 = .ok (.invokevirtual 137, 3) := by decide +kernel
theorem dX6_withLink_17 : decode cX6_withLink 17 = .ok (.ifCond .le 7, 3) := by decide +kernel
theorem dX6_withLink_20 : decode cX6_withLink 20 = .ok (.iconst 0, 1) := by decide +kernel
theorem dX6_withLink_21 : decode cX6_withLink 21 = .ok (.goto 8, 3) := by decide +kernel
theorem dX6_withLink_24 : decode cX6_withLink 24 = .ok (.aload_n 0, 1) := by decide +kernel
theorem dX6_withLink_25 : decode cX6_withLink 25 = .ok (.iload_n 1, 1) := by decide +kernel
theorem dX6_withLink_26 : decode cX6_withLink 26 = .ok (.invokevirtual 153, 3) := by decide +kernel
theorem dX6_withLink_29 : decode cX6_withLink 29 = .ok (.ireturn, 1) := by decide +kernel
theorem dX6_isItem_0 : decode cX6_isItem 0 = .ok (.iload_n 1, 1) := by decide +kernel
theorem dX6_isItem_1 : decode cX6_isItem 1 = .ok (.iconst 0, 1) := by decide +kernel
theorem dX6_isItem_2 : decode cX6_isItem 2 = .ok (.aload_n 0, 1) := by decide +kernel
theorem dX6_isItem_3 : decode cX6_isItem 3 = .ok (.getfield 96, 3) := by decide +kernel
theorem dX6_isItem_6 : decode cX6_isItem 6 = .ok (.iconst 1, 1) := by decide +kernel
theorem dX6_isItem_7 : decode cX6_isItem 7 = .ok (.isub, 1) := by decide +kernel
theorem dX6_isItem_8 : decode cX6_isItem 8 = .ok (.invokestatic 128, 3) := by decide +kernel
theorem dX6_isItem_11 : decode cX6_isItem 11 = .ok (.ireturn, 1) := by decide +kernel
theorem dX6_title_0 : decode cX6_title 0 = .ok (.aload_n 0, 1) := by decide +kernel
theorem dX6_title_1 : decode cX6_title 1 = .ok (.aload_n 0, 1) := by decide +kernel
theorem dX6_title_2 : decode cX6_title 2 = .ok (.iload_n 1, 1) := by decide +kernel
theorem dX6_title_3 : decode cX6_title 3 = .ok (.invokevirtual 171, 3) := by decide +kernel
theorem dX6_title_6 : decode cX6_title 6 = .ok (.ifCond .ne 7, 3) := by decide +kernel
theorem dX6_title_9 : decode cX6_title 9 = .ok (.iconst 1, 1) := by decide +kernel
theorem dX6_title_10 : decode cX6_title 10 = .ok (.goto 36, 3) := by decide +kernel
theorem dX6_title_13 : decode cX6_title 13 = .ok (.iload_n 2, 1) := by decide +kernel
theorem dX6_title_14 : decode cX6_title 14 = .ok (.iconst 0, 1) := by decide +kernel
theorem dX6_title_15 : decode cX6_title 15 = .ok (.aload_n 0, 1) := by decide +kernel
theorem dX6_title_16 : decode cX6_title 16 = .ok (.getfield 29, 3) := by decide +kernel
theorem dX6_title_19 : decode cX6_title 19 = .ok (.iload_n 1, 1) := by decide +kernel
theorem dX6_title_20 : decode cX6_title 20 = .ok (.iaload, 1) := by decide +kernel
theorem dX6_title_21 : decode cX6_title 21 = .ok (.iconst 1, 1) := by decide +kernel
theorem dX6_title_22 : decode cX6_title 22 = .ok (.isub, 1) := by decide +kernel
theorem dX6_title_23 : decode cX6_title 23 = .ok (.invokestatic 128, 3) := by decide +kernel
theorem dX6_title_26 : decode cX6_title 26 = .ok (.ifCond .eq 15, 3) := by decide +kernel
theorem dX6_title_29 : decode cX6_title 29 = .ok (.iload_n 2, 1) := by decide +kernel
theorem dX6_title_30 : decode cX6_title 30 = .ok (.aload_n 0, 1) := by decide +kernel
theorem dX6_title_31 : decode cX6_title 31 = .ok (.getfield 29, 3) := by decide +kernel
theorem dX6_title_34 : decode cX6_title 34 = .ok (.iload_n 1, 1) := by decide +kernel
theorem dX6_title_35 : decode cX6_title 35 = .ok (.iaload, 1) := by decide +kernel
theorem dX6_title_36 : decode cX6_title 36 = .ok (.iconst 4, 1) := by decide +kernel
theorem dX6_title_37 : decode cX6_title 37 = .ok (.isub, 1) := by decide +kernel
theorem dX6_title_38 : decode cX6_title 38 = .ok (.if_icmp .ge 7, 3) := by decide +kernel
theorem dX6_title_41 : decode cX6_title 41 = .ok (.iconst 2, 1) := by decide +kernel
theorem dX6_title_42 : decode cX6_title 42 = .ok (.goto 4, 3) := by decide +kernel
theorem dX6_title_45 : decode cX6_title 45 = .ok (.iconst 0, 1) := by decide +kernel
theorem dX6_title_46 : decode cX6_title 46 = .ok (.putfield 80, 3) := by decide +kernel
theorem dX6_title_49 : decode cX6_title 49 = .ok (.aload_n 0, 1) := by decide +kernel
theorem dX6_title_50 : decode cX6_title 50 = .ok (.getfield 80, 3) := by decide +kernel
theorem dX6_title_53 : decode cX6_title 53 = .ok (.ifCond .le 7, 3) := by decide +kernel
theorem dX6_title_56 : decode cX6_title 56 = .ok (.lconst 0, 1) := by decide +kernel
theorem dX6_title_57 : decode cX6_title 57 = .ok (.goto 15, 3) := by decide +kernel
theorem dX6_title_60 : decode cX6_title 60 = .ok (.aload_n 0, 1) := by decide +kernel
theorem dX6_title_61 : decode cX6_title 61 = .ok (.getfield 7, 3) := by decide +kernel
theorem dX6_title_64 : decode cX6_title 64 = .ok (.iconst 4, 1) := by decide +kernel
theorem dX6_title_65 : decode cX6_title 65 = .ok (.iload_n 1, 1) := by decide +kernel
theorem dX6_title_66 : decode cX6_title 66 = .ok (.imul, 1) := by decide +kernel
theorem dX6_title_67 : decode cX6_title 67 = .ok (.iload_n 2, 1) := by decide +kernel
theorem dX6_title_68 : decode cX6_title 68 = .ok (.iconst 4, 1) := by decide +kernel
theorem dX6_title_69 : decode cX6_title 69 = .ok (.irem, 1) := by decide +kernel
theorem dX6_title_70 : decode cX6_title 70 = .ok (.iadd, 1) := by decide +kernel
theorem dX6_title_71 : decode cX6_title 71 = .ok (.laload, 1) := by decide +kernel
theorem dX6_title_72 : decode cX6_title 72 = .ok (.lreturn, 1) := by decide +kernel
theorem dX6_versions_0 : decode cX6_versions 0 = .ok (.aload_n 0, 1) := by decide +kernel
theorem dX6_versions_1 : decode cX6_versions 1 = .ok (.aload_n 0, 1) := by decide +kernel
theorem dX6_versions_2 : decode cX6_versions 2 = .ok (.iload_n 1, 1) := by decide +kernel
theorem dX6_versions_3 : decode cX6_versions 3 = .ok (.invokevirtual 171, 3) := by decide +kernel
theorem dX6_versions_6 : decode cX6_versions 6 = .ok (.invokevirtual 137, 3) := by decide +kernel
theorem dX6_versions_9 : decode cX6_versions 9 = .ok (.ifCond .le 7, 3) := by decide +kernel
theorem dX6_versions_12 : decode cX6_versions 12 = .ok (.iconst 0, 1) := by decide +kernel
theorem dX6_versions_13 : decode cX6_versions 13 = .ok (.goto 9, 3) := by decide +kernel
theorem dX6_versions_16 : decode cX6_versions 16 = .ok (.aload_n 0, 1) := by decide +kernel
theorem dX6_versions_17 : decode cX6_versions 17 = .ok (.getfield 29, 3) := by decide +kernel
theorem dX6_versions_20 : decode cX6_versions 20 = .ok (.iload_n 1, 1) := by decide +kernel
theorem dX6_versions_21 : decode cX6_versions 21 = .ok (.iaload, 1) := by decide +kernel
theorem dX6_versions_22 : decode cX6_versions 22 = .ok (.ireturn, 1) := by decide +kernel
theorem dX6_latestMajor_0 : decode cX6_latestMajor 0 = .ok (.aload_n 0, 1) := by decide +kernel
theorem dX6_latestMajor_1 : decode cX6_latestMajor 1 = .ok (.aload_n 0, 1) := by decide +kernel
theorem dX6_latestMajor_2 : decode cX6_latestMajor 2 = .ok (.iload_n 1, 1) := by decide +kernel
theorem dX6_latestMajor_3 : decode cX6_latestMajor 3 = .ok (.invokevirtual 171, 3) := by decide +kernel
theorem dX6_latestMajor_6 : decode cX6_latestMajor 6 = .ok (.invokevirtual 137, 3) := by decide +kernel
theorem dX6_latestMajor_9 : decode cX6_latestMajor 9 = .ok (.ifCond .le 7, 3) := by decide +kernel
theorem dX6_latestMajor_12 : decode cX6_latestMajor 12 = .ok (.iconst 0, 1) := by decide +kernel
theorem dX6_latestMajor_13 : decode cX6_latestMajor 13 = .ok (.goto 9, 3) := by decide +kernel
theorem dX6_latestMajor_16 : decode cX6_latestMajor 16 = .ok (.aload_n 0, 1) := by decide +kernel
theorem dX6_latestMajor_17 : decode cX6_latestMajor 17 = .ok (.getfield 32, 3) := by decide +kernel
theorem dX6_latestMajor_20 : decode cX6_latestMajor 20 = .ok (.iload_n 1, 1) := by decide +kernel
theorem dX6_latestMajor_21 : decode cX6_latestMajor 21 = .ok (.iaload, 1) := by decide +kernel
theorem dX6_latestMajor_22 : decode cX6_latestMajor 22 = .ok (.ireturn, 1) := by decide +kernel
theorem dX6_sourcesOf_0 : decode cX6_sourcesOf 0 = .ok (.aload_n 0, 1) := by decide +kernel
theorem dX6_sourcesOf_1 : decode cX6_sourcesOf 1 = .ok (.aload_n 0, 1) := by decide +kernel
theorem dX6_sourcesOf_2 : decode cX6_sourcesOf 2 = .ok (.iload_n 1, 1) := by decide +kernel
theorem dX6_sourcesOf_3 : decode cX6_sourcesOf 3 = .ok (.invokevirtual 171, 3) := by decide +kernel
theorem dX6_sourcesOf_6 : decode cX6_sourcesOf 6 = .ok (.invokevirtual 137, 3) := by decide +kernel
theorem dX6_sourcesOf_9 : decode cX6_sourcesOf 9 = .ok (.ifCond .le 7, 3) := by decide +kernel
theorem dX6_sourcesOf_12 : decode cX6_sourcesOf 12 = .ok (.iconst 0, 1) := by decide +kernel
theorem dX6_sourcesOf_13 : decode cX6_sourcesOf 13 = .ok (.goto 9, 3) := by decide +kernel
theorem dX6_sourcesOf_16 : decode cX6_sourcesOf 16 = .ok (.aload_n 0, 1) := by decide +kernel
theorem dX6_sourcesOf_17 : decode cX6_sourcesOf 17 = .ok (.getfield 26, 3) := by decide +kernel
theorem dX6_sourcesOf_20 : decode cX6_sourcesOf 20 = .ok (.iload_n 1, 1) := by decide +kernel
theorem dX6_sourcesOf_21 : decode cX6_sourcesOf 21 = .ok (.iaload, 1) := by decide +kernel
theorem dX6_sourcesOf_22 : decode cX6_sourcesOf 22 = .ok (.ireturn, 1) := by decide +kernel
theorem dX6_timeOf_0 : decode cX6_timeOf 0 = .ok (.aload_n 0, 1) := by decide +kernel
theorem dX6_timeOf_1 : decode cX6_timeOf 1 = .ok (.aload_n 0, 1) := by decide +kernel
theorem dX6_timeOf_2 : decode cX6_timeOf 2 = .ok (.iload_n 1, 1) := by decide +kernel
theorem dX6_timeOf_3 : decode cX6_timeOf 3 = .ok (.invokevirtual 171, 3) := by decide +kernel
theorem dX6_timeOf_6 : decode cX6_timeOf 6 = .ok (.invokevirtual 137, 3) := by decide +kernel
theorem dX6_timeOf_9 : decode cX6_timeOf 9 = .ok (.ifCond .le 7, 3) := by decide +kernel
theorem dX6_timeOf_12 : decode cX6_timeOf 12 = .ok (.iconst 0, 1) := by decide +kernel
theorem dX6_timeOf_13 : decode cX6_timeOf 13 = .ok (.goto 9, 3) := by decide +kernel
theorem dX6_timeOf_16 : decode cX6_timeOf 16 = .ok (.aload_n 0, 1) := by decide +kernel
theorem dX6_timeOf_17 : decode cX6_timeOf 17 = .ok (.getfield 23, 3) := by decide +kernel
theorem dX6_timeOf_20 : decode cX6_timeOf 20 = .ok (.iload_n 1, 1) := by decide +kernel
theorem dX6_timeOf_21 : decode cX6_timeOf 21 = .ok (.iaload, 1) := by decide +kernel
theorem dX6_timeOf_22 : decode cX6_timeOf 22 = .ok (.ireturn, 1) := by decide +kernel
theorem dX6_addRule_0 : decode cX6_addRule 0 = .ok (.aload_n 0, 1) := by decide +kernel
theorem dX6_addRule_1 : decode cX6_addRule 1 = .ok (.iload 5, 2) := by decide +kernel
theorem dX6_addRule_3 : decode cX6_addRule 3 = .ok (.iconst 0, 1) := by decide +kernel
theorem dX6_addRule_4 : decode cX6_addRule 4 = .ok (.bipush 63, 2) := by decide +kernel
theorem dX6_addRule_6 : decode cX6_addRule 6 = .ok (.invokestatic 128, 3) := by decide +kernel
theorem dX6_addRule_9 : decode cX6_addRule 9 = .ok (.ifCond .eq 25, 3) := by decide +kernel
theorem dX6_addRule_12 : decode cX6_addRule 12 = .ok (.iload 6, 2) := by decide +kernel
theorem dX6_addRule_14 : decode cX6_addRule 14 = .ok (.iconst (-1), 1) := by decide +kernel
theorem dX6_addRule_15 : decode cX6_addRule 15 = .ok (.bipush 7, 2) := by decide +kernel
theorem dX6_addRule_17 : decode cX6_addRule 17 = .ok (.invokestatic 128, 3) := by decide +kernel
theorem dX6_addRule_20 : decode cX6_addRule 20 = .ok (.ifCond .eq 14, 3) := by decide +kernel
theorem dX6_addRule_23 : decode cX6_addRule 23 = .ok (.iload 7, 2) := by decide +kernel
theorem dX6_addRule_25 : decode cX6_addRule 25 = .ok (.iconst 0, 1) := by decide +kernel
theorem dX6_addRule_26 : decode cX6_addRule 26 = .ok (.bipush 9, 2) := by decide +kernel
theorem dX6_addRule_28 : decode cX6_addRule 28 = .ok (.invokestatic 128, 3) := by decide +kernel
theorem dX6_addRule_31 : decode cX6_addRule 31 = .ok (.ifCond .ne 7, 3) := by decide +kernel
theorem dX6_addRule_34 : decode cX6_addRule 34 = .ok (.iconst 1, 1) := by decide +kernel
theorem dX6_addRule_35 : decode cX6_addRule 35 = .ok (.goto 17, 3) := by decide +kernel
theorem dX6_addRule_38 : decode cX6_addRule 38 = .ok (.aload_n 0, 1) := by decide +kernel
theorem dX6_addRule_39 : decode cX6_addRule 39 = .ok (.getfield 105, 3) := by decide +kernel
theorem dX6_addRule_42 : decode cX6_addRule 42 = .ok (.bipush 6, 2) := by decide +kernel
theorem dX6_addRule_44 : decode cX6_addRule 44 = .ok (.if_icmp .ne 7, 3) := by decide +kernel
theorem dX6_addRule_47 : decode cX6_addRule 47 = .ok (.iconst 2, 1) := by decide +kernel
theorem dX6_addRule_48 : decode cX6_addRule 48 = .ok (.goto 4, 3) := by decide +kernel
theorem dX6_addRule_51 : decode cX6_addRule 51 = .ok (.iconst 0, 1) := by decide +kernel
theorem dX6_addRule_52 : decode cX6_addRule 52 = .ok (.putfield 80, 3) := by decide +kernel
theorem dX6_addRule_55 : decode cX6_addRule 55 = .ok (.aload_n 0, 1) := by decide +kernel
theorem dX6_addRule_56 : decode cX6_addRule 56 = .ok (.getfield 80, 3) := by decide +kernel
theorem dX6_addRule_59 : decode cX6_addRule 59 = .ok (.ifCond .le 5, 3) := by decide +kernel
theorem dX6_addRule_62 : decode cX6_addRule 62 = .ok (.iconst 0, 1) := by decide +kernel
theorem dX6_addRule_63 : decode cX6_addRule 63 = .ok (.ireturn, 1) := by decide +kernel
theorem dX6_addRule_64 : decode cX6_addRule 64 = .ok (.aload_n 0, 1) := by decide +kernel
theorem dX6_addRule_65 : decode cX6_addRule 65 = .ok (.getfield 13, 3) := by decide +kernel
theorem dX6_addRule_68 : decode cX6_addRule 68 = .ok (.aload_n 0, 1) := by decide +kernel
theorem dX6_addRule_69 : decode cX6_addRule 69 = .ok (.getfield 105, 3) := by decide +kernel
theorem dX6_addRule_72 : decode cX6_addRule 72 = .ok (.lload_n 1, 1) := by decide +kernel
theorem dX6_addRule_73 : decode cX6_addRule 73 = .ok (.lastore, 1) := by decide +kernel
theorem dX6_addRule_74 : decode cX6_addRule 74 = .ok (.aload_n 0, 1) := by decide +kernel
theorem dX6_addRule_75 : decode cX6_addRule 75 = .ok (.getfield 16, 3) := by decide +kernel
theorem dX6_addRule_78 : decode cX6_addRule 78 = .ok (.aload_n 0, 1) := by decide +kernel
theorem dX6_addRule_79 : decode cX6_addRule 79 = .ok (.getfield 105, 3) := by decide +kernel
theorem dX6_addRule_82 : decode cX6_addRule 82 = .ok (.lload_n 3, 1) := by decide +kernel
theorem dX6_addRule_83 : decode cX6_addRule 83 = .ok (.lastore, 1) := by decide +kernel
theorem dX6_addRule_84 : decode cX6_addRule 84 = .ok (.aload_n 0, 1) := by decide +kernel
theorem dX6_addRule_85 : decode cX6_addRule 85 = .ok (.getfield 50, 3) := by decide +kernel
theorem dX6_addRule_88 : decode cX6_addRule 88 = .ok (.aload_n 0, 1) := by decide +kernel
theorem dX6_addRule_89 : decode cX6_addRule 89 = .ok (.getfield 105, 3) := by decide +kernel
theorem dX6_addRule_92 : decode cX6_addRule 92 = .ok (.iload 5, 2) := by decide +kernel
theorem dX6_addRule_94 : decode cX6_addRule 94 = .ok (.iastore, 1) := by decide +kernel
theorem dX6_addRule_95 : decode cX6_addRule 95 = .ok (.aload_n 0, 1) := by decide +kernel
theorem dX6_addRule_96 : decode cX6_addRule 96 = .ok (.getfield 53, 3) := by decide +kernel
theorem dX6_addRule_99 : decode cX6_addRule 99 = .ok (.aload_n 0, 1) := by decide +kernel
theorem dX6_addRule_100 : decode cX6_addRule 100 = .ok (.getfield 105, 3) := by decide +kernel
theorem dX6_addRule_103 : decode cX6_addRule 103 = .ok (.iload 6, 2) := by decide +kernel
theorem dX6_addRule_105 : decode cX6_addRule 105 = .ok (.iastore, 1) := by decide +kernel
theorem dX6_addRule_106 : decode cX6_addRule 106 = .ok (.aload_n 0, 1) := by decide +kernel
theorem dX6_addRule_107 : decode cX6_addRule 107 = .ok (.getfield 56, 3) := by decide +kernel
theorem dX6_addRule_110 : decode cX6_addRule 110 = .ok (.aload_n 0, 1) := by decide +kernel
theorem dX6_addRule_111 : decode cX6_addRule 111 = .ok (.getfield 105, 3) := by decide +kernel
theorem dX6_addRule_114 : decode cX6_addRule 114 = .ok (.iload 7, 2) := by decide +kernel
theorem dX6_addRule_116 : decode cX6_addRule 116 = .ok (.iastore, 1) := by decide +kernel
theorem dX6_addRule_117 : decode cX6_addRule 117 = .ok (.aload_n 0, 1) := by decide +kernel
theorem dX6_addRule_118 : decode cX6_addRule 118 = .ok (.dup, 1) := by decide +kernel
theorem dX6_addRule_119 : decode cX6_addRule 119 = .ok (.getfield 105, 3) := by decide +kernel
theorem dX6_addRule_122 : decode cX6_addRule 122 = .ok (.iconst 1, 1) := by decide +kernel
theorem dX6_addRule_123 : decode cX6_addRule 123 = .ok (.iadd, 1) := by decide +kernel
theorem dX6_addRule_124 : decode cX6_addRule 124 = .ok (.putfield 105, 3) := by decide +kernel
theorem dX6_addRule_127 : decode cX6_addRule 127 = .ok (.aload_n 0, 1) := by decide +kernel
theorem dX6_addRule_128 : decode cX6_addRule 128 = .ok (.getfield 105, 3) := by decide +kernel
theorem dX6_addRule_131 : decode cX6_addRule 131 = .ok (.iconst 1, 1) := by decide +kernel
theorem dX6_addRule_132 : decode cX6_addRule 132 = .ok (.isub, 1) := by decide +kernel
theorem dX6_addRule_133 : decode cX6_addRule 133 = .ok (.ireturn, 1) := by decide +kernel
theorem dX6_dropRule_0 : decode cX6_dropRule 0 = .ok (.aload_n 0, 1) := by decide +kernel
theorem dX6_dropRule_1 : decode cX6_dropRule 1 = .ok (.iload_n 1, 1) := by decide +kernel
theorem dX6_dropRule_2 : decode cX6_dropRule 2 = .ok (.iconst 0, 1) := by decide +kernel
theorem dX6_dropRule_3 : decode cX6_dropRule 3 = .ok (.aload_n 0, 1) := by decide +kernel
theorem dX6_dropRule_4 : decode cX6_dropRule 4 = .ok (.getfield 105, 3) := by decide +kernel
theorem dX6_dropRule_7 : decode cX6_dropRule 7 = .ok (.iconst 1, 1) := by decide +kernel
theorem dX6_dropRule_8 : decode cX6_dropRule 8 = .ok (.isub, 1) := by decide +kernel
theorem dX6_dropRule_9 : decode cX6_dropRule 9 = .ok (.invokestatic 128, 3) := by decide +kernel
theorem dX6_dropRule_12 : decode cX6_dropRule 12 = .ok (.invokevirtual 137, 3) := by decide +kernel
theorem dX6_dropRule_15 : decode cX6_dropRule 15 = .ok (.ifCond .le 5, 3) := by decide +kernel
theorem dX6_dropRule_18 : decode cX6_dropRule 18 = .ok (.iconst 0, 1) := by decide +kernel
theorem dX6_dropRule_19 : decode cX6_dropRule 19 = .ok (.ireturn, 1) := by decide +kernel
theorem dX6_dropRule_20 : decode cX6_dropRule 20 = .ok (.aload_n 0, 1) := by decide +kernel
theorem dX6_dropRule_21 : decode cX6_dropRule 21 = .ok (.dup, 1) := by decide +kernel
theorem dX6_dropRule_22 : decode cX6_dropRule 22 = .ok (.getfield 105, 3) := by decide +kernel
theorem dX6_dropRule_25 : decode cX6_dropRule 25 = .ok (.iconst 1, 1) := by decide +kernel
theorem dX6_dropRule_26 : decode cX6_dropRule 26 = .ok (.isub, 1) := by decide +kernel
theorem dX6_dropRule_27 : decode cX6_dropRule 27 = .ok (.putfield 105, 3) := by decide +kernel
theorem dX6_dropRule_30 : decode cX6_dropRule 30 = .ok (.iload_n 1, 1) := by decide +kernel
theorem dX6_dropRule_31 : decode cX6_dropRule 31 = .ok (.istore_n 2, 1) := by decide +kernel
theorem dX6_dropRule_32 : decode cX6_dropRule 32 = .ok (.iload_n 2, 1) := by decide +kernel
theorem dX6_dropRule_33 : decode cX6_dropRule 33 = .ok (.aload_n 0, 1) := by decide +kernel
theorem dX6_dropRule_34 : decode cX6_dropRule 34 = .ok (.getfield 105, 3) := by decide +kernel
theorem dX6_dropRule_37 : decode cX6_dropRule 37 = .ok (.if_icmp .ge 79, 3) := by decide +kernel
theorem dX6_dropRule_40 : decode cX6_dropRule 40 = .ok (.aload_n 0, 1) := by decide +kernel
theorem dX6_dropRule_41 : decode cX6_dropRule 41 = .ok (.getfield 13, 3) := by decide +kernel
theorem dX6_dropRule_44 : decode cX6_dropRule 44 = .ok (.iload_n 2, 1) := by decide +kernel
theorem dX6_dropRule_45 : decode cX6_dropRule 45 = .ok (.aload_n 0, 1) := by decide +kernel
theorem dX6_dropRule_46 : decode cX6_dropRule 46 = .ok (.getfield 13, 3) := by decide +kernel
theorem dX6_dropRule_49 : decode cX6_dropRule 49 = .ok (.iload_n 2, 1) := by decide +kernel
theorem dX6_dropRule_50 : decode cX6_dropRule 50 = .ok (.iconst 1, 1) := by decide +kernel
theorem dX6_dropRule_51 : decode cX6_dropRule 51 = .ok (.iadd, 1) := by decide +kernel
theorem dX6_dropRule_52 : decode cX6_dropRule 52 = .ok (.laload, 1) := by decide +kernel
theorem dX6_dropRule_53 : decode cX6_dropRule 53 = .ok (.lastore, 1) := by decide +kernel
theorem dX6_dropRule_54 : decode cX6_dropRule 54 = .ok (.aload_n 0, 1) := by decide +kernel
theorem dX6_dropRule_55 : decode cX6_dropRule 55 = .ok (.getfield 16, 3) := by decide +kernel
theorem dX6_dropRule_58 : decode cX6_dropRule 58 = .ok (.iload_n 2, 1) := by decide +kernel
theorem dX6_dropRule_59 : decode cX6_dropRule 59 = .ok (.aload_n 0, 1) := by decide +kernel
theorem dX6_dropRule_60 : decode cX6_dropRule 60 = .ok (.getfield 16, 3) := by decide +kernel
theorem dX6_dropRule_63 : decode cX6_dropRule 63 = .ok (.iload_n 2, 1) := by decide +kernel
theorem dX6_dropRule_64 : decode cX6_dropRule 64 = .ok (.iconst 1, 1) := by decide +kernel
theorem dX6_dropRule_65 : decode cX6_dropRule 65 = .ok (.iadd, 1) := by decide +kernel
theorem dX6_dropRule_66 : decode cX6_dropRule 66 = .ok (.laload, 1) := by decide +kernel
theorem dX6_dropRule_67 : decode cX6_dropRule 67 = .ok (.lastore, 1) := by decide +kernel
theorem dX6_dropRule_68 : decode cX6_dropRule 68 = .ok (.aload_n 0, 1) := by decide +kernel
theorem dX6_dropRule_69 : decode cX6_dropRule 69 = .ok (.getfield 50, 3) := by decide +kernel
theorem dX6_dropRule_72 : decode cX6_dropRule 72 = .ok (.iload_n 2, 1) := by decide +kernel
theorem dX6_dropRule_73 : decode cX6_dropRule 73 = .ok (.aload_n 0, 1) := by decide +kernel
theorem dX6_dropRule_74 : decode cX6_dropRule 74 = .ok (.getfield 50, 3) := by decide +kernel
theorem dX6_dropRule_77 : decode cX6_dropRule 77 = .ok (.iload_n 2, 1) := by decide +kernel
theorem dX6_dropRule_78 : decode cX6_dropRule 78 = .ok (.iconst 1, 1) := by decide +kernel
theorem dX6_dropRule_79 : decode cX6_dropRule 79 = .ok (.iadd, 1) := by decide +kernel
theorem dX6_dropRule_80 : decode cX6_dropRule 80 = .ok (.iaload, 1) := by decide +kernel
theorem dX6_dropRule_81 : decode cX6_dropRule 81 = .ok (.iastore, 1) := by decide +kernel
theorem dX6_dropRule_82 : decode cX6_dropRule 82 = .ok (.aload_n 0, 1) := by decide +kernel
theorem dX6_dropRule_83 : decode cX6_dropRule 83 = .ok (.getfield 53, 3) := by decide +kernel
theorem dX6_dropRule_86 : decode cX6_dropRule 86 = .ok (.iload_n 2, 1) := by decide +kernel
theorem dX6_dropRule_87 : decode cX6_dropRule 87 = .ok (.aload_n 0, 1) := by decide +kernel
theorem dX6_dropRule_88 : decode cX6_dropRule 88 = .ok (.getfield 53, 3) := by decide +kernel
theorem dX6_dropRule_91 : decode cX6_dropRule 91 = .ok (.iload_n 2, 1) := by decide +kernel
theorem dX6_dropRule_92 : decode cX6_dropRule 92 = .ok (.iconst 1, 1) := by decide +kernel
theorem dX6_dropRule_93 : decode cX6_dropRule 93 = .ok (.iadd, 1) := by decide +kernel
theorem dX6_dropRule_94 : decode cX6_dropRule 94 = .ok (.iaload, 1) := by decide +kernel
theorem dX6_dropRule_95 : decode cX6_dropRule 95 = .ok (.iastore, 1) := by decide +kernel
theorem dX6_dropRule_96 : decode cX6_dropRule 96 = .ok (.aload_n 0, 1) := by decide +kernel
theorem dX6_dropRule_97 : decode cX6_dropRule 97 = .ok (.getfield 56, 3) := by decide +kernel
theorem dX6_dropRule_100 : decode cX6_dropRule 100 = .ok (.iload_n 2, 1) := by decide +kernel
theorem dX6_dropRule_101 : decode cX6_dropRule 101 = .ok (.aload_n 0, 1) := by decide +kernel
theorem dX6_dropRule_102 : decode cX6_dropRule 102 = .ok (.getfield 56, 3) := by decide +kernel
theorem dX6_dropRule_105 : decode cX6_dropRule 105 = .ok (.iload_n 2, 1) := by decide +kernel
theorem dX6_dropRule_106 : decode cX6_dropRule 106 = .ok (.iconst 1, 1) := by decide +kernel
theorem dX6_dropRule_107 : decode cX6_dropRule 107 = .ok (.iadd, 1) := by decide +kernel
theorem dX6_dropRule_108 : decode cX6_dropRule 108 = .ok (.iaload, 1) := by decide +kernel
theorem dX6_dropRule_109 : decode cX6_dropRule 109 = .ok (.iastore, 1) := by decide +kernel
theorem dX6_dropRule_110 : decode cX6_dropRule 110 = .ok (.iinc 2 1, 3) := by decide +kernel
theorem dX6_dropRule_113 : decode cX6_dropRule 113 = .ok (.goto (-81), 3) := by decide +kernel
theorem dX6_dropRule_116 : decode cX6_dropRule 116 = .ok (.aload_n 0, 1) := by decide +kernel
theorem dX6_dropRule_117 : decode cX6_dropRule 117 = .ok (.getfield 105, 3) := by decide +kernel
theorem dX6_dropRule_120 : decode cX6_dropRule 120 = .ok (.ireturn, 1) := by decide +kernel
theorem dX6_holds_0 : decode cX6_holds 0 = .ok (.aload_n 0, 1) := by decide +kernel
theorem dX6_holds_1 : decode cX6_holds 1 = .ok (.iload_n 2, 1) := by decide +kernel
theorem dX6_holds_2 : decode cX6_holds 2 = .ok (.invokevirtual 145, 3) := by decide +kernel
theorem dX6_holds_5 : decode cX6_holds 5 = .ok (.lstore_n 3, 1) := by decide +kernel
theorem dX6_holds_6 : decode cX6_holds 6 = .ok (.lload_n 3, 1) := by decide +kernel
theorem dX6_holds_7 : decode cX6_holds 7 = .ok (.aload_n 0, 1) := by decide +kernel
theorem dX6_holds_8 : decode cX6_holds 8 = .ok (.getfield 13, 3) := by decide +kernel
theorem dX6_holds_11 : decode cX6_holds 11 = .ok (.iload_n 1, 1) := by decide +kernel
theorem dX6_holds_12 : decode cX6_holds 12 = .ok (.laload, 1) := by decide +kernel
theorem dX6_holds_13 : decode cX6_holds 13 = .ok (.land, 1) := by decide +kernel
theorem dX6_holds_14 : decode cX6_holds 14 = .ok (.aload_n 0, 1) := by decide +kernel
theorem dX6_holds_15 : decode cX6_holds 15 = .ok (.getfield 13, 3) := by decide +kernel
theorem dX6_holds_18 : decode cX6_holds 18 = .ok (.iload_n 1, 1) := by decide +kernel
theorem dX6_holds_19 : decode cX6_holds 19 = .ok (.laload, 1) := by decide +kernel
theorem dX6_holds_20 : decode cX6_holds 20 = .ok (.lcmp, 1) := by decide +kernel
theorem dX6_holds_21 : decode cX6_holds 21 = .ok (.ifCond .ne 31, 3) := by decide +kernel
theorem dX6_holds_24 : decode cX6_holds 24 = .ok (.aload_n 0, 1) := by decide +kernel
theorem dX6_holds_25 : decode cX6_holds 25 = .ok (.getfield 16, 3) := by decide +kernel
theorem dX6_holds_28 : decode cX6_holds 28 = .ok (.iload_n 1, 1) := by decide +kernel
theorem dX6_holds_29 : decode cX6_holds 29 = .ok (.laload, 1) := by decide +kernel
theorem dX6_holds_30 : decode cX6_holds 30 = .ok (.lconst 0, 1) := by decide +kernel
theorem dX6_holds_31 : decode cX6_holds 31 = .ok (.lcmp, 1) := by decide +kernel
theorem dX6_holds_32 : decode cX6_holds 32 = .ok (.ifCond .eq 16, 3) := by decide +kernel
theorem dX6_holds_35 : decode cX6_holds 35 = .ok (.lload_n 3, 1) := by decide +kernel
theorem dX6_holds_36 : decode cX6_holds 36 = .ok (.aload_n 0, 1) := by decide +kernel
theorem dX6_holds_37 : decode cX6_holds 37 = .ok (.getfield 16, 3) := by decide +kernel
theorem dX6_holds_40 : decode cX6_holds 40 = .ok (.iload_n 1, 1) := by decide +kernel
theorem dX6_holds_41 : decode cX6_holds 41 = .ok (.laload, 1) := by decide +kernel
theorem dX6_holds_42 : decode cX6_holds 42 = .ok (.land, 1) := by decide +kernel
theorem dX6_holds_43 : decode cX6_holds 43 = .ok (.lconst 0, 1) := by decide +kernel
theorem dX6_holds_44 : decode cX6_holds 44 = .ok (.lcmp, 1) := by decide +kernel
theorem dX6_holds_45 : decode cX6_holds 45 = .ok (.ifCond .eq 7, 3) := by decide +kernel
theorem dX6_holds_48 : decode cX6_holds 48 = .ok (.iconst 1, 1) := by decide +kernel
theorem dX6_holds_49 : decode cX6_holds 49 = .ok (.goto 4, 3) := by decide +kernel
theorem dX6_holds_52 : decode cX6_holds 52 = .ok (.iconst 0, 1) := by decide +kernel
theorem dX6_holds_53 : decode cX6_holds 53 = .ok (.istore 5, 2) := by decide +kernel
theorem dX6_holds_55 : decode cX6_holds 55 = .ok (.aload_n 0, 1) := by decide +kernel
theorem dX6_holds_56 : decode cX6_holds 56 = .ok (.getfield 50, 3) := by decide +kernel
theorem dX6_holds_59 : decode cX6_holds 59 = .ok (.iload_n 1, 1) := by decide +kernel
theorem dX6_holds_60 : decode cX6_holds 60 = .ok (.iaload, 1) := by decide +kernel
theorem dX6_holds_61 : decode cX6_holds 61 = .ok (.ifCond .eq 19, 3) := by decide +kernel
theorem dX6_holds_64 : decode cX6_holds 64 = .ok (.aload_n 0, 1) := by decide +kernel
theorem dX6_holds_65 : decode cX6_holds 65 = .ok (.getfield 26, 3) := by decide +kernel
theorem dX6_holds_68 : decode cX6_holds 68 = .ok (.iload_n 2, 1) := by decide +kernel
theorem dX6_holds_69 : decode cX6_holds 69 = .ok (.iaload, 1) := by decide +kernel
theorem dX6_holds_70 : decode cX6_holds 70 = .ok (.aload_n 0, 1) := by decide +kernel
theorem dX6_holds_71 : decode cX6_holds 71 = .ok (.getfield 50, 3) := by decide +kernel
theorem dX6_holds_74 : decode cX6_holds 74 = .ok (.iload_n 1, 1) := by decide +kernel
theorem dX6_holds_75 : decode cX6_holds 75 = .ok (.iaload, 1) := by decide +kernel
theorem dX6_holds_76 : decode cX6_holds 76 = .ok (.iand, 1) := by decide +kernel
theorem dX6_holds_77 : decode cX6_holds 77 = .ok (.ifCond .eq 7, 3) := by decide +kernel
theorem dX6_holds_80 : decode cX6_holds 80 = .ok (.iconst 1, 1) := by decide +kernel
theorem dX6_holds_81 : decode cX6_holds 81 = .ok (.goto 4, 3) := by decide +kernel
theorem dX6_holds_84 : decode cX6_holds 84 = .ok (.iconst 0, 1) := by decide +kernel
theorem dX6_holds_85 : decode cX6_holds 85 = .ok (.istore 6, 2) := by decide +kernel
theorem dX6_holds_87 : decode cX6_holds 87 = .ok (.iload 5, 2) := by decide +kernel
theorem dX6_holds_89 : decode cX6_holds 89 = .ok (.ifCond .eq 39, 3) := by decide +kernel
theorem dX6_holds_92 : decode cX6_holds 92 = .ok (.iload 6, 2) := by decide +kernel
theorem dX6_holds_94 : decode cX6_holds 94 = .ok (.ifCond .eq 34, 3) := by decide +kernel
theorem dX6_holds_97 : decode cX6_holds 97 = .ok (.aload_n 0, 1) := by decide +kernel
theorem dX6_holds_98 : decode cX6_holds 98 = .ok (.getfield 53, 3) := by decide +kernel
theorem dX6_holds_101 : decode cX6_holds 101 = .ok (.iload_n 1, 1) := by decide +kernel
theorem dX6_holds_102 : decode cX6_holds 102 = .ok (.iaload, 1) := by decide +kernel
theorem dX6_holds_103 : decode cX6_holds 103 = .ok (.iconst (-1), 1) := by decide +kernel
theorem dX6_holds_104 : decode cX6_holds 104 = .ok (.if_icmp .eq 20, 3) := by decide +kernel
theorem dX6_holds_107 : decode cX6_holds 107 = .ok (.aload_n 0, 1) := by decide +kernel
theorem dX6_holds_108 : decode cX6_holds 108 = .ok (.getfield 114, 3) := by decide +kernel
theorem dX6_holds_111 : decode cX6_holds 111 = .ok (.aload_n 0, 1) := by decide +kernel
theorem dX6_holds_112 : decode cX6_holds 112 = .ok (.getfield 53, 3) := by decide +kernel
theorem dX6_holds_115 : decode cX6_holds 115 = .ok (.iload_n 1, 1) := by decide +kernel
theorem dX6_holds_116 : decode cX6_holds 116 = .ok (.iaload, 1) := by decide +kernel
theorem dX6_holds_117 : decode cX6_holds 117 = .ok (.ishr, 1) := by decide +kernel
theorem dX6_holds_118 : decode cX6_holds 118 = .ok (.iconst 1, 1) := by decide +kernel
theorem dX6_holds_119 : decode cX6_holds 119 = .ok (.iand, 1) := by decide +kernel
theorem dX6_holds_120 : decode cX6_holds 120 = .ok (.iconst 1, 1) := by decide +kernel
theorem dX6_holds_121 : decode cX6_holds 121 = .ok (.if_icmp .ne 7, 3) := by decide +kernel
theorem dX6_holds_124 : decode cX6_holds 124 = .ok (.iconst 1, 1) := by decide +kernel
theorem dX6_holds_125 : decode cX6_holds 125 = .ok (.goto 4, 3) := by decide +kernel
theorem dX6_holds_128 : decode cX6_holds 128 = .ok (.iconst 0, 1) := by decide +kernel
theorem dX6_holds_129 : decode cX6_holds 129 = .ok (.ireturn, 1) := by decide +kernel
theorem dX6_goes_0 : decode cX6_goes 0 = .ok (.aload_n 0, 1) := by decide +kernel
theorem dX6_goes_1 : decode cX6_goes 1 = .ok (.iconst 0, 1) := by decide +kernel
theorem dX6_goes_2 : decode cX6_goes 2 = .ok (.putfield 114, 3) := by decide +kernel
theorem dX6_goes_5 : decode cX6_goes 5 = .ok (.aload_n 0, 1) := by decide +kernel
theorem dX6_goes_6 : decode cX6_goes 6 = .ok (.iconst 0, 1) := by decide +kernel
theorem dX6_goes_7 : decode cX6_goes 7 = .ok (.putfield 120, 3) := by decide +kernel
theorem dX6_goes_10 : decode cX6_goes 10 = .ok (.aload_n 0, 1) := by decide +kernel
theorem dX6_goes_11 : decode cX6_goes 11 = .ok (.iconst 0, 1) := by decide +kernel
theorem dX6_goes_12 : decode cX6_goes 12 = .ok (.putfield 117, 3) := by decide +kernel
theorem dX6_goes_15 : decode cX6_goes 15 = .ok (.iconst 0, 1) := by decide +kernel
theorem dX6_goes_16 : decode cX6_goes 16 = .ok (.istore_n 2, 1) := by decide +kernel
theorem dX6_goes_17 : decode cX6_goes 17 = .ok (.iload_n 2, 1) := by decide +kernel
theorem dX6_goes_18 : decode cX6_goes 18 = .ok (.aload_n 0, 1) := by decide +kernel
theorem dX6_goes_19 : decode cX6_goes 19 = .ok (.getfield 105, 3) := by decide +kernel
theorem dX6_goes_22 : decode cX6_goes 22 = .ok (.if_icmp .ge 84, 3) := by decide +kernel
theorem dX6_goes_25 : decode cX6_goes 25 = .ok (.aload_n 0, 1) := by decide +kernel
theorem dX6_goes_26 : decode cX6_goes 26 = .ok (.iload_n 2, 1) := by decide +kernel
theorem dX6_goes_27 : decode cX6_goes 27 = .ok (.iload_n 1, 1) := by decide +kernel
theorem dX6_goes_28 : decode cX6_goes 28 = .ok (.invokevirtual 175, 3) := by decide +kernel
theorem dX6_goes_31 : decode cX6_goes 31 = .ok (.ifCond .ne 6, 3) := by decide +kernel
theorem dX6_goes_34 : decode cX6_goes 34 = .ok (.goto 66, 3) := by decide +kernel
theorem dX6_goes_37 : decode cX6_goes 37 = .ok (.aload_n 0, 1) := by decide +kernel
theorem dX6_goes_38 : decode cX6_goes 38 = .ok (.dup, 1) := by decide +kernel
theorem dX6_goes_39 : decode cX6_goes 39 = .ok (.getfield 117, 3) := by decide +kernel
theorem dX6_goes_42 : decode cX6_goes 42 = .ok (.iconst 1, 1) := by decide +kernel
theorem dX6_goes_43 : decode cX6_goes 43 = .ok (.iload_n 2, 1) := by decide +kernel
theorem dX6_goes_44 : decode cX6_goes 44 = .ok (.ishl, 1) := by decide +kernel
theorem dX6_goes_45 : decode cX6_goes 45 = .ok (.ior, 1) := by decide +kernel
theorem dX6_goes_46 : decode cX6_goes 46 = .ok (.putfield 117, 3) := by decide +kernel
theorem dX6_goes_49 : decode cX6_goes 49 = .ok (.aload_n 0, 1) := by decide +kernel
theorem dX6_goes_50 : decode cX6_goes 50 = .ok (.getfield 56, 3) := by decide +kernel
theorem dX6_goes_53 : decode cX6_goes 53 = .ok (.iload_n 2, 1) := by decide +kernel
theorem dX6_goes_54 : decode cX6_goes 54 = .ok (.iaload, 1) := by decide +kernel
theorem dX6_goes_55 : decode cX6_goes 55 = .ok (.bipush 8, 2) := by decide +kernel
theorem dX6_goes_57 : decode cX6_goes 57 = .ok (.if_icmp .ge 23, 3) := by decide +kernel
theorem dX6_goes_60 : decode cX6_goes 60 = .ok (.aload_n 0, 1) := by decide +kernel
theorem dX6_goes_61 : decode cX6_goes 61 = .ok (.dup, 1) := by decide +kernel
theorem dX6_goes_62 : decode cX6_goes 62 = .ok (.getfield 114, 3) := by decide +kernel
theorem dX6_goes_65 : decode cX6_goes 65 = .ok (.iconst 1, 1) := by decide +kernel
theorem dX6_goes_66 : decode cX6_goes 66 = .ok (.aload_n 0, 1) := by decide +kernel
theorem dX6_goes_67 : decode cX6_goes 67 = .ok (.getfield 56, 3) := by decide +kernel
theorem dX6_goes_70 : decode cX6_goes 70 = .ok (.iload_n 2, 1) := by decide +kernel
theorem dX6_goes_71 : decode cX6_goes 71 = .ok (.iaload, 1) := by decide +kernel
theorem dX6_goes_72 : decode cX6_goes 72 = .ok (.ishl, 1) := by decide +kernel
theorem dX6_goes_73 : decode cX6_goes 73 = .ok (.ior, 1) := by decide +kernel
theorem dX6_goes_74 : decode cX6_goes 74 = .ok (.putfield 114, 3) := by decide +kernel
theorem dX6_goes_77 : decode cX6_goes 77 = .ok (.goto 23, 3) := by decide +kernel
theorem dX6_goes_80 : decode cX6_goes 80 = .ok (.aload_n 0, 1) := by decide +kernel
theorem dX6_goes_81 : decode cX6_goes 81 = .ok (.aload_n 0, 1) := by decide +kernel
theorem dX6_goes_82 : decode cX6_goes 82 = .ok (.getfield 56, 3) := by decide +kernel
theorem dX6_goes_85 : decode cX6_goes 85 = .ok (.iload_n 2, 1) := by decide +kernel
theorem dX6_goes_86 : decode cX6_goes 86 = .ok (.iaload, 1) := by decide +kernel
theorem dX6_goes_87 : decode cX6_goes 87 = .ok (.bipush 8, 2) := by decide +kernel
theorem dX6_goes_89 : decode cX6_goes 89 = .ok (.if_icmp .ne 7, 3) := by decide +kernel
theorem dX6_goes_92 : decode cX6_goes 92 = .ok (.iconst 1, 1) := by decide +kernel
theorem dX6_goes_93 : decode cX6_goes 93 = .ok (.goto 4, 3) := by decide +kernel
theorem dX6_goes_96 : decode cX6_goes 96 = .ok (.iconst 0, 1) := by decide +kernel
theorem dX6_goes_97 : decode cX6_goes 97 = .ok (.putfield 120, 3) := by decide +kernel
theorem dX6_goes_100 : decode cX6_goes 100 = .ok (.iinc 2 1, 3) := by decide +kernel
theorem dX6_goes_103 : decode cX6_goes 103 = .ok (.goto (-86), 3) := by decide +kernel
theorem dX6_goes_106 : decode cX6_goes 106 = .ok (.return_, 1) := by decide +kernel
theorem dX6_tagsOf_0 : decode cX6_tagsOf 0 = .ok (.aload_n 0, 1) := by decide +kernel
theorem dX6_tagsOf_1 : decode cX6_tagsOf 1 = .ok (.aload_n 0, 1) := by decide +kernel
theorem dX6_tagsOf_2 : decode cX6_tagsOf 2 = .ok (.iload_n 1, 1) := by decide +kernel
theorem dX6_tagsOf_3 : decode cX6_tagsOf 3 = .ok (.invokevirtual 171, 3) := by decide +kernel
theorem dX6_tagsOf_6 : decode cX6_tagsOf 6 = .ok (.invokevirtual 137, 3) := by decide +kernel
theorem dX6_tagsOf_9 : decode cX6_tagsOf 9 = .ok (.ifCond .le 5, 3) := by decide +kernel
theorem dX6_tagsOf_12 : decode cX6_tagsOf 12 = .ok (.iconst 0, 1) := by decide +kernel
theorem dX6_tagsOf_13 : decode cX6_tagsOf 13 = .ok (.ireturn, 1) := by decide +kernel
theorem dX6_tagsOf_14 : decode cX6_tagsOf 14 = .ok (.aload_n 0, 1) := by decide +kernel
theorem dX6_tagsOf_15 : decode cX6_tagsOf 15 = .ok (.iload_n 1, 1) := by decide +kernel
theorem dX6_tagsOf_16 : decode cX6_tagsOf 16 = .ok (.invokevirtual 179, 3) := by decide +kernel
theorem dX6_tagsOf_19 : decode cX6_tagsOf 19 = .ok (.aload_n 0, 1) := by decide +kernel
theorem dX6_tagsOf_20 : decode cX6_tagsOf 20 = .ok (.getfield 114, 3) := by decide +kernel
theorem dX6_tagsOf_23 : decode cX6_tagsOf 23 = .ok (.ireturn, 1) := by decide +kernel
theorem dX6_isHidden_0 : decode cX6_isHidden 0 = .ok (.aload_n 0, 1) := by decide +kernel
theorem dX6_isHidden_1 : decode cX6_isHidden 1 = .ok (.aload_n 0, 1) := by decide +kernel
theorem dX6_isHidden_2 : decode cX6_isHidden 2 = .ok (.iload_n 1, 1) := by decide +kernel
theorem dX6_isHidden_3 : decode cX6_isHidden 3 = .ok (.invokevirtual 171, 3) := by decide +kernel
theorem dX6_isHidden_6 : decode cX6_isHidden 6 = .ok (.invokevirtual 137, 3) := by decide +kernel
theorem dX6_isHidden_9 : decode cX6_isHidden 9 = .ok (.ifCond .le 5, 3) := by decide +kernel
theorem dX6_isHidden_12 : decode cX6_isHidden 12 = .ok (.iconst 0, 1) := by decide +kernel
theorem dX6_isHidden_13 : decode cX6_isHidden 13 = .ok (.ireturn, 1) := by decide +kernel
theorem dX6_isHidden_14 : decode cX6_isHidden 14 = .ok (.aload_n 0, 1) := by decide +kernel
theorem dX6_isHidden_15 : decode cX6_isHidden 15 = .ok (.iload_n 1, 1) := by decide +kernel
theorem dX6_isHidden_16 : decode cX6_isHidden 16 = .ok (.invokevirtual 179, 3) := by decide +kernel
theorem dX6_isHidden_19 : decode cX6_isHidden 19 = .ok (.aload_n 0, 1) := by decide +kernel
theorem dX6_isHidden_20 : decode cX6_isHidden 20 = .ok (.getfield 120, 3) := by decide +kernel
theorem dX6_isHidden_23 : decode cX6_isHidden 23 = .ok (.ireturn, 1) := by decide +kernel
theorem dX6_matches_0 : decode cX6_matches 0 = .ok (.aload_n 0, 1) := by decide +kernel
theorem dX6_matches_1 : decode cX6_matches 1 = .ok (.iload_n 1, 1) := by decide +kernel
theorem dX6_matches_2 : decode cX6_matches 2 = .ok (.iconst 0, 1) := by decide +kernel
theorem dX6_matches_3 : decode cX6_matches 3 = .ok (.aload_n 0, 1) := by decide +kernel
theorem dX6_matches_4 : decode cX6_matches 4 = .ok (.getfield 105, 3) := by decide +kernel
theorem dX6_matches_7 : decode cX6_matches 7 = .ok (.iconst 1, 1) := by decide +kernel
theorem dX6_matches_8 : decode cX6_matches 8 = .ok (.isub, 1) := by decide +kernel
theorem dX6_matches_9 : decode cX6_matches 9 = .ok (.invokestatic 128, 3) := by decide +kernel
theorem dX6_matches_12 : decode cX6_matches 12 = .ok (.invokevirtual 137, 3) := by decide +kernel
theorem dX6_matches_15 : decode cX6_matches 15 = .ok (.ifCond .le 5, 3) := by decide +kernel
theorem dX6_matches_18 : decode cX6_matches 18 = .ok (.iconst 0, 1) := by decide +kernel
theorem dX6_matches_19 : decode cX6_matches 19 = .ok (.ireturn, 1) := by decide +kernel
theorem dX6_matches_20 : decode cX6_matches 20 = .ok (.iconst 0, 1) := by decide +kernel
theorem dX6_matches_21 : decode cX6_matches 21 = .ok (.istore_n 2, 1) := by decide +kernel
theorem dX6_matches_22 : decode cX6_matches 22 = .ok (.iconst 0, 1) := by decide +kernel
theorem dX6_matches_23 : decode cX6_matches 23 = .ok (.istore_n 3, 1) := by decide +kernel
theorem dX6_matches_24 : decode cX6_matches 24 = .ok (.iload_n 3, 1) := by decide +kernel
theorem dX6_matches_25 : decode cX6_matches 25 = .ok (.aload_n 0, 1) := by decide +kernel
theorem dX6_matches_26 : decode cX6_matches 26 = .ok (.getfield 96, 3) := by decide +kernel
theorem dX6_matches_29 : decode cX6_matches 29 = .ok (.if_icmp .ge 25, 3) := by decide +kernel
theorem dX6_matches_32 : decode cX6_matches 32 = .ok (.aload_n 0, 1) := by decide +kernel
theorem dX6_matches_33 : decode cX6_matches 33 = .ok (.iload_n 3, 1) := by decide +kernel
theorem dX6_matches_34 : decode cX6_matches 34 = .ok (.invokevirtual 179, 3) := by decide +kernel
theorem dX6_matches_37 : decode cX6_matches 37 = .ok (.iload_n 2, 1) := by decide +kernel
theorem dX6_matches_38 : decode cX6_matches 38 = .ok (.aload_n 0, 1) := by decide +kernel
theorem dX6_matches_39 : decode cX6_matches 39 = .ok (.getfield 117, 3) := by decide +kernel
theorem dX6_matches_42 : decode cX6_matches 42 = .ok (.iload_n 1, 1) := by decide +kernel
theorem dX6_matches_43 : decode cX6_matches 43 = .ok (.ishr, 1) := by decide +kernel
theorem dX6_matches_44 : decode cX6_matches 44 = .ok (.iconst 1, 1) := by decide +kernel
theorem dX6_matches_45 : decode cX6_matches 45 = .ok (.iand, 1) := by decide +kernel
theorem dX6_matches_46 : decode cX6_matches 46 = .ok (.iadd, 1) := by decide +kernel
theorem dX6_matches_47 : decode cX6_matches 47 = .ok (.istore_n 2, 1) := by decide +kernel
theorem dX6_matches_48 : decode cX6_matches 48 = .ok (.iinc 3 1, 3) := by decide +kernel
theorem dX6_matches_51 : decode cX6_matches 51 = .ok (.goto (-27), 3) := by decide +kernel
theorem dX6_matches_54 : decode cX6_matches 54 = .ok (.iload_n 2, 1) := by decide +kernel
theorem dX6_matches_55 : decode cX6_matches 55 = .ok (.ireturn, 1) := by decide +kernel
theorem dX6_addRiver_0 : decode cX6_addRiver 0 = .ok (.aload_n 0, 1) := by decide +kernel
theorem dX6_addRiver_1 : decode cX6_addRiver 1 = .ok (.iload_n 1, 1) := by decide +kernel
theorem dX6_addRiver_2 : decode cX6_addRiver 2 = .ok (.iconst 1, 1) := by decide +kernel
theorem dX6_addRiver_3 : decode cX6_addRiver 3 = .ok (.bipush 63, 2) := by decide +kernel
theorem dX6_addRiver_5 : decode cX6_addRiver 5 = .ok (.invokestatic 128, 3) := by decide +kernel
theorem dX6_addRiver_8 : decode cX6_addRiver 8 = .ok (.ifCond .eq 13, 3) := by decide +kernel
theorem dX6_addRiver_11 : decode cX6_addRiver 11 = .ok (.iload_n 2, 1) := by decide +kernel
theorem dX6_addRiver_12 : decode cX6_addRiver 12 = .ok (.iconst (-1), 1) := by decide +kernel
theorem dX6_addRiver_13 : decode cX6_addRiver 13 = .ok (.bipush 7, 2) := by decide +kernel
theorem dX6_addRiver_15 : decode cX6_addRiver 15 = .ok (.invokestatic 128, 3) := by decide +kernel
theorem dX6_addRiver_18 : decode cX6_addRiver 18 = .ok (.ifCond .ne 7, 3) := by decide +kernel
theorem dX6_addRiver_21 : decode cX6_addRiver 21 = .ok (.iconst 1, 1) := by decide +kernel
theorem dX6_addRiver_22 : decode cX6_addRiver 22 = .ok (.goto 16, 3) := by decide +kernel
theorem dX6_addRiver_25 : decode cX6_addRiver 25 = .ok (.aload_n 0, 1) := by decide +kernel
theorem dX6_addRiver_26 : decode cX6_addRiver 26 = .ok (.getfield 108, 3) := by decide +kernel
theorem dX6_addRiver_29 : decode cX6_addRiver 29 = .ok (.iconst 4, 1) := by decide +kernel
theorem dX6_addRiver_30 : decode cX6_addRiver 30 = .ok (.if_icmp .ne 7, 3) := by decide +kernel
theorem dX6_addRiver_33 : decode cX6_addRiver 33 = .ok (.iconst 2, 1) := by decide +kernel
theorem dX6_addRiver_34 : decode cX6_addRiver 34 = .ok (.goto 4, 3) := by decide +kernel
theorem dX6_addRiver_37 : decode cX6_addRiver 37 = .ok (.iconst 0, 1) := by decide +kernel
theorem dX6_addRiver_38 : decode cX6_addRiver 38 = .ok (.putfield 80, 3) := by decide +kernel
theorem dX6_addRiver_41 : decode cX6_addRiver 41 = .ok (.aload_n 0, 1) := by decide +kernel
theorem dX6_addRiver_42 : decode cX6_addRiver 42 = .ok (.getfield 80, 3) := by decide +kernel
theorem dX6_addRiver_45 : decode cX6_addRiver 45 = .ok (.ifCond .le 5, 3) := by decide +kernel
theorem dX6_addRiver_48 : decode cX6_addRiver 48 = .ok (.iconst 0, 1) := by decide +kernel
theorem dX6_addRiver_49 : decode cX6_addRiver 49 = .ok (.ireturn, 1) := by decide +kernel
theorem dX6_addRiver_50 : decode cX6_addRiver 50 = .ok (.aload_n 0, 1) := by decide +kernel
theorem dX6_addRiver_51 : decode cX6_addRiver 51 = .ok (.getfield 59, 3) := by decide +kernel
theorem dX6_addRiver_54 : decode cX6_addRiver 54 = .ok (.aload_n 0, 1) := by decide +kernel
theorem dX6_addRiver_55 : decode cX6_addRiver 55 = .ok (.getfield 108, 3) := by decide +kernel
theorem dX6_addRiver_58 : decode cX6_addRiver 58 = .ok (.iload_n 1, 1) := by decide +kernel
theorem dX6_addRiver_59 : decode cX6_addRiver 59 = .ok (.iastore, 1) := by decide +kernel
theorem dX6_addRiver_60 : decode cX6_addRiver 60 = .ok (.aload_n 0, 1) := by decide +kernel
theorem dX6_addRiver_61 : decode cX6_addRiver 61 = .ok (.getfield 62, 3) := by decide +kernel
theorem dX6_addRiver_64 : decode cX6_addRiver 64 = .ok (.aload_n 0, 1) := by decide +kernel
theorem dX6_addRiver_65 : decode cX6_addRiver 65 = .ok (.getfield 108, 3) := by decide +kernel
theorem dX6_addRiver_68 : decode cX6_addRiver 68 = .ok (.iload_n 2, 1) := by decide +kernel
theorem dX6_addRiver_69 : decode cX6_addRiver 69 = .ok (.iastore, 1) := by decide +kernel
theorem dX6_addRiver_70 : decode cX6_addRiver 70 = .ok (.aload_n 0, 1) := by decide +kernel
theorem dX6_addRiver_71 : decode cX6_addRiver 71 = .ok (.dup, 1) := by decide +kernel
theorem dX6_addRiver_72 : decode cX6_addRiver 72 = .ok (.getfield 108, 3) := by decide +kernel
theorem dX6_addRiver_75 : decode cX6_addRiver 75 = .ok (.iconst 1, 1) := by decide +kernel
theorem dX6_addRiver_76 : decode cX6_addRiver 76 = .ok (.iadd, 1) := by decide +kernel
theorem dX6_addRiver_77 : decode cX6_addRiver 77 = .ok (.putfield 108, 3) := by decide +kernel
theorem dX6_addRiver_80 : decode cX6_addRiver 80 = .ok (.aload_n 0, 1) := by decide +kernel
theorem dX6_addRiver_81 : decode cX6_addRiver 81 = .ok (.getfield 108, 3) := by decide +kernel
theorem dX6_addRiver_84 : decode cX6_addRiver 84 = .ok (.iconst 1, 1) := by decide +kernel
theorem dX6_addRiver_85 : decode cX6_addRiver 85 = .ok (.isub, 1) := by decide +kernel
theorem dX6_addRiver_86 : decode cX6_addRiver 86 = .ok (.ireturn, 1) := by decide +kernel
theorem dX6_isRiver_0 : decode cX6_isRiver 0 = .ok (.iload_n 1, 1) := by decide +kernel
theorem dX6_isRiver_1 : decode cX6_isRiver 1 = .ok (.iconst 0, 1) := by decide +kernel
theorem dX6_isRiver_2 : decode cX6_isRiver 2 = .ok (.aload_n 0, 1) := by decide +kernel
theorem dX6_isRiver_3 : decode cX6_isRiver 3 = .ok (.getfield 108, 3) := by decide +kernel
theorem dX6_isRiver_6 : decode cX6_isRiver 6 = .ok (.iconst 1, 1) := by decide +kernel
theorem dX6_isRiver_7 : decode cX6_isRiver 7 = .ok (.isub, 1) := by decide +kernel
theorem dX6_isRiver_8 : decode cX6_isRiver 8 = .ok (.invokestatic 128, 3) := by decide +kernel
theorem dX6_isRiver_11 : decode cX6_isRiver 11 = .ok (.ireturn, 1) := by decide +kernel
theorem dX6_shows_0 : decode cX6_shows 0 = .ok (.aload_n 0, 1) := by decide +kernel
theorem dX6_shows_1 : decode cX6_shows 1 = .ok (.iload_n 2, 1) := by decide +kernel
theorem dX6_shows_2 : decode cX6_shows 2 = .ok (.invokevirtual 179, 3) := by decide +kernel
theorem dX6_shows_5 : decode cX6_shows 5 = .ok (.aload_n 0, 1) := by decide +kernel
theorem dX6_shows_6 : decode cX6_shows 6 = .ok (.getfield 120, 3) := by decide +kernel
theorem dX6_shows_9 : decode cX6_shows 9 = .ok (.ifCond .ne 50, 3) := by decide +kernel
theorem dX6_shows_12 : decode cX6_shows 12 = .ok (.aload_n 0, 1) := by decide +kernel
theorem dX6_shows_13 : decode cX6_shows 13 = .ok (.getfield 26, 3) := by decide +kernel
theorem dX6_shows_16 : decode cX6_shows 16 = .ok (.iload_n 2, 1) := by decide +kernel
theorem dX6_shows_17 : decode cX6_shows 17 = .ok (.iaload, 1) := by decide +kernel
theorem dX6_shows_18 : decode cX6_shows 18 = .ok (.aload_n 0, 1) := by decide +kernel
theorem dX6_shows_19 : decode cX6_shows 19 = .ok (.getfield 59, 3) := by decide +kernel
theorem dX6_shows_22 : decode cX6_shows 22 = .ok (.iload_n 1, 1) := by decide +kernel
theorem dX6_shows_23 : decode cX6_shows 23 = .ok (.iaload, 1) := by decide +kernel
theorem dX6_shows_24 : decode cX6_shows 24 = .ok (.iand, 1) := by decide +kernel
theorem dX6_shows_25 : decode cX6_shows 25 = .ok (.ifCond .eq 34, 3) := by decide +kernel
theorem dX6_shows_28 : decode cX6_shows 28 = .ok (.aload_n 0, 1) := by decide +kernel
theorem dX6_shows_29 : decode cX6_shows 29 = .ok (.getfield 62, 3) := by decide +kernel
theorem dX6_shows_32 : decode cX6_shows 32 = .ok (.iload_n 1, 1) := by decide +kernel
theorem dX6_shows_33 : decode cX6_shows 33 = .ok (.iaload, 1) := by decide +kernel
theorem dX6_shows_34 : decode cX6_shows 34 = .ok (.iconst (-1), 1) := by decide +kernel
theorem dX6_shows_35 : decode cX6_shows 35 = .ok (.if_icmp .eq 20, 3) := by decide +kernel
theorem dX6_shows_38 : decode cX6_shows 38 = .ok (.aload_n 0, 1) := by decide +kernel
theorem dX6_shows_39 : decode cX6_shows 39 = .ok (.getfield 114, 3) := by decide +kernel
theorem dX6_shows_42 : decode cX6_shows 42 = .ok (.aload_n 0, 1) := by decide +kernel
theorem dX6_shows_43 : decode cX6_shows 43 = .ok (.getfield 62, 3) := by decide +kernel
theorem dX6_shows_46 : decode cX6_shows 46 = .ok (.iload_n 1, 1) := by decide +kernel
theorem dX6_shows_47 : decode cX6_shows 47 = .ok (.iaload, 1) := by decide +kernel
theorem dX6_shows_48 : decode cX6_shows 48 = .ok (.ishr, 1) := by decide +kernel
theorem dX6_shows_49 : decode cX6_shows 49 = .ok (.iconst 1, 1) := by decide +kernel
theorem dX6_shows_50 : decode cX6_shows 50 = .ok (.iand, 1) := by decide +kernel
theorem dX6_shows_51 : decode cX6_shows 51 = .ok (.iconst 1, 1) := by decide +kernel
theorem dX6_shows_52 : decode cX6_shows 52 = .ok (.if_icmp .ne 7, 3) := by decide +kernel
theorem dX6_shows_55 : decode cX6_shows 55 = .ok (.iconst 1, 1) := by decide +kernel
theorem dX6_shows_56 : decode cX6_shows 56 = .ok (.goto 4, 3) := by decide +kernel
theorem dX6_shows_59 : decode cX6_shows 59 = .ok (.iconst 0, 1) := by decide +kernel
theorem dX6_shows_60 : decode cX6_shows 60 = .ok (.ireturn, 1) := by decide +kernel
theorem dX6_sizeOf_0 : decode cX6_sizeOf 0 = .ok (.iconst 0, 1) := by decide +kernel
theorem dX6_sizeOf_1 : decode cX6_sizeOf 1 = .ok (.istore_n 2, 1) := by decide +kernel
theorem dX6_sizeOf_2 : decode cX6_sizeOf 2 = .ok (.iconst 0, 1) := by decide +kernel
theorem dX6_sizeOf_3 : decode cX6_sizeOf 3 = .ok (.istore_n 3, 1) := by decide +kernel
theorem dX6_sizeOf_4 : decode cX6_sizeOf 4 = .ok (.iload_n 3, 1) := by decide +kernel
theorem dX6_sizeOf_5 : decode cX6_sizeOf 5 = .ok (.aload_n 0, 1) := by decide +kernel
theorem dX6_sizeOf_6 : decode cX6_sizeOf 6 = .ok (.getfield 96, 3) := by decide +kernel
theorem dX6_sizeOf_9 : decode cX6_sizeOf 9 = .ok (.if_icmp .ge 26, 3) := by decide +kernel
theorem dX6_sizeOf_12 : decode cX6_sizeOf 12 = .ok (.iload_n 2, 1) := by decide +kernel
theorem dX6_sizeOf_13 : decode cX6_sizeOf 13 = .ok (.aload_n 0, 1) := by decide +kernel
theorem dX6_sizeOf_14 : decode cX6_sizeOf 14 = .ok (.iload_n 1, 1) := by decide +kernel
theorem dX6_sizeOf_15 : decode cX6_sizeOf 15 = .ok (.iload_n 3, 1) := by decide +kernel
theorem dX6_sizeOf_16 : decode cX6_sizeOf 16 = .ok (.invokevirtual 183, 3) := by decide +kernel
theorem dX6_sizeOf_19 : decode cX6_sizeOf 19 = .ok (.ifCond .eq 7, 3) := by decide +kernel
theorem dX6_sizeOf_22 : decode cX6_sizeOf 22 = .ok (.iconst 1, 1) := by decide +kernel
theorem dX6_sizeOf_23 : decode cX6_sizeOf 23 = .ok (.goto 4, 3) := by decide +kernel
theorem dX6_sizeOf_26 : decode cX6_sizeOf 26 = .ok (.iconst 0, 1) := by decide +kernel
theorem dX6_sizeOf_27 : decode cX6_sizeOf 27 = .ok (.iadd, 1) := by decide +kernel
theorem dX6_sizeOf_28 : decode cX6_sizeOf 28 = .ok (.istore_n 2, 1) := by decide +kernel
theorem dX6_sizeOf_29 : decode cX6_sizeOf 29 = .ok (.iinc 3 1, 3) := by decide +kernel
theorem dX6_sizeOf_32 : decode cX6_sizeOf 32 = .ok (.goto (-28), 3) := by decide +kernel
theorem dX6_sizeOf_35 : decode cX6_sizeOf 35 = .ok (.iload_n 2, 1) := by decide +kernel
theorem dX6_sizeOf_36 : decode cX6_sizeOf 36 = .ok (.ireturn, 1) := by decide +kernel
theorem dX6_riverSize_0 : decode cX6_riverSize 0 = .ok (.aload_n 0, 1) := by decide +kernel
theorem dX6_riverSize_1 : decode cX6_riverSize 1 = .ok (.aload_n 0, 1) := by decide +kernel
theorem dX6_riverSize_2 : decode cX6_riverSize 2 = .ok (.iload_n 1, 1) := by decide +kernel
theorem dX6_riverSize_3 : decode cX6_riverSize 3 = .ok (.invokevirtual 186, 3) := by decide +kernel
theorem dX6_riverSize_6 : decode cX6_riverSize 6 = .ok (.invokevirtual 137, 3) := by decide +kernel
theorem dX6_riverSize_9 : decode cX6_riverSize 9 = .ok (.ifCond .le 7, 3) := by decide +kernel
theorem dX6_riverSize_12 : decode cX6_riverSize 12 = .ok (.iconst 0, 1) := by decide +kernel
theorem dX6_riverSize_13 : decode cX6_riverSize 13 = .ok (.goto 8, 3) := by decide +kernel
theorem dX6_riverSize_16 : decode cX6_riverSize 16 = .ok (.aload_n 0, 1) := by decide +kernel
theorem dX6_riverSize_17 : decode cX6_riverSize 17 = .ok (.iload_n 1, 1) := by decide +kernel
theorem dX6_riverSize_18 : decode cX6_riverSize 18 = .ok (.invokevirtual 189, 3) := by decide +kernel
theorem dX6_riverSize_21 : decode cX6_riverSize 21 = .ok (.ireturn, 1) := by decide +kernel
theorem dX6_ahead_0 : decode cX6_ahead 0 = .ok (.iconst 0, 1) := by decide +kernel
theorem dX6_ahead_1 : decode cX6_ahead 1 = .ok (.istore_n 3, 1) := by decide +kernel
theorem dX6_ahead_2 : decode cX6_ahead 2 = .ok (.iconst 0, 1) := by decide +kernel
theorem dX6_ahead_3 : decode cX6_ahead 3 = .ok (.istore 4, 2) := by decide +kernel
theorem dX6_ahead_5 : decode cX6_ahead 5 = .ok (.iload 4, 2) := by decide +kernel
theorem dX6_ahead_7 : decode cX6_ahead 7 = .ok (.aload_n 0, 1) := by decide +kernel
theorem dX6_ahead_8 : decode cX6_ahead 8 = .ok (.getfield 96, 3) := by decide +kernel
theorem dX6_ahead_11 : decode cX6_ahead 11 = .ok (.if_icmp .ge 77, 3) := by decide +kernel
theorem dX6_ahead_14 : decode cX6_ahead 14 = .ok (.aload_n 0, 1) := by decide +kernel
theorem dX6_ahead_15 : decode cX6_ahead 15 = .ok (.getfield 23, 3) := by decide +kernel
theorem dX6_ahead_18 : decode cX6_ahead 18 = .ok (.iload 4, 2) := by decide +kernel
theorem dX6_ahead_20 : decode cX6_ahead 20 = .ok (.iaload, 1) := by decide +kernel
theorem dX6_ahead_21 : decode cX6_ahead 21 = .ok (.aload_n 0, 1) := by decide +kernel
theorem dX6_ahead_22 : decode cX6_ahead 22 = .ok (.getfield 23, 3) := by decide +kernel
theorem dX6_ahead_25 : decode cX6_ahead 25 = .ok (.iload_n 2, 1) := by decide +kernel
theorem dX6_ahead_26 : decode cX6_ahead 26 = .ok (.iaload, 1) := by decide +kernel
theorem dX6_ahead_27 : decode cX6_ahead 27 = .ok (.if_icmp .gt 25, 3) := by decide +kernel
theorem dX6_ahead_30 : decode cX6_ahead 30 = .ok (.aload_n 0, 1) := by decide +kernel
theorem dX6_ahead_31 : decode cX6_ahead 31 = .ok (.getfield 23, 3) := by decide +kernel
theorem dX6_ahead_34 : decode cX6_ahead 34 = .ok (.iload 4, 2) := by decide +kernel
theorem dX6_ahead_36 : decode cX6_ahead 36 = .ok (.iaload, 1) := by decide +kernel
theorem dX6_ahead_37 : decode cX6_ahead 37 = .ok (.aload_n 0, 1) := by decide +kernel
theorem dX6_ahead_38 : decode cX6_ahead 38 = .ok (.getfield 23, 3) := by decide +kernel
theorem dX6_ahead_41 : decode cX6_ahead 41 = .ok (.iload_n 2, 1) := by decide +kernel
theorem dX6_ahead_42 : decode cX6_ahead 42 = .ok (.iaload, 1) := by decide +kernel
theorem dX6_ahead_43 : decode cX6_ahead 43 = .ok (.if_icmp .ne 13, 3) := by decide +kernel
theorem dX6_ahead_46 : decode cX6_ahead 46 = .ok (.iload 4, 2) := by decide +kernel
theorem dX6_ahead_48 : decode cX6_ahead 48 = .ok (.iload_n 2, 1) := by decide +kernel
theorem dX6_ahead_49 : decode cX6_ahead 49 = .ok (.if_icmp .le 7, 3) := by decide +kernel
theorem dX6_ahead_52 : decode cX6_ahead 52 = .ok (.iconst 1, 1) := by decide +kernel
theorem dX6_ahead_53 : decode cX6_ahead 53 = .ok (.goto 4, 3) := by decide +kernel
theorem dX6_ahead_56 : decode cX6_ahead 56 = .ok (.iconst 0, 1) := by decide +kernel
theorem dX6_ahead_57 : decode cX6_ahead 57 = .ok (.istore 5, 2) := by decide +kernel
theorem dX6_ahead_59 : decode cX6_ahead 59 = .ok (.iload_n 3, 1) := by decide +kernel
theorem dX6_ahead_60 : decode cX6_ahead 60 = .ok (.iload 5, 2) := by decide +kernel
theorem dX6_ahead_62 : decode cX6_ahead 62 = .ok (.ifCond .eq 17, 3) := by decide +kernel
theorem dX6_ahead_65 : decode cX6_ahead 65 = .ok (.aload_n 0, 1) := by decide +kernel
theorem dX6_ahead_66 : decode cX6_ahead 66 = .ok (.iload_n 1, 1) := by decide +kernel
theorem dX6_ahead_67 : decode cX6_ahead 67 = .ok (.iload 4, 2) := by decide +kernel
theorem dX6_ahead_69 : decode cX6_ahead 69 = .ok (.invokevirtual 183, 3) := by decide +kernel
theorem dX6_ahead_72 : decode cX6_ahead 72 = .ok (.ifCond .eq 7, 3) := by decide +kernel
theorem dX6_ahead_75 : decode cX6_ahead 75 = .ok (.iconst 1, 1) := by decide +kernel
theorem dX6_ahead_76 : decode cX6_ahead 76 = .ok (.goto 4, 3) := by decide +kernel
theorem dX6_ahead_79 : decode cX6_ahead 79 = .ok (.iconst 0, 1) := by decide +kernel
theorem dX6_ahead_80 : decode cX6_ahead 80 = .ok (.iadd, 1) := by decide +kernel
theorem dX6_ahead_81 : decode cX6_ahead 81 = .ok (.istore_n 3, 1) := by decide +kernel
theorem dX6_ahead_82 : decode cX6_ahead 82 = .ok (.iinc 4 1, 3) := by decide +kernel
theorem dX6_ahead_85 : decode cX6_ahead 85 = .ok (.goto (-80), 3) := by decide +kernel
theorem dX6_ahead_88 : decode cX6_ahead 88 = .ok (.iload_n 3, 1) := by decide +kernel
theorem dX6_ahead_89 : decode cX6_ahead 89 = .ok (.ireturn, 1) := by decide +kernel
theorem dX6_itemAt_0 : decode cX6_itemAt 0 = .ok (.iconst 0, 1) := by decide +kernel
theorem dX6_itemAt_1 : decode cX6_itemAt 1 = .ok (.istore_n 3, 1) := by decide +kernel
theorem dX6_itemAt_2 : decode cX6_itemAt 2 = .ok (.iload_n 3, 1) := by decide +kernel
theorem dX6_itemAt_3 : decode cX6_itemAt 3 = .ok (.aload_n 0, 1) := by decide +kernel
theorem dX6_itemAt_4 : decode cX6_itemAt 4 = .ok (.getfield 96, 3) := by decide +kernel
theorem dX6_itemAt_7 : decode cX6_itemAt 7 = .ok (.if_icmp .ge 30, 3) := by decide +kernel
theorem dX6_itemAt_10 : decode cX6_itemAt 10 = .ok (.aload_n 0, 1) := by decide +kernel
theorem dX6_itemAt_11 : decode cX6_itemAt 11 = .ok (.iload_n 1, 1) := by decide +kernel
theorem dX6_itemAt_12 : decode cX6_itemAt 12 = .ok (.iload_n 3, 1) := by decide +kernel
theorem dX6_itemAt_13 : decode cX6_itemAt 13 = .ok (.invokevirtual 183, 3) := by decide +kernel
theorem dX6_itemAt_16 : decode cX6_itemAt 16 = .ok (.ifCond .eq 15, 3) := by decide +kernel
theorem dX6_itemAt_19 : decode cX6_itemAt 19 = .ok (.aload_n 0, 1) := by decide +kernel
theorem dX6_itemAt_20 : decode cX6_itemAt 20 = .ok (.iload_n 1, 1) := by decide +kernel
theorem dX6_itemAt_21 : decode cX6_itemAt 21 = .ok (.iload_n 3, 1) := by decide +kernel
theorem dX6_itemAt_22 : decode cX6_itemAt 22 = .ok (.invokevirtual 192, 3) := by decide +kernel
theorem dX6_itemAt_25 : decode cX6_itemAt 25 = .ok (.iload_n 2, 1) := by decide +kernel
theorem dX6_itemAt_26 : decode cX6_itemAt 26 = .ok (.if_icmp .ne 5, 3) := by decide +kernel
theorem dX6_itemAt_29 : decode cX6_itemAt 29 = .ok (.iload_n 3, 1) := by decide +kernel
theorem dX6_itemAt_30 : decode cX6_itemAt 30 = .ok (.ireturn, 1) := by decide +kernel
theorem dX6_itemAt_31 : decode cX6_itemAt 31 = .ok (.iinc 3 1, 3) := by decide +kernel
theorem dX6_itemAt_34 : decode cX6_itemAt 34 = .ok (.goto (-32), 3) := by decide +kernel
theorem dX6_itemAt_37 : decode cX6_itemAt 37 = .ok (.iconst (-1), 1) := by decide +kernel
theorem dX6_itemAt_38 : decode cX6_itemAt 38 = .ok (.ireturn, 1) := by decide +kernel
theorem dX6_riverAt_0 : decode cX6_riverAt 0 = .ok (.aload_n 0, 1) := by decide +kernel
theorem dX6_riverAt_1 : decode cX6_riverAt 1 = .ok (.aload_n 0, 1) := by decide +kernel
theorem dX6_riverAt_2 : decode cX6_riverAt 2 = .ok (.iload_n 1, 1) := by decide +kernel
theorem dX6_riverAt_3 : decode cX6_riverAt 3 = .ok (.invokevirtual 186, 3) := by decide +kernel
theorem dX6_riverAt_6 : decode cX6_riverAt 6 = .ok (.ifCond .ne 7, 3) := by decide +kernel
theorem dX6_riverAt_9 : decode cX6_riverAt 9 = .ok (.iconst 1, 1) := by decide +kernel
theorem dX6_riverAt_10 : decode cX6_riverAt 10 = .ok (.goto 17, 3) := by decide +kernel
theorem dX6_riverAt_13 : decode cX6_riverAt 13 = .ok (.aload_n 0, 1) := by decide +kernel
theorem dX6_riverAt_14 : decode cX6_riverAt 14 = .ok (.iload_n 1, 1) := by decide +kernel
theorem dX6_riverAt_15 : decode cX6_riverAt 15 = .ok (.iload_n 2, 1) := by decide +kernel
theorem dX6_riverAt_16 : decode cX6_riverAt 16 = .ok (.invokevirtual 195, 3) := by decide +kernel
theorem dX6_riverAt_19 : decode cX6_riverAt 19 = .ok (.ifCond .ge 7, 3) := by decide +kernel
theorem dX6_riverAt_22 : decode cX6_riverAt 22 = .ok (.iconst 2, 1) := by decide +kernel
theorem dX6_riverAt_23 : decode cX6_riverAt 23 = .ok (.goto 4, 3) := by decide +kernel
theorem dX6_riverAt_26 : decode cX6_riverAt 26 = .ok (.iconst 0, 1) := by decide +kernel
theorem dX6_riverAt_27 : decode cX6_riverAt 27 = .ok (.putfield 80, 3) := by decide +kernel
theorem dX6_riverAt_30 : decode cX6_riverAt 30 = .ok (.aload_n 0, 1) := by decide +kernel
theorem dX6_riverAt_31 : decode cX6_riverAt 31 = .ok (.getfield 80, 3) := by decide +kernel
theorem dX6_riverAt_34 : decode cX6_riverAt 34 = .ok (.ifCond .le 7, 3) := by decide +kernel
theorem dX6_riverAt_37 : decode cX6_riverAt 37 = .ok (.iconst 0, 1) := by decide +kernel
theorem dX6_riverAt_38 : decode cX6_riverAt 38 = .ok (.goto 9, 3) := by decide +kernel
theorem dX6_riverAt_41 : decode cX6_riverAt 41 = .ok (.aload_n 0, 1) := by decide +kernel
theorem dX6_riverAt_42 : decode cX6_riverAt 42 = .ok (.iload_n 1, 1) := by decide +kernel
theorem dX6_riverAt_43 : decode cX6_riverAt 43 = .ok (.iload_n 2, 1) := by decide +kernel
theorem dX6_riverAt_44 : decode cX6_riverAt 44 = .ok (.invokevirtual 195, 3) := by decide +kernel
theorem dX6_riverAt_47 : decode cX6_riverAt 47 = .ok (.ireturn, 1) := by decide +kernel
theorem dX6_riverAtAnew_0 : decode cX6_riverAtAnew 0 = .ok (.aload_n 0, 1) := by decide +kernel
theorem dX6_riverAtAnew_1 : decode cX6_riverAtAnew 1 = .ok (.iload_n 1, 1) := by decide +kernel
theorem dX6_riverAtAnew_2 : decode cX6_riverAtAnew 2 = .ok (.iload_n 2, 1) := by decide +kernel
theorem dX6_riverAtAnew_3 : decode cX6_riverAtAnew 3 = .ok (.invokevirtual 198, 3) := by decide +kernel
theorem dX6_riverAtAnew_6 : decode cX6_riverAtAnew 6 = .ok (.ireturn, 1) := by decide +kernel
theorem dX6_rankOf_0 : decode cX6_rankOf 0 = .ok (.aload_n 0, 1) := by decide +kernel
theorem dX6_rankOf_1 : decode cX6_rankOf 1 = .ok (.aload_n 0, 1) := by decide +kernel
theorem dX6_rankOf_2 : decode cX6_rankOf 2 = .ok (.iload_n 1, 1) := by decide +kernel
theorem dX6_rankOf_3 : decode cX6_rankOf 3 = .ok (.invokevirtual 186, 3) := by decide +kernel
theorem dX6_rankOf_6 : decode cX6_rankOf 6 = .ok (.ifCond .eq 11, 3) := by decide +kernel
theorem dX6_rankOf_9 : decode cX6_rankOf 9 = .ok (.aload_n 0, 1) := by decide +kernel
theorem dX6_rankOf_10 : decode cX6_rankOf 10 = .ok (.iload_n 2, 1) := by decide +kernel
theorem dX6_rankOf_11 : decode cX6_rankOf 11 = .ok (.invokevirtual 171, 3) := by decide +kernel
theorem dX6_rankOf_14 : decode cX6_rankOf 14 = .ok (.ifCond .ne 7, 3) := by decide +kernel
theorem dX6_rankOf_17 : decode cX6_rankOf 17 = .ok (.iconst 1, 1) := by decide +kernel
theorem dX6_rankOf_18 : decode cX6_rankOf 18 = .ok (.goto 17, 3) := by decide +kernel
theorem dX6_rankOf_21 : decode cX6_rankOf 21 = .ok (.aload_n 0, 1) := by decide +kernel
theorem dX6_rankOf_22 : decode cX6_rankOf 22 = .ok (.iload_n 1, 1) := by decide +kernel
theorem dX6_rankOf_23 : decode cX6_rankOf 23 = .ok (.iload_n 2, 1) := by decide +kernel
theorem dX6_rankOf_24 : decode cX6_rankOf 24 = .ok (.invokevirtual 183, 3) := by decide +kernel
theorem dX6_rankOf_27 : decode cX6_rankOf 27 = .ok (.ifCond .ne 7, 3) := by decide +kernel
theorem dX6_rankOf_30 : decode cX6_rankOf 30 = .ok (.iconst 2, 1) := by decide +kernel
theorem dX6_rankOf_31 : decode cX6_rankOf 31 = .ok (.goto 4, 3) := by decide +kernel
theorem dX6_rankOf_34 : decode cX6_rankOf 34 = .ok (.iconst 0, 1) := by decide +kernel
theorem dX6_rankOf_35 : decode cX6_rankOf 35 = .ok (.putfield 80, 3) := by decide +kernel
theorem dX6_rankOf_38 : decode cX6_rankOf 38 = .ok (.aload_n 0, 1) := by decide +kernel
theorem dX6_rankOf_39 : decode cX6_rankOf 39 = .ok (.getfield 80, 3) := by decide +kernel
theorem dX6_rankOf_42 : decode cX6_rankOf 42 = .ok (.ifCond .le 7, 3) := by decide +kernel
theorem dX6_rankOf_45 : decode cX6_rankOf 45 = .ok (.iconst 0, 1) := by decide +kernel
theorem dX6_rankOf_46 : decode cX6_rankOf 46 = .ok (.goto 9, 3) := by decide +kernel
theorem dX6_rankOf_49 : decode cX6_rankOf 49 = .ok (.aload_n 0, 1) := by decide +kernel
theorem dX6_rankOf_50 : decode cX6_rankOf 50 = .ok (.iload_n 1, 1) := by decide +kernel
theorem dX6_rankOf_51 : decode cX6_rankOf 51 = .ok (.iload_n 2, 1) := by decide +kernel
theorem dX6_rankOf_52 : decode cX6_rankOf 52 = .ok (.invokevirtual 192, 3) := by decide +kernel
theorem dX6_rankOf_55 : decode cX6_rankOf 55 = .ok (.ireturn, 1) := by decide +kernel
theorem dX6_isReadBy_0 : decode cX6_isReadBy 0 = .ok (.aload_n 0, 1) := by decide +kernel
theorem dX6_isReadBy_1 : decode cX6_isReadBy 1 = .ok (.getfield 65, 3) := by decide +kernel
theorem dX6_isReadBy_4 : decode cX6_isReadBy 4 = .ok (.bipush 30, 2) := by decide +kernel
theorem dX6_isReadBy_6 : decode cX6_isReadBy 6 = .ok (.iload_n 1, 1) := by decide +kernel
theorem dX6_isReadBy_7 : decode cX6_isReadBy 7 = .ok (.imul, 1) := by decide +kernel
theorem dX6_isReadBy_8 : decode cX6_isReadBy 8 = .ok (.iload_n 2, 1) := by decide +kernel
theorem dX6_isReadBy_9 : decode cX6_isReadBy 9 = .ok (.iadd, 1) := by decide +kernel
theorem dX6_isReadBy_10 : decode cX6_isReadBy 10 = .ok (.iaload, 1) := by decide +kernel
theorem dX6_isReadBy_11 : decode cX6_isReadBy 11 = .ok (.iconst 2, 1) := by decide +kernel
theorem dX6_isReadBy_12 : decode cX6_isReadBy 12 = .ok (.if_icmp .ne 22, 3) := by decide +kernel
theorem dX6_isReadBy_15 : decode cX6_isReadBy 15 = .ok (.aload_n 0, 1) := by decide +kernel
theorem dX6_isReadBy_16 : decode cX6_isReadBy 16 = .ok (.getfield 71, 3) := by decide +kernel
theorem dX6_isReadBy_19 : decode cX6_isReadBy 19 = .ok (.bipush 30, 2) := by decide +kernel
theorem dX6_isReadBy_21 : decode cX6_isReadBy 21 = .ok (.iload_n 1, 1) := by decide +kernel
theorem dX6_isReadBy_22 : decode cX6_isReadBy 22 = .ok (.imul, 1) := by decide +kernel
theorem dX6_isReadBy_23 : decode cX6_isReadBy 23 = .ok (.iload_n 2, 1) := by decide +kernel
theorem dX6_isReadBy_24 : decode cX6_isReadBy 24 = .ok (.iadd, 1) := by decide +kernel
theorem dX6_isReadBy_25 : decode cX6_isReadBy 25 = .ok (.iaload, 1) := by decide +kernel
theorem dX6_isReadBy_26 : decode cX6_isReadBy 26 = .ok (.iload_n 3, 1) := by decide +kernel
theorem dX6_isReadBy_27 : decode cX6_isReadBy 27 = .ok (.if_icmp .lt 7, 3) := by decide +kernel
theorem dX6_isReadBy_30 : decode cX6_isReadBy 30 = .ok (.iconst 1, 1) := by decide +kernel
theorem dX6_isReadBy_31 : decode cX6_isReadBy 31 = .ok (.goto 4, 3) := by decide +kernel
theorem dX6_isReadBy_34 : decode cX6_isReadBy 34 = .ok (.iconst 0, 1) := by decide +kernel
theorem dX6_isReadBy_35 : decode cX6_isReadBy 35 = .ok (.ireturn, 1) := by decide +kernel
theorem dX6_isReadNow_0 : decode cX6_isReadNow 0 = .ok (.aload_n 0, 1) := by decide +kernel
theorem dX6_isReadNow_1 : decode cX6_isReadNow 1 = .ok (.iconst 4, 1) := by decide +kernel
theorem dX6_isReadNow_2 : decode cX6_isReadNow 2 = .ok (.iload_n 1, 1) := by decide +kernel
theorem dX6_isReadNow_3 : decode cX6_isReadNow 3 = .ok (.aload_n 0, 1) := by decide +kernel
theorem dX6_isReadNow_4 : decode cX6_isReadNow 4 = .ok (.getfield 32, 3) := by decide +kernel
theorem dX6_isReadNow_7 : decode cX6_isReadNow 7 = .ok (.iload_n 1, 1) := by decide +kernel
theorem dX6_isReadNow_8 : decode cX6_isReadNow 8 = .ok (.iaload, 1) := by decide +kernel
theorem dX6_isReadNow_9 : decode cX6_isReadNow 9 = .ok (.invokevirtual 201, 3) := by decide +kernel
theorem dX6_isReadNow_12 : decode cX6_isReadNow 12 = .ok (.ireturn, 1) := by decide +kernel
theorem dX6_unreadIn_0 : decode cX6_unreadIn 0 = .ok (.iconst 0, 1) := by decide +kernel
theorem dX6_unreadIn_1 : decode cX6_unreadIn 1 = .ok (.istore_n 2, 1) := by decide +kernel
theorem dX6_unreadIn_2 : decode cX6_unreadIn 2 = .ok (.iconst 0, 1) := by decide +kernel
theorem dX6_unreadIn_3 : decode cX6_unreadIn 3 = .ok (.istore_n 3, 1) := by decide +kernel
theorem dX6_unreadIn_4 : decode cX6_unreadIn 4 = .ok (.iload_n 3, 1) := by decide +kernel
theorem dX6_unreadIn_5 : decode cX6_unreadIn 5 = .ok (.aload_n 0, 1) := by decide +kernel
theorem dX6_unreadIn_6 : decode cX6_unreadIn 6 = .ok (.getfield 96, 3) := by decide +kernel
theorem dX6_unreadIn_9 : decode cX6_unreadIn 9 = .ok (.if_icmp .ge 34, 3) := by decide +kernel
theorem dX6_unreadIn_12 : decode cX6_unreadIn 12 = .ok (.iload_n 2, 1) := by decide +kernel
theorem dX6_unreadIn_13 : decode cX6_unreadIn 13 = .ok (.aload_n 0, 1) := by decide +kernel
theorem dX6_unreadIn_14 : decode cX6_unreadIn 14 = .ok (.iload_n 1, 1) := by decide +kernel
theorem dX6_unreadIn_15 : decode cX6_unreadIn 15 = .ok (.iload_n 3, 1) := by decide +kernel
theorem dX6_unreadIn_16 : decode cX6_unreadIn 16 = .ok (.invokevirtual 183, 3) := by decide +kernel
theorem dX6_unreadIn_19 : decode cX6_unreadIn 19 = .ok (.ifCond .eq 15, 3) := by decide +kernel
theorem dX6_unreadIn_22 : decode cX6_unreadIn 22 = .ok (.aload_n 0, 1) := by decide +kernel
theorem dX6_unreadIn_23 : decode cX6_unreadIn 23 = .ok (.iload_n 3, 1) := by decide +kernel
theorem dX6_unreadIn_24 : decode cX6_unreadIn 24 = .ok (.invokevirtual 204, 3) := by decide +kernel
theorem dX6_unreadIn_27 : decode cX6_unreadIn 27 = .ok (.ifCond .ne 7, 3) := by decide +kernel
theorem dX6_unreadIn_30 : decode cX6_unreadIn 30 = .ok (.iconst 1, 1) := by decide +kernel
theorem dX6_unreadIn_31 : decode cX6_unreadIn 31 = .ok (.goto 4, 3) := by decide +kernel
theorem dX6_unreadIn_34 : decode cX6_unreadIn 34 = .ok (.iconst 0, 1) := by decide +kernel
theorem dX6_unreadIn_35 : decode cX6_unreadIn 35 = .ok (.iadd, 1) := by decide +kernel
theorem dX6_unreadIn_36 : decode cX6_unreadIn 36 = .ok (.istore_n 2, 1) := by decide +kernel
theorem dX6_unreadIn_37 : decode cX6_unreadIn 37 = .ok (.iinc 3 1, 3) := by decide +kernel
theorem dX6_unreadIn_40 : decode cX6_unreadIn 40 = .ok (.goto (-36), 3) := by decide +kernel
theorem dX6_unreadIn_43 : decode cX6_unreadIn 43 = .ok (.iload_n 2, 1) := by decide +kernel
theorem dX6_unreadIn_44 : decode cX6_unreadIn 44 = .ok (.ireturn, 1) := by decide +kernel
theorem dX6_unread_0 : decode cX6_unread 0 = .ok (.aload_n 0, 1) := by decide +kernel
theorem dX6_unread_1 : decode cX6_unread 1 = .ok (.aload_n 0, 1) := by decide +kernel
theorem dX6_unread_2 : decode cX6_unread 2 = .ok (.iload_n 1, 1) := by decide +kernel
theorem dX6_unread_3 : decode cX6_unread 3 = .ok (.invokevirtual 186, 3) := by decide +kernel
theorem dX6_unread_6 : decode cX6_unread 6 = .ok (.invokevirtual 137, 3) := by decide +kernel
theorem dX6_unread_9 : decode cX6_unread 9 = .ok (.ifCond .le 7, 3) := by decide +kernel
theorem dX6_unread_12 : decode cX6_unread 12 = .ok (.iconst 0, 1) := by decide +kernel
theorem dX6_unread_13 : decode cX6_unread 13 = .ok (.goto 8, 3) := by decide +kernel
theorem dX6_unread_16 : decode cX6_unread 16 = .ok (.aload_n 0, 1) := by decide +kernel
theorem dX6_unread_17 : decode cX6_unread 17 = .ok (.iload_n 1, 1) := by decide +kernel
theorem dX6_unread_18 : decode cX6_unread 18 = .ok (.invokevirtual 207, 3) := by decide +kernel
theorem dX6_unread_21 : decode cX6_unread 21 = .ok (.ireturn, 1) := by decide +kernel
theorem dX6_nextUnread_0 : decode cX6_nextUnread 0 = .ok (.aload_n 0, 1) := by decide +kernel
theorem dX6_nextUnread_1 : decode cX6_nextUnread 1 = .ok (.aload_n 0, 1) := by decide +kernel
theorem dX6_nextUnread_2 : decode cX6_nextUnread 2 = .ok (.iload_n 1, 1) := by decide +kernel
theorem dX6_nextUnread_3 : decode cX6_nextUnread 3 = .ok (.invokevirtual 186, 3) := by decide +kernel
theorem dX6_nextUnread_6 : decode cX6_nextUnread 6 = .ok (.ifCond .ne 7, 3) := by decide +kernel
theorem dX6_nextUnread_9 : decode cX6_nextUnread 9 = .ok (.iconst 1, 1) := by decide +kernel
theorem dX6_nextUnread_10 : decode cX6_nextUnread 10 = .ok (.goto 16, 3) := by decide +kernel
theorem dX6_nextUnread_13 : decode cX6_nextUnread 13 = .ok (.aload_n 0, 1) := by decide +kernel
theorem dX6_nextUnread_14 : decode cX6_nextUnread 14 = .ok (.iload_n 1, 1) := by decide +kernel
theorem dX6_nextUnread_15 : decode cX6_nextUnread 15 = .ok (.invokevirtual 207, 3) := by decide +kernel
theorem dX6_nextUnread_18 : decode cX6_nextUnread 18 = .ok (.ifCond .ne 7, 3) := by decide +kernel
theorem dX6_nextUnread_21 : decode cX6_nextUnread 21 = .ok (.iconst 2, 1) := by decide +kernel
theorem dX6_nextUnread_22 : decode cX6_nextUnread 22 = .ok (.goto 4, 3) := by decide +kernel
theorem dX6_nextUnread_25 : decode cX6_nextUnread 25 = .ok (.iconst 0, 1) := by decide +kernel
theorem dX6_nextUnread_26 : decode cX6_nextUnread 26 = .ok (.putfield 80, 3) := by decide +kernel
theorem dX6_nextUnread_29 : decode cX6_nextUnread 29 = .ok (.aload_n 0, 1) := by decide +kernel
theorem dX6_nextUnread_30 : decode cX6_nextUnread 30 = .ok (.getfield 80, 3) := by decide +kernel
theorem dX6_nextUnread_33 : decode cX6_nextUnread 33 = .ok (.ifCond .le 5, 3) := by decide +kernel
theorem dX6_nextUnread_36 : decode cX6_nextUnread 36 = .ok (.iconst 0, 1) := by decide +kernel
theorem dX6_nextUnread_37 : decode cX6_nextUnread 37 = .ok (.ireturn, 1) := by decide +kernel
theorem dX6_nextUnread_38 : decode cX6_nextUnread 38 = .ok (.iconst 0, 1) := by decide +kernel
theorem dX6_nextUnread_39 : decode cX6_nextUnread 39 = .ok (.istore_n 2, 1) := by decide +kernel
theorem dX6_nextUnread_40 : decode cX6_nextUnread 40 = .ok (.aload_n 0, 1) := by decide +kernel
theorem dX6_nextUnread_41 : decode cX6_nextUnread 41 = .ok (.aload_n 0, 1) := by decide +kernel
theorem dX6_nextUnread_42 : decode cX6_nextUnread 42 = .ok (.iload_n 1, 1) := by decide +kernel
theorem dX6_nextUnread_43 : decode cX6_nextUnread 43 = .ok (.iload_n 2, 1) := by decide +kernel
theorem dX6_nextUnread_44 : decode cX6_nextUnread 44 = .ok (.invokevirtual 195, 3) := by decide +kernel
theorem dX6_nextUnread_47 : decode cX6_nextUnread 47 = .ok (.invokevirtual 204, 3) := by decide +kernel
theorem dX6_nextUnread_50 : decode cX6_nextUnread 50 = .ok (.ifCond .eq 9, 3) := by decide +kernel
theorem dX6_nextUnread_53 : decode cX6_nextUnread 53 = .ok (.iinc 2 1, 3) := by decide +kernel
theorem dX6_nextUnread_56 : decode cX6_nextUnread 56 = .ok (.goto (-16), 3) := by decide +kernel
theorem dX6_nextUnread_59 : decode cX6_nextUnread 59 = .ok (.aload_n 0, 1) := by decide +kernel
theorem dX6_nextUnread_60 : decode cX6_nextUnread 60 = .ok (.iload_n 1, 1) := by decide +kernel
theorem dX6_nextUnread_61 : decode cX6_nextUnread 61 = .ok (.iload_n 2, 1) := by decide +kernel
theorem dX6_nextUnread_62 : decode cX6_nextUnread 62 = .ok (.invokevirtual 195, 3) := by decide +kernel
theorem dX6_nextUnread_65 : decode cX6_nextUnread 65 = .ok (.ireturn, 1) := by decide +kernel
theorem dX6_readShare_0 : decode cX6_readShare 0 = .ok (.aload_n 0, 1) := by decide +kernel
theorem dX6_readShare_1 : decode cX6_readShare 1 = .ok (.aload_n 0, 1) := by decide +kernel
theorem dX6_readShare_2 : decode cX6_readShare 2 = .ok (.iload_n 1, 1) := by decide +kernel
theorem dX6_readShare_3 : decode cX6_readShare 3 = .ok (.invokevirtual 186, 3) := by decide +kernel
theorem dX6_readShare_6 : decode cX6_readShare 6 = .ok (.ifCond .ne 7, 3) := by decide +kernel
theorem dX6_readShare_9 : decode cX6_readShare 9 = .ok (.iconst 1, 1) := by decide +kernel
theorem dX6_readShare_10 : decode cX6_readShare 10 = .ok (.goto 16, 3) := by decide +kernel
theorem dX6_readShare_13 : decode cX6_readShare 13 = .ok (.aload_n 0, 1) := by decide +kernel
theorem dX6_readShare_14 : decode cX6_readShare 14 = .ok (.iload_n 1, 1) := by decide +kernel
theorem dX6_readShare_15 : decode cX6_readShare 15 = .ok (.invokevirtual 189, 3) := by decide +kernel
theorem dX6_readShare_18 : decode cX6_readShare 18 = .ok (.ifCond .ne 7, 3) := by decide +kernel
theorem dX6_readShare_21 : decode cX6_readShare 21 = .ok (.iconst 2, 1) := by decide +kernel
theorem dX6_readShare_22 : decode cX6_readShare 22 = .ok (.goto 4, 3) := by decide +kernel
theorem dX6_readShare_25 : decode cX6_readShare 25 = .ok (.iconst 0, 1) := by decide +kernel
theorem dX6_readShare_26 : decode cX6_readShare 26 = .ok (.putfield 80, 3) := by decide +kernel
theorem dX6_readShare_29 : decode cX6_readShare 29 = .ok (.aload_n 0, 1) := by decide +kernel
theorem dX6_readShare_30 : decode cX6_readShare 30 = .ok (.getfield 80, 3) := by decide +kernel
theorem dX6_readShare_33 : decode cX6_readShare 33 = .ok (.ifCond .le 7, 3) := by decide +kernel
theorem dX6_readShare_36 : decode cX6_readShare 36 = .ok (.fconst 0, 1) := by decide +kernel
theorem dX6_readShare_37 : decode cX6_readShare 37 = .ok (.goto 22, 3) := by decide +kernel
theorem dX6_readShare_40 : decode cX6_readShare 40 = .ok (.aload_n 0, 1) := by decide +kernel
theorem dX6_readShare_41 : decode cX6_readShare 41 = .ok (.iload_n 1, 1) := by decide +kernel
theorem dX6_readShare_42 : decode cX6_readShare 42 = .ok (.invokevirtual 189, 3) := by decide +kernel
theorem dX6_readShare_45 : decode cX6_readShare 45 = .ok (.aload_n 0, 1) := by decide +kernel
theorem dX6_readShare_46 : decode cX6_readShare 46 = .ok (.iload_n 1, 1) := by decide +kernel
theorem dX6_readShare_47 : decode cX6_readShare 47 = .ok (.invokevirtual 207, 3) := by decide +kernel
theorem dX6_readShare_50 : decode cX6_readShare 50 = .ok (.isub, 1) := by decide +kernel
theorem dX6_readShare_51 : decode cX6_readShare 51 = .ok (.i2f, 1) := by decide +kernel
theorem dX6_readShare_52 : decode cX6_readShare 52 = .ok (.aload_n 0, 1) := by decide +kernel
theorem dX6_readShare_53 : decode cX6_readShare 53 = .ok (.iload_n 1, 1) := by decide +kernel
theorem dX6_readShare_54 : decode cX6_readShare 54 = .ok (.invokevirtual 189, 3) := by decide +kernel
theorem dX6_readShare_57 : decode cX6_readShare 57 = .ok (.i2f, 1) := by decide +kernel
theorem dX6_readShare_58 : decode cX6_readShare 58 = .ok (.fdiv, 1) := by decide +kernel
theorem dX6_readShare_59 : decode cX6_readShare 59 = .ok (.freturn, 1) := by decide +kernel
theorem dX6_copies_0 : decode cX6_copies 0 = .ok (.aload_n 0, 1) := by decide +kernel
theorem dX6_copies_1 : decode cX6_copies 1 = .ok (.getfield 65, 3) := by decide +kernel
theorem dX6_copies_4 : decode cX6_copies 4 = .ok (.bipush 30, 2) := by decide +kernel
theorem dX6_copies_6 : decode cX6_copies 6 = .ok (.iload_n 2, 1) := by decide +kernel
theorem dX6_copies_7 : decode cX6_copies 7 = .ok (.imul, 1) := by decide +kernel
theorem dX6_copies_8 : decode cX6_copies 8 = .ok (.iload_n 3, 1) := by decide +kernel
theorem dX6_copies_9 : decode cX6_copies 9 = .ok (.iadd, 1) := by decide +kernel
theorem dX6_copies_10 : decode cX6_copies 10 = .ok (.aload_n 0, 1) := by decide +kernel
theorem dX6_copies_11 : decode cX6_copies 11 = .ok (.getfield 65, 3) := by decide +kernel
theorem dX6_copies_14 : decode cX6_copies 14 = .ok (.bipush 30, 2) := by decide +kernel
theorem dX6_copies_16 : decode cX6_copies 16 = .ok (.iload_n 1, 1) := by decide +kernel
theorem dX6_copies_17 : decode cX6_copies 17 = .ok (.imul, 1) := by decide +kernel
theorem dX6_copies_18 : decode cX6_copies 18 = .ok (.iload_n 3, 1) := by decide +kernel
theorem dX6_copies_19 : decode cX6_copies 19 = .ok (.iadd, 1) := by decide +kernel
theorem dX6_copies_20 : decode cX6_copies 20 = .ok (.iaload, 1) := by decide +kernel
theorem dX6_copies_21 : decode cX6_copies 21 = .ok (.iastore, 1) := by decide +kernel
theorem dX6_copies_22 : decode cX6_copies 22 = .ok (.aload_n 0, 1) := by decide +kernel
theorem dX6_copies_23 : decode cX6_copies 23 = .ok (.getfield 68, 3) := by decide +kernel
theorem dX6_copies_26 : decode cX6_copies 26 = .ok (.bipush 30, 2) := by decide +kernel
theorem dX6_copies_28 : decode cX6_copies 28 = .ok (.iload_n 2, 1) := by decide +kernel
theorem dX6_copies_29 : decode cX6_copies 29 = .ok (.imul, 1) := by decide +kernel
theorem dX6_copies_30 : decode cX6_copies 30 = .ok (.iload_n 3, 1) := by decide +kernel
theorem dX6_copies_31 : decode cX6_copies 31 = .ok (.iadd, 1) := by decide +kernel
theorem dX6_copies_32 : decode cX6_copies 32 = .ok (.aload_n 0, 1) := by decide +kernel
theorem dX6_copies_33 : decode cX6_copies 33 = .ok (.getfield 68, 3) := by decide +kernel
theorem dX6_copies_36 : decode cX6_copies 36 = .ok (.bipush 30, 2) := by decide +kernel
theorem dX6_copies_38 : decode cX6_copies 38 = .ok (.iload_n 1, 1) := by decide +kernel
theorem dX6_copies_39 : decode cX6_copies 39 = .ok (.imul, 1) := by decide +kernel
theorem dX6_copies_40 : decode cX6_copies 40 = .ok (.iload_n 3, 1) := by decide +kernel
theorem dX6_copies_41 : decode cX6_copies 41 = .ok (.iadd, 1) := by decide +kernel
theorem dX6_copies_42 : decode cX6_copies 42 = .ok (.iaload, 1) := by decide +kernel
theorem dX6_copies_43 : decode cX6_copies 43 = .ok (.iastore, 1) := by decide +kernel
theorem dX6_copies_44 : decode cX6_copies 44 = .ok (.aload_n 0, 1) := by decide +kernel
theorem dX6_copies_45 : decode cX6_copies 45 = .ok (.getfield 71, 3) := by decide +kernel
theorem dX6_copies_48 : decode cX6_copies 48 = .ok (.bipush 30, 2) := by decide +kernel
theorem dX6_copies_50 : decode cX6_copies 50 = .ok (.iload_n 2, 1) := by decide +kernel
theorem dX6_copies_51 : decode cX6_copies 51 = .ok (.imul, 1) := by decide +kernel
theorem dX6_copies_52 : decode cX6_copies 52 = .ok (.iload_n 3, 1) := by decide +kernel
theorem dX6_copies_53 : decode cX6_copies 53 = .ok (.iadd, 1) := by decide +kernel
theorem dX6_copies_54 : decode cX6_copies 54 = .ok (.aload_n 0, 1) := by decide +kernel
theorem dX6_copies_55 : decode cX6_copies 55 = .ok (.getfield 71, 3) := by decide +kernel
theorem dX6_copies_58 : decode cX6_copies 58 = .ok (.bipush 30, 2) := by decide +kernel
theorem dX6_copies_60 : decode cX6_copies 60 = .ok (.iload_n 1, 1) := by decide +kernel
theorem dX6_copies_61 : decode cX6_copies 61 = .ok (.imul, 1) := by decide +kernel
theorem dX6_copies_62 : decode cX6_copies 62 = .ok (.iload_n 3, 1) := by decide +kernel
theorem dX6_copies_63 : decode cX6_copies 63 = .ok (.iadd, 1) := by decide +kernel
theorem dX6_copies_64 : decode cX6_copies 64 = .ok (.iaload, 1) := by decide +kernel
theorem dX6_copies_65 : decode cX6_copies 65 = .ok (.iastore, 1) := by decide +kernel
theorem dX6_copies_66 : decode cX6_copies 66 = .ok (.return_, 1) := by decide +kernel
theorem dX6_learns_0 : decode cX6_learns 0 = .ok (.iconst 0, 1) := by decide +kernel
theorem dX6_learns_1 : decode cX6_learns 1 = .ok (.istore_n 2, 1) := by decide +kernel
theorem dX6_learns_2 : decode cX6_learns 2 = .ok (.iload_n 2, 1) := by decide +kernel
theorem dX6_learns_3 : decode cX6_learns 3 = .ok (.aload_n 0, 1) := by decide +kernel
theorem dX6_learns_4 : decode cX6_learns 4 = .ok (.getfield 96, 3) := by decide +kernel
theorem dX6_learns_7 : decode cX6_learns 7 = .ok (.if_icmp .ge 43, 3) := by decide +kernel
theorem dX6_learns_10 : decode cX6_learns 10 = .ok (.aload_n 0, 1) := by decide +kernel
theorem dX6_learns_11 : decode cX6_learns 11 = .ok (.getfield 74, 3) := by decide +kernel
theorem dX6_learns_14 : decode cX6_learns 14 = .ok (.bipush 30, 2) := by decide +kernel
theorem dX6_learns_16 : decode cX6_learns 16 = .ok (.iload_n 1, 1) := by decide +kernel
theorem dX6_learns_17 : decode cX6_learns 17 = .ok (.imul, 1) := by decide +kernel
theorem dX6_learns_18 : decode cX6_learns 18 = .ok (.iload_n 2, 1) := by decide +kernel
theorem dX6_learns_19 : decode cX6_learns 19 = .ok (.iadd, 1) := by decide +kernel
theorem dX6_learns_20 : decode cX6_learns 20 = .ok (.aload_n 0, 1) := by decide +kernel
theorem dX6_learns_21 : decode cX6_learns 21 = .ok (.getfield 29, 3) := by decide +kernel
theorem dX6_learns_24 : decode cX6_learns 24 = .ok (.iload_n 2, 1) := by decide +kernel
theorem dX6_learns_25 : decode cX6_learns 25 = .ok (.iaload, 1) := by decide +kernel
theorem dX6_learns_26 : decode cX6_learns 26 = .ok (.iastore, 1) := by decide +kernel
theorem dX6_learns_27 : decode cX6_learns 27 = .ok (.aload_n 0, 1) := by decide +kernel
theorem dX6_learns_28 : decode cX6_learns 28 = .ok (.getfield 77, 3) := by decide +kernel
theorem dX6_learns_31 : decode cX6_learns 31 = .ok (.bipush 30, 2) := by decide +kernel
theorem dX6_learns_33 : decode cX6_learns 33 = .ok (.iload_n 1, 1) := by decide +kernel
theorem dX6_learns_34 : decode cX6_learns 34 = .ok (.imul, 1) := by decide +kernel
theorem dX6_learns_35 : decode cX6_learns 35 = .ok (.iload_n 2, 1) := by decide +kernel
theorem dX6_learns_36 : decode cX6_learns 36 = .ok (.iadd, 1) := by decide +kernel
theorem dX6_learns_37 : decode cX6_learns 37 = .ok (.aload_n 0, 1) := by decide +kernel
theorem dX6_learns_38 : decode cX6_learns 38 = .ok (.getfield 32, 3) := by decide +kernel
theorem dX6_learns_41 : decode cX6_learns 41 = .ok (.iload_n 2, 1) := by decide +kernel
theorem dX6_learns_42 : decode cX6_learns 42 = .ok (.iaload, 1) := by decide +kernel
theorem dX6_learns_43 : decode cX6_learns 43 = .ok (.iastore, 1) := by decide +kernel
theorem dX6_learns_44 : decode cX6_learns 44 = .ok (.iinc 2 1, 3) := by decide +kernel
theorem dX6_learns_47 : decode cX6_learns 47 = .ok (.goto (-45), 3) := by decide +kernel
theorem dX6_learns_50 : decode cX6_learns 50 = .ok (.return_, 1) := by decide +kernel
theorem dX6_addDevice_0 : decode cX6_addDevice 0 = .ok (.aload_n 0, 1) := by decide +kernel
theorem dX6_addDevice_1 : decode cX6_addDevice 1 = .ok (.aload_n 0, 1) := by decide +kernel
theorem dX6_addDevice_2 : decode cX6_addDevice 2 = .ok (.getfield 111, 3) := by decide +kernel
theorem dX6_addDevice_5 : decode cX6_addDevice 5 = .ok (.iconst 4, 1) := by decide +kernel
theorem dX6_addDevice_6 : decode cX6_addDevice 6 = .ok (.if_icmp .ge 7, 3) := by decide +kernel
theorem dX6_addDevice_9 : decode cX6_addDevice 9 = .ok (.iconst 1, 1) := by decide +kernel
theorem dX6_addDevice_10 : decode cX6_addDevice 10 = .ok (.goto 4, 3) := by decide +kernel
theorem dX6_addDevice_13 : decode cX6_addDevice 13 = .ok (.iconst 0, 1) := by decide +kernel
theorem dX6_addDevice_14 : decode cX6_addDevice 14 = .ok (.invokevirtual 137, 3) := by decide +kernel
theorem dX6_addDevice_17 : decode cX6_addDevice 17 = .ok (.ifCond .le 5, 3) := by decide +kernel
theorem dX6_addDevice_20 : decode cX6_addDevice 20 = .ok (.iconst 0, 1) := by decide +kernel
theorem dX6_addDevice_21 : decode cX6_addDevice 21 = .ok (.ireturn, 1) := by decide +kernel
theorem dX6_addDevice_22 : decode cX6_addDevice 22 = .ok (.iconst 0, 1) := by decide +kernel
theorem dX6_addDevice_23 : decode cX6_addDevice 23 = .ok (.istore_n 1, 1) := by decide +kernel
theorem dX6_addDevice_24 : decode cX6_addDevice 24 = .ok (.iload_n 1, 1) := by decide +kernel
theorem dX6_addDevice_25 : decode cX6_addDevice 25 = .ok (.aload_n 0, 1) := by decide +kernel
theorem dX6_addDevice_26 : decode cX6_addDevice 26 = .ok (.getfield 96, 3) := by decide +kernel
theorem dX6_addDevice_29 : decode cX6_addDevice 29 = .ok (.if_icmp .ge 19, 3) := by decide +kernel
theorem dX6_addDevice_32 : decode cX6_addDevice 32 = .ok (.aload_n 0, 1) := by decide +kernel
theorem dX6_addDevice_33 : decode cX6_addDevice 33 = .ok (.iconst 4, 1) := by decide +kernel
theorem dX6_addDevice_34 : decode cX6_addDevice 34 = .ok (.aload_n 0, 1) := by decide +kernel
theorem dX6_addDevice_35 : decode cX6_addDevice 35 = .ok (.getfield 111, 3) := by decide +kernel
theorem dX6_addDevice_38 : decode cX6_addDevice 38 = .ok (.iload_n 1, 1) := by decide +kernel
theorem dX6_addDevice_39 : decode cX6_addDevice 39 = .ok (.invokevirtual 210, 3) := by decide +kernel
theorem dX6_addDevice_42 : decode cX6_addDevice 42 = .ok (.iinc 1 1, 3) := by decide +kernel
theorem dX6_addDevice_45 : decode cX6_addDevice 45 = .ok (.goto (-21), 3) := by decide +kernel
theorem dX6_addDevice_48 : decode cX6_addDevice 48 = .ok (.aload_n 0, 1) := by decide +kernel
theorem dX6_addDevice_49 : decode cX6_addDevice 49 = .ok (.aload_n 0, 1) := by decide +kernel
theorem dX6_addDevice_50 : decode cX6_addDevice 50 = .ok (.getfield 111, 3) := by decide +kernel
theorem dX6_addDevice_53 : decode cX6_addDevice 53 = .ok (.invokevirtual 214, 3) := by decide +kernel
theorem dX6_addDevice_56 : decode cX6_addDevice 56 = .ok (.aload_n 0, 1) := by decide +kernel
theorem dX6_addDevice_57 : decode cX6_addDevice 57 = .ok (.dup, 1) := by decide +kernel
theorem dX6_addDevice_58 : decode cX6_addDevice 58 = .ok (.getfield 111, 3) := by decide +kernel
theorem dX6_addDevice_61 : decode cX6_addDevice 61 = .ok (.iconst 1, 1) := by decide +kernel
theorem dX6_addDevice_62 : decode cX6_addDevice 62 = .ok (.iadd, 1) := by decide +kernel
theorem dX6_addDevice_63 : decode cX6_addDevice 63 = .ok (.putfield 111, 3) := by decide +kernel
theorem dX6_addDevice_66 : decode cX6_addDevice 66 = .ok (.aload_n 0, 1) := by decide +kernel
theorem dX6_addDevice_67 : decode cX6_addDevice 67 = .ok (.getfield 111, 3) := by decide +kernel
theorem dX6_addDevice_70 : decode cX6_addDevice 70 = .ok (.iconst 1, 1) := by decide +kernel
theorem dX6_addDevice_71 : decode cX6_addDevice 71 = .ok (.isub, 1) := by decide +kernel
theorem dX6_addDevice_72 : decode cX6_addDevice 72 = .ok (.ireturn, 1) := by decide +kernel
theorem dX6_isDevice_0 : decode cX6_isDevice 0 = .ok (.iload_n 1, 1) := by decide +kernel
theorem dX6_isDevice_1 : decode cX6_isDevice 1 = .ok (.iconst 0, 1) := by decide +kernel
theorem dX6_isDevice_2 : decode cX6_isDevice 2 = .ok (.aload_n 0, 1) := by decide +kernel
theorem dX6_isDevice_3 : decode cX6_isDevice 3 = .ok (.getfield 111, 3) := by decide +kernel
theorem dX6_isDevice_6 : decode cX6_isDevice 6 = .ok (.iconst 1, 1) := by decide +kernel
theorem dX6_isDevice_7 : decode cX6_isDevice 7 = .ok (.isub, 1) := by decide +kernel
theorem dX6_isDevice_8 : decode cX6_isDevice 8 = .ok (.invokestatic 128, 3) := by decide +kernel
theorem dX6_isDevice_11 : decode cX6_isDevice 11 = .ok (.ireturn, 1) := by decide +kernel
theorem dX6_knows_0 : decode cX6_knows 0 = .ok (.aload_n 0, 1) := by decide +kernel
theorem dX6_knows_1 : decode cX6_knows 1 = .ok (.getfield 74, 3) := by decide +kernel
theorem dX6_knows_4 : decode cX6_knows 4 = .ok (.bipush 30, 2) := by decide +kernel
theorem dX6_knows_6 : decode cX6_knows 6 = .ok (.iload_n 1, 1) := by decide +kernel
theorem dX6_knows_7 : decode cX6_knows 7 = .ok (.imul, 1) := by decide +kernel
theorem dX6_knows_8 : decode cX6_knows 8 = .ok (.iload_n 2, 1) := by decide +kernel
theorem dX6_knows_9 : decode cX6_knows 9 = .ok (.iadd, 1) := by decide +kernel
theorem dX6_knows_10 : decode cX6_knows 10 = .ok (.iaload, 1) := by decide +kernel
theorem dX6_knows_11 : decode cX6_knows 11 = .ok (.ifCond .le 7, 3) := by decide +kernel
theorem dX6_knows_14 : decode cX6_knows 14 = .ok (.iconst 1, 1) := by decide +kernel
theorem dX6_knows_15 : decode cX6_knows 15 = .ok (.goto 4, 3) := by decide +kernel
theorem dX6_knows_18 : decode cX6_knows 18 = .ok (.iconst 0, 1) := by decide +kernel
theorem dX6_knows_19 : decode cX6_knows 19 = .ok (.ireturn, 1) := by decide +kernel
theorem dX6_isReadAt_0 : decode cX6_isReadAt 0 = .ok (.aload_n 0, 1) := by decide +kernel
theorem dX6_isReadAt_1 : decode cX6_isReadAt 1 = .ok (.iload_n 1, 1) := by decide +kernel
theorem dX6_isReadAt_2 : decode cX6_isReadAt 2 = .ok (.iload_n 2, 1) := by decide +kernel
theorem dX6_isReadAt_3 : decode cX6_isReadAt 3 = .ok (.aload_n 0, 1) := by decide +kernel
theorem dX6_isReadAt_4 : decode cX6_isReadAt 4 = .ok (.getfield 77, 3) := by decide +kernel
theorem dX6_isReadAt_7 : decode cX6_isReadAt 7 = .ok (.bipush 30, 2) := by decide +kernel
theorem dX6_isReadAt_9 : decode cX6_isReadAt 9 = .ok (.iload_n 1, 1) := by decide +kernel
theorem dX6_isReadAt_10 : decode cX6_isReadAt 10 = .ok (.imul, 1) := by decide +kernel
theorem dX6_isReadAt_11 : decode cX6_isReadAt 11 = .ok (.iload_n 2, 1) := by decide +kernel
theorem dX6_isReadAt_12 : decode cX6_isReadAt 12 = .ok (.iadd, 1) := by decide +kernel
theorem dX6_isReadAt_13 : decode cX6_isReadAt 13 = .ok (.iaload, 1) := by decide +kernel
theorem dX6_isReadAt_14 : decode cX6_isReadAt 14 = .ok (.invokevirtual 201, 3) := by decide +kernel
theorem dX6_isReadAt_17 : decode cX6_isReadAt 17 = .ok (.ireturn, 1) := by decide +kernel
theorem dX6_marks_0 : decode cX6_marks 0 = .ok (.aload_n 0, 1) := by decide +kernel
theorem dX6_marks_1 : decode cX6_marks 1 = .ok (.getfield 65, 3) := by decide +kernel
theorem dX6_marks_4 : decode cX6_marks 4 = .ok (.bipush 30, 2) := by decide +kernel
theorem dX6_marks_6 : decode cX6_marks 6 = .ok (.iload_n 1, 1) := by decide +kernel
theorem dX6_marks_7 : decode cX6_marks 7 = .ok (.imul, 1) := by decide +kernel
theorem dX6_marks_8 : decode cX6_marks 8 = .ok (.iload_n 2, 1) := by decide +kernel
theorem dX6_marks_9 : decode cX6_marks 9 = .ok (.iadd, 1) := by decide +kernel
theorem dX6_marks_10 : decode cX6_marks 10 = .ok (.iload_n 3, 1) := by decide +kernel
theorem dX6_marks_11 : decode cX6_marks 11 = .ok (.ifCond .eq 7, 3) := by decide +kernel
theorem dX6_marks_14 : decode cX6_marks 14 = .ok (.iconst 2, 1) := by decide +kernel
theorem dX6_marks_15 : decode cX6_marks 15 = .ok (.goto 4, 3) := by decide +kernel
theorem dX6_marks_18 : decode cX6_marks 18 = .ok (.iconst 1, 1) := by decide +kernel
theorem dX6_marks_19 : decode cX6_marks 19 = .ok (.iastore, 1) := by decide +kernel
theorem dX6_marks_20 : decode cX6_marks 20 = .ok (.aload_n 0, 1) := by decide +kernel
theorem dX6_marks_21 : decode cX6_marks 21 = .ok (.getfield 68, 3) := by decide +kernel
theorem dX6_marks_24 : decode cX6_marks 24 = .ok (.bipush 30, 2) := by decide +kernel
theorem dX6_marks_26 : decode cX6_marks 26 = .ok (.iload_n 1, 1) := by decide +kernel
theorem dX6_marks_27 : decode cX6_marks 27 = .ok (.imul, 1) := by decide +kernel
theorem dX6_marks_28 : decode cX6_marks 28 = .ok (.iload_n 2, 1) := by decide +kernel
theorem dX6_marks_29 : decode cX6_marks 29 = .ok (.iadd, 1) := by decide +kernel
theorem dX6_marks_30 : decode cX6_marks 30 = .ok (.aload_n 0, 1) := by decide +kernel
theorem dX6_marks_31 : decode cX6_marks 31 = .ok (.getfield 84, 3) := by decide +kernel
theorem dX6_marks_34 : decode cX6_marks 34 = .ok (.iastore, 1) := by decide +kernel
theorem dX6_marks_35 : decode cX6_marks 35 = .ok (.aload_n 0, 1) := by decide +kernel
theorem dX6_marks_36 : decode cX6_marks 36 = .ok (.getfield 71, 3) := by decide +kernel
theorem dX6_marks_39 : decode cX6_marks 39 = .ok (.bipush 30, 2) := by decide +kernel
theorem dX6_marks_41 : decode cX6_marks 41 = .ok (.iload_n 1, 1) := by decide +kernel
theorem dX6_marks_42 : decode cX6_marks 42 = .ok (.imul, 1) := by decide +kernel
theorem dX6_marks_43 : decode cX6_marks 43 = .ok (.iload_n 2, 1) := by decide +kernel
theorem dX6_marks_44 : decode cX6_marks 44 = .ok (.iadd, 1) := by decide +kernel
theorem dX6_marks_45 : decode cX6_marks 45 = .ok (.aload_n 0, 1) := by decide +kernel
theorem dX6_marks_46 : decode cX6_marks 46 = .ok (.getfield 74, 3) := by decide +kernel
theorem dX6_marks_49 : decode cX6_marks 49 = .ok (.bipush 30, 2) := by decide +kernel
theorem dX6_marks_51 : decode cX6_marks 51 = .ok (.iload_n 1, 1) := by decide +kernel
theorem dX6_marks_52 : decode cX6_marks 52 = .ok (.imul, 1) := by decide +kernel
theorem dX6_marks_53 : decode cX6_marks 53 = .ok (.iload_n 2, 1) := by decide +kernel
theorem dX6_marks_54 : decode cX6_marks 54 = .ok (.iadd, 1) := by decide +kernel
theorem dX6_marks_55 : decode cX6_marks 55 = .ok (.iaload, 1) := by decide +kernel
theorem dX6_marks_56 : decode cX6_marks 56 = .ok (.iconst 1, 1) := by decide +kernel
theorem dX6_marks_57 : decode cX6_marks 57 = .ok (.isub, 1) := by decide +kernel
theorem dX6_marks_58 : decode cX6_marks 58 = .ok (.iastore, 1) := by decide +kernel
theorem dX6_marks_59 : decode cX6_marks 59 = .ok (.return_, 1) := by decide +kernel
theorem dX6_mark_0 : decode cX6_mark 0 = .ok (.aload_n 0, 1) := by decide +kernel
theorem dX6_mark_1 : decode cX6_mark 1 = .ok (.aload_n 0, 1) := by decide +kernel
theorem dX6_mark_2 : decode cX6_mark 2 = .ok (.iload_n 1, 1) := by decide +kernel
theorem dX6_mark_3 : decode cX6_mark 3 = .ok (.invokevirtual 217, 3) := by decide +kernel
theorem dX6_mark_6 : decode cX6_mark 6 = .ok (.ifCond .eq 11, 3) := by decide +kernel
theorem dX6_mark_9 : decode cX6_mark 9 = .ok (.aload_n 0, 1) := by decide +kernel
theorem dX6_mark_10 : decode cX6_mark 10 = .ok (.iload_n 2, 1) := by decide +kernel
theorem dX6_mark_11 : decode cX6_mark 11 = .ok (.invokevirtual 171, 3) := by decide +kernel
theorem dX6_mark_14 : decode cX6_mark 14 = .ok (.ifCond .ne 7, 3) := by decide +kernel
theorem dX6_mark_17 : decode cX6_mark 17 = .ok (.iconst 1, 1) := by decide +kernel
theorem dX6_mark_18 : decode cX6_mark 18 = .ok (.goto 17, 3) := by decide +kernel
theorem dX6_mark_21 : decode cX6_mark 21 = .ok (.aload_n 0, 1) := by decide +kernel
theorem dX6_mark_22 : decode cX6_mark 22 = .ok (.iload_n 1, 1) := by decide +kernel
theorem dX6_mark_23 : decode cX6_mark 23 = .ok (.iload_n 2, 1) := by decide +kernel
theorem dX6_mark_24 : decode cX6_mark 24 = .ok (.invokevirtual 220, 3) := by decide +kernel
theorem dX6_mark_27 : decode cX6_mark 27 = .ok (.ifCond .ne 7, 3) := by decide +kernel
theorem dX6_mark_30 : decode cX6_mark 30 = .ok (.iconst 2, 1) := by decide +kernel
theorem dX6_mark_31 : decode cX6_mark 31 = .ok (.goto 4, 3) := by decide +kernel
theorem dX6_mark_34 : decode cX6_mark 34 = .ok (.iconst 0, 1) := by decide +kernel
theorem dX6_mark_35 : decode cX6_mark 35 = .ok (.putfield 80, 3) := by decide +kernel
theorem dX6_mark_38 : decode cX6_mark 38 = .ok (.aload_n 0, 1) := by decide +kernel
theorem dX6_mark_39 : decode cX6_mark 39 = .ok (.getfield 80, 3) := by decide +kernel
theorem dX6_mark_42 : decode cX6_mark 42 = .ok (.ifCond .le 5, 3) := by decide +kernel
theorem dX6_mark_45 : decode cX6_mark 45 = .ok (.iconst 0, 1) := by decide +kernel
theorem dX6_mark_46 : decode cX6_mark 46 = .ok (.ireturn, 1) := by decide +kernel
theorem dX6_mark_47 : decode cX6_mark 47 = .ok (.aload_n 0, 1) := by decide +kernel
theorem dX6_mark_48 : decode cX6_mark 48 = .ok (.iload_n 1, 1) := by decide +kernel
theorem dX6_mark_49 : decode cX6_mark 49 = .ok (.iload_n 2, 1) := by decide +kernel
theorem dX6_mark_50 : decode cX6_mark 50 = .ok (.invokevirtual 223, 3) := by decide +kernel
theorem dX6_mark_53 : decode cX6_mark 53 = .ok (.istore 4, 2) := by decide +kernel
theorem dX6_mark_55 : decode cX6_mark 55 = .ok (.aload_n 0, 1) := by decide +kernel
theorem dX6_mark_56 : decode cX6_mark 56 = .ok (.iload_n 1, 1) := by decide +kernel
theorem dX6_mark_57 : decode cX6_mark 57 = .ok (.iload_n 2, 1) := by decide +kernel
theorem dX6_mark_58 : decode cX6_mark 58 = .ok (.iload_n 3, 1) := by decide +kernel
theorem dX6_mark_59 : decode cX6_mark 59 = .ok (.invokevirtual 226, 3) := by decide +kernel
theorem dX6_mark_62 : decode cX6_mark 62 = .ok (.iload 4, 2) := by decide +kernel
theorem dX6_mark_64 : decode cX6_mark 64 = .ok (.ireturn, 1) := by decide +kernel
theorem dX6_markRiver_0 : decode cX6_markRiver 0 = .ok (.aload_n 0, 1) := by decide +kernel
theorem dX6_markRiver_1 : decode cX6_markRiver 1 = .ok (.aload_n 0, 1) := by decide +kernel
theorem dX6_markRiver_2 : decode cX6_markRiver 2 = .ok (.iload_n 1, 1) := by decide +kernel
theorem dX6_markRiver_3 : decode cX6_markRiver 3 = .ok (.invokevirtual 217, 3) := by decide +kernel
theorem dX6_markRiver_6 : decode cX6_markRiver 6 = .ok (.ifCond .eq 15, 3) := by decide +kernel
theorem dX6_markRiver_9 : decode cX6_markRiver 9 = .ok (.aload_n 0, 1) := by decide +kernel
theorem dX6_markRiver_10 : decode cX6_markRiver 10 = .ok (.iload_n 2, 1) := by decide +kernel
theorem dX6_markRiver_11 : decode cX6_markRiver 11 = .ok (.invokevirtual 186, 3) := by decide +kernel
theorem dX6_markRiver_14 : decode cX6_markRiver 14 = .ok (.ifCond .eq 7, 3) := by decide +kernel
theorem dX6_markRiver_17 : decode cX6_markRiver 17 = .ok (.iconst 1, 1) := by decide +kernel
theorem dX6_markRiver_18 : decode cX6_markRiver 18 = .ok (.goto 4, 3) := by decide +kernel
theorem dX6_markRiver_21 : decode cX6_markRiver 21 = .ok (.iconst 0, 1) := by decide +kernel
theorem dX6_markRiver_22 : decode cX6_markRiver 22 = .ok (.invokevirtual 137, 3) := by decide +kernel
theorem dX6_markRiver_25 : decode cX6_markRiver 25 = .ok (.ifCond .le 5, 3) := by decide +kernel
theorem dX6_markRiver_28 : decode cX6_markRiver 28 = .ok (.iconst 0, 1) := by decide +kernel
theorem dX6_markRiver_29 : decode cX6_markRiver 29 = .ok (.ireturn, 1) := by decide +kernel
theorem dX6_markRiver_30 : decode cX6_markRiver 30 = .ok (.iconst 0, 1) := by decide +kernel
theorem dX6_markRiver_31 : decode cX6_markRiver 31 = .ok (.istore_n 3, 1) := by decide +kernel
theorem dX6_markRiver_32 : decode cX6_markRiver 32 = .ok (.iconst 0, 1) := by decide +kernel
theorem dX6_markRiver_33 : decode cX6_markRiver 33 = .ok (.istore 4, 2) := by decide +kernel
theorem dX6_markRiver_35 : decode cX6_markRiver 35 = .ok (.iload 4, 2) := by decide +kernel
theorem dX6_markRiver_37 : decode cX6_markRiver 37 = .ok (.aload_n 0, 1) := by decide +kernel
theorem dX6_markRiver_38 : decode cX6_markRiver 38 = .ok (.getfield 96, 3) := by decide +kernel
theorem dX6_markRiver_41 : decode cX6_markRiver 41 = .ok (.if_icmp .ge 58, 3) := by decide +kernel
theorem dX6_markRiver_44 : decode cX6_markRiver 44 = .ok (.aload_n 0, 1) := by decide +kernel
theorem dX6_markRiver_45 : decode cX6_markRiver 45 = .ok (.iload_n 2, 1) := by decide +kernel
theorem dX6_markRiver_46 : decode cX6_markRiver 46 = .ok (.iload 4, 2) := by decide +kernel
theorem dX6_markRiver_48 : decode cX6_markRiver 48 = .ok (.invokevirtual 183, 3) := by decide +kernel
theorem dX6_markRiver_51 : decode cX6_markRiver 51 = .ok (.ifCond .eq 42, 3) := by decide +kernel
theorem dX6_markRiver_54 : decode cX6_markRiver 54 = .ok (.aload_n 0, 1) := by decide +kernel
theorem dX6_markRiver_55 : decode cX6_markRiver 55 = .ok (.iload_n 1, 1) := by decide +kernel
theorem dX6_markRiver_56 : decode cX6_markRiver 56 = .ok (.iload 4, 2) := by decide +kernel
theorem dX6_markRiver_58 : decode cX6_markRiver 58 = .ok (.invokevirtual 220, 3) := by decide +kernel
theorem dX6_markRiver_61 : decode cX6_markRiver 61 = .ok (.ifCond .ne 6, 3) := by decide +kernel
theorem dX6_markRiver_64 : decode cX6_markRiver 64 = .ok (.goto 29, 3) := by decide +kernel
theorem dX6_markRiver_67 : decode cX6_markRiver 67 = .ok (.iload_n 3, 1) := by decide +kernel
theorem dX6_markRiver_68 : decode cX6_markRiver 68 = .ok (.aload_n 0, 1) := by decide +kernel
theorem dX6_markRiver_69 : decode cX6_markRiver 69 = .ok (.iload_n 1, 1) := by decide +kernel
theorem dX6_markRiver_70 : decode cX6_markRiver 70 = .ok (.iload 4, 2) := by decide +kernel
theorem dX6_markRiver_72 : decode cX6_markRiver 72 = .ok (.invokevirtual 223, 3) := by decide +kernel
theorem dX6_markRiver_75 : decode cX6_markRiver 75 = .ok (.ifCond .eq 7, 3) := by decide +kernel
theorem dX6_markRiver_78 : decode cX6_markRiver 78 = .ok (.iconst 0, 1) := by decide +kernel
theorem dX6_markRiver_79 : decode cX6_markRiver 79 = .ok (.goto 4, 3) := by decide +kernel
theorem dX6_markRiver_82 : decode cX6_markRiver 82 = .ok (.iconst 1, 1) := by decide +kernel
theorem dX6_markRiver_83 : decode cX6_markRiver 83 = .ok (.iadd, 1) := by decide +kernel
theorem dX6_markRiver_84 : decode cX6_markRiver 84 = .ok (.istore_n 3, 1) := by decide +kernel
theorem dX6_markRiver_85 : decode cX6_markRiver 85 = .ok (.aload_n 0, 1) := by decide +kernel
theorem dX6_markRiver_86 : decode cX6_markRiver 86 = .ok (.iload_n 1, 1) := by decide +kernel
theorem dX6_markRiver_87 : decode cX6_markRiver 87 = .ok (.iload 4, 2) := by decide +kernel
theorem dX6_markRiver_89 : decode cX6_markRiver 89 = .ok (.iconst 1, 1) := by decide +kernel
theorem dX6_markRiver_90 : decode cX6_markRiver 90 = .ok (.invokevirtual 226, 3) := by decide +kernel
theorem dX6_markRiver_93 : decode cX6_markRiver 93 = .ok (.iinc 4 1, 3) := by decide +kernel
theorem dX6_markRiver_96 : decode cX6_markRiver 96 = .ok (.goto (-61), 3) := by decide +kernel
theorem dX6_markRiver_99 : decode cX6_markRiver 99 = .ok (.iload_n 3, 1) := by decide +kernel
theorem dX6_markRiver_100 : decode cX6_markRiver 100 = .ok (.ireturn, 1) := by decide +kernel
theorem dX6_wins_0 : decode cX6_wins 0 = .ok (.bipush 30, 2) := by decide +kernel
theorem dX6_wins_2 : decode cX6_wins 2 = .ok (.iload_n 1, 1) := by decide +kernel
theorem dX6_wins_3 : decode cX6_wins 3 = .ok (.imul, 1) := by decide +kernel
theorem dX6_wins_4 : decode cX6_wins 4 = .ok (.iload_n 2, 1) := by decide +kernel
theorem dX6_wins_5 : decode cX6_wins 5 = .ok (.iadd, 1) := by decide +kernel
theorem dX6_wins_6 : decode cX6_wins 6 = .ok (.istore_n 3, 1) := by decide +kernel
theorem dX6_wins_7 : decode cX6_wins 7 = .ok (.bipush 120, 2) := by decide +kernel
theorem dX6_wins_9 : decode cX6_wins 9 = .ok (.iload_n 2, 1) := by decide +kernel
theorem dX6_wins_10 : decode cX6_wins 10 = .ok (.iadd, 1) := by decide +kernel
theorem dX6_wins_11 : decode cX6_wins 11 = .ok (.istore 4, 2) := by decide +kernel
theorem dX6_wins_13 : decode cX6_wins 13 = .ok (.aload_n 0, 1) := by decide +kernel
theorem dX6_wins_14 : decode cX6_wins 14 = .ok (.getfield 65, 3) := by decide +kernel
theorem dX6_wins_17 : decode cX6_wins 17 = .ok (.iload_n 3, 1) := by decide +kernel
theorem dX6_wins_18 : decode cX6_wins 18 = .ok (.iaload, 1) := by decide +kernel
theorem dX6_wins_19 : decode cX6_wins 19 = .ok (.ifCond .eq 13, 3) := by decide +kernel
theorem dX6_wins_22 : decode cX6_wins 22 = .ok (.aload_n 0, 1) := by decide +kernel
theorem dX6_wins_23 : decode cX6_wins 23 = .ok (.getfield 65, 3) := by decide +kernel
theorem dX6_wins_26 : decode cX6_wins 26 = .ok (.iload 4, 2) := by decide +kernel
theorem dX6_wins_28 : decode cX6_wins 28 = .ok (.iaload, 1) := by decide +kernel
theorem dX6_wins_29 : decode cX6_wins 29 = .ok (.ifCond .ne 19, 3) := by decide +kernel
theorem dX6_wins_32 : decode cX6_wins 32 = .ok (.aload_n 0, 1) := by decide +kernel
theorem dX6_wins_33 : decode cX6_wins 33 = .ok (.getfield 65, 3) := by decide +kernel
theorem dX6_wins_36 : decode cX6_wins 36 = .ok (.iload 4, 2) := by decide +kernel
theorem dX6_wins_38 : decode cX6_wins 38 = .ok (.iaload, 1) := by decide +kernel
theorem dX6_wins_39 : decode cX6_wins 39 = .ok (.ifCond .ne 7, 3) := by decide +kernel
theorem dX6_wins_42 : decode cX6_wins 42 = .ok (.iconst 1, 1) := by decide +kernel
theorem dX6_wins_43 : decode cX6_wins 43 = .ok (.goto 4, 3) := by decide +kernel
theorem dX6_wins_46 : decode cX6_wins 46 = .ok (.iconst 0, 1) := by decide +kernel
theorem dX6_wins_47 : decode cX6_wins 47 = .ok (.ireturn, 1) := by decide +kernel
theorem dX6_wins_48 : decode cX6_wins 48 = .ok (.aload_n 0, 1) := by decide +kernel
theorem dX6_wins_49 : decode cX6_wins 49 = .ok (.getfield 68, 3) := by decide +kernel
theorem dX6_wins_52 : decode cX6_wins 52 = .ok (.iload_n 3, 1) := by decide +kernel
theorem dX6_wins_53 : decode cX6_wins 53 = .ok (.iaload, 1) := by decide +kernel
theorem dX6_wins_54 : decode cX6_wins 54 = .ok (.aload_n 0, 1) := by decide +kernel
theorem dX6_wins_55 : decode cX6_wins 55 = .ok (.getfield 68, 3) := by decide +kernel
theorem dX6_wins_58 : decode cX6_wins 58 = .ok (.iload 4, 2) := by decide +kernel
theorem dX6_wins_60 : decode cX6_wins 60 = .ok (.iaload, 1) := by decide +kernel
theorem dX6_wins_61 : decode cX6_wins 61 = .ok (.if_icmp .eq 25, 3) := by decide +kernel
theorem dX6_wins_64 : decode cX6_wins 64 = .ok (.aload_n 0, 1) := by decide +kernel
theorem dX6_wins_65 : decode cX6_wins 65 = .ok (.getfield 68, 3) := by decide +kernel
theorem dX6_wins_68 : decode cX6_wins 68 = .ok (.iload_n 3, 1) := by decide +kernel
theorem dX6_wins_69 : decode cX6_wins 69 = .ok (.iaload, 1) := by decide +kernel
theorem dX6_wins_70 : decode cX6_wins 70 = .ok (.aload_n 0, 1) := by decide +kernel
theorem dX6_wins_71 : decode cX6_wins 71 = .ok (.getfield 68, 3) := by decide +kernel
theorem dX6_wins_74 : decode cX6_wins 74 = .ok (.iload 4, 2) := by decide +kernel
theorem dX6_wins_76 : decode cX6_wins 76 = .ok (.iaload, 1) := by decide +kernel
theorem dX6_wins_77 : decode cX6_wins 77 = .ok (.if_icmp .le 7, 3) := by decide +kernel
theorem dX6_wins_80 : decode cX6_wins 80 = .ok (.iconst 1, 1) := by decide +kernel
theorem dX6_wins_81 : decode cX6_wins 81 = .ok (.goto 4, 3) := by decide +kernel
theorem dX6_wins_84 : decode cX6_wins 84 = .ok (.iconst 0, 1) := by decide +kernel
theorem dX6_wins_85 : decode cX6_wins 85 = .ok (.ireturn, 1) := by decide +kernel
theorem dX6_wins_86 : decode cX6_wins 86 = .ok (.aload_n 0, 1) := by decide +kernel
theorem dX6_wins_87 : decode cX6_wins 87 = .ok (.getfield 65, 3) := by decide +kernel
theorem dX6_wins_90 : decode cX6_wins 90 = .ok (.iload_n 3, 1) := by decide +kernel
theorem dX6_wins_91 : decode cX6_wins 91 = .ok (.iaload, 1) := by decide +kernel
theorem dX6_wins_92 : decode cX6_wins 92 = .ok (.aload_n 0, 1) := by decide +kernel
theorem dX6_wins_93 : decode cX6_wins 93 = .ok (.getfield 65, 3) := by decide +kernel
theorem dX6_wins_96 : decode cX6_wins 96 = .ok (.iload 4, 2) := by decide +kernel
theorem dX6_wins_98 : decode cX6_wins 98 = .ok (.iaload, 1) := by decide +kernel
theorem dX6_wins_99 : decode cX6_wins 99 = .ok (.if_icmp .eq 19, 3) := by decide +kernel
theorem dX6_wins_102 : decode cX6_wins 102 = .ok (.aload_n 0, 1) := by decide +kernel
theorem dX6_wins_103 : decode cX6_wins 103 = .ok (.getfield 65, 3) := by decide +kernel
theorem dX6_wins_106 : decode cX6_wins 106 = .ok (.iload_n 3, 1) := by decide +kernel
theorem dX6_wins_107 : decode cX6_wins 107 = .ok (.iaload, 1) := by decide +kernel
theorem dX6_wins_108 : decode cX6_wins 108 = .ok (.iconst 2, 1) := by decide +kernel
theorem dX6_wins_109 : decode cX6_wins 109 = .ok (.if_icmp .ne 7, 3) := by decide +kernel
theorem dX6_wins_112 : decode cX6_wins 112 = .ok (.iconst 1, 1) := by decide +kernel
theorem dX6_wins_113 : decode cX6_wins 113 = .ok (.goto 4, 3) := by decide +kernel
theorem dX6_wins_116 : decode cX6_wins 116 = .ok (.iconst 0, 1) := by decide +kernel
theorem dX6_wins_117 : decode cX6_wins 117 = .ok (.ireturn, 1) := by decide +kernel
theorem dX6_wins_118 : decode cX6_wins 118 = .ok (.aload_n 0, 1) := by decide +kernel
theorem dX6_wins_119 : decode cX6_wins 119 = .ok (.getfield 71, 3) := by decide +kernel
theorem dX6_wins_122 : decode cX6_wins 122 = .ok (.iload_n 3, 1) := by decide +kernel
theorem dX6_wins_123 : decode cX6_wins 123 = .ok (.iaload, 1) := by decide +kernel
theorem dX6_wins_124 : decode cX6_wins 124 = .ok (.aload_n 0, 1) := by decide +kernel
theorem dX6_wins_125 : decode cX6_wins 125 = .ok (.getfield 71, 3) := by decide +kernel
theorem dX6_wins_128 : decode cX6_wins 128 = .ok (.iload 4, 2) := by decide +kernel
theorem dX6_wins_130 : decode cX6_wins 130 = .ok (.iaload, 1) := by decide +kernel
theorem dX6_wins_131 : decode cX6_wins 131 = .ok (.if_icmp .lt 7, 3) := by decide +kernel
theorem dX6_wins_134 : decode cX6_wins 134 = .ok (.iconst 1, 1) := by decide +kernel
theorem dX6_wins_135 : decode cX6_wins 135 = .ok (.goto 4, 3) := by decide +kernel
theorem dX6_wins_138 : decode cX6_wins 138 = .ok (.iconst 0, 1) := by decide +kernel
theorem dX6_wins_139 : decode cX6_wins 139 = .ok (.ireturn, 1) := by decide +kernel
theorem dX6_sync_0 : decode cX6_sync 0 = .ok (.aload_n 0, 1) := by decide +kernel
theorem dX6_sync_1 : decode cX6_sync 1 = .ok (.aload_n 0, 1) := by decide +kernel
theorem dX6_sync_2 : decode cX6_sync 2 = .ok (.iload_n 1, 1) := by decide +kernel
theorem dX6_sync_3 : decode cX6_sync 3 = .ok (.invokevirtual 217, 3) := by decide +kernel
theorem dX6_sync_6 : decode cX6_sync 6 = .ok (.invokevirtual 137, 3) := by decide +kernel
theorem dX6_sync_9 : decode cX6_sync 9 = .ok (.ifCond .le 5, 3) := by decide +kernel
theorem dX6_sync_12 : decode cX6_sync 12 = .ok (.iconst 0, 1) := by decide +kernel
theorem dX6_sync_13 : decode cX6_sync 13 = .ok (.ireturn, 1) := by decide +kernel
theorem dX6_sync_14 : decode cX6_sync 14 = .ok (.iconst 0, 1) := by decide +kernel
theorem dX6_sync_15 : decode cX6_sync 15 = .ok (.istore_n 2, 1) := by decide +kernel
theorem dX6_sync_16 : decode cX6_sync 16 = .ok (.iconst 0, 1) := by decide +kernel
theorem dX6_sync_17 : decode cX6_sync 17 = .ok (.istore_n 3, 1) := by decide +kernel
theorem dX6_sync_18 : decode cX6_sync 18 = .ok (.iload_n 3, 1) := by decide +kernel
theorem dX6_sync_19 : decode cX6_sync 19 = .ok (.aload_n 0, 1) := by decide +kernel
theorem dX6_sync_20 : decode cX6_sync 20 = .ok (.getfield 96, 3) := by decide +kernel
theorem dX6_sync_23 : decode cX6_sync 23 = .ok (.if_icmp .ge 69, 3) := by decide +kernel
theorem dX6_sync_26 : decode cX6_sync 26 = .ok (.aload_n 0, 1) := by decide +kernel
theorem dX6_sync_27 : decode cX6_sync 27 = .ok (.iload_n 3, 1) := by decide +kernel
theorem dX6_sync_28 : decode cX6_sync 28 = .ok (.invokevirtual 204, 3) := by decide +kernel
theorem dX6_sync_31 : decode cX6_sync 31 = .ok (.istore 4, 2) := by decide +kernel
theorem dX6_sync_33 : decode cX6_sync 33 = .ok (.aload_n 0, 1) := by decide +kernel
theorem dX6_sync_34 : decode cX6_sync 34 = .ok (.iload_n 1, 1) := by decide +kernel
theorem dX6_sync_35 : decode cX6_sync 35 = .ok (.iload_n 3, 1) := by decide +kernel
theorem dX6_sync_36 : decode cX6_sync 36 = .ok (.invokevirtual 220, 3) := by decide +kernel
theorem dX6_sync_39 : decode cX6_sync 39 = .ok (.ifCond .eq 22, 3) := by decide +kernel
theorem dX6_sync_42 : decode cX6_sync 42 = .ok (.aload_n 0, 1) := by decide +kernel
theorem dX6_sync_43 : decode cX6_sync 43 = .ok (.iload_n 1, 1) := by decide +kernel
theorem dX6_sync_44 : decode cX6_sync 44 = .ok (.iload_n 3, 1) := by decide +kernel
theorem dX6_sync_45 : decode cX6_sync 45 = .ok (.invokevirtual 229, 3) := by decide +kernel
theorem dX6_sync_48 : decode cX6_sync 48 = .ok (.ifCond .eq 13, 3) := by decide +kernel
theorem dX6_sync_51 : decode cX6_sync 51 = .ok (.aload_n 0, 1) := by decide +kernel
theorem dX6_sync_52 : decode cX6_sync 52 = .ok (.iload_n 1, 1) := by decide +kernel
theorem dX6_sync_53 : decode cX6_sync 53 = .ok (.iconst 4, 1) := by decide +kernel
theorem dX6_sync_54 : decode cX6_sync 54 = .ok (.iload_n 3, 1) := by decide +kernel
theorem dX6_sync_55 : decode cX6_sync 55 = .ok (.invokevirtual 210, 3) := by decide +kernel
theorem dX6_sync_58 : decode cX6_sync 58 = .ok (.goto 10, 3) := by decide +kernel
theorem dX6_sync_61 : decode cX6_sync 61 = .ok (.aload_n 0, 1) := by decide +kernel
theorem dX6_sync_62 : decode cX6_sync 62 = .ok (.iconst 4, 1) := by decide +kernel
theorem dX6_sync_63 : decode cX6_sync 63 = .ok (.iload_n 1, 1) := by decide +kernel
theorem dX6_sync_64 : decode cX6_sync 64 = .ok (.iload_n 3, 1) := by decide +kernel
theorem dX6_sync_65 : decode cX6_sync 65 = .ok (.invokevirtual 210, 3) := by decide +kernel
theorem dX6_sync_68 : decode cX6_sync 68 = .ok (.iload_n 2, 1) := by decide +kernel
theorem dX6_sync_69 : decode cX6_sync 69 = .ok (.aload_n 0, 1) := by decide +kernel
theorem dX6_sync_70 : decode cX6_sync 70 = .ok (.iload_n 3, 1) := by decide +kernel
theorem dX6_sync_71 : decode cX6_sync 71 = .ok (.invokevirtual 204, 3) := by decide +kernel
theorem dX6_sync_74 : decode cX6_sync 74 = .ok (.iload 4, 2) := by decide +kernel
theorem dX6_sync_76 : decode cX6_sync 76 = .ok (.if_icmp .ne 7, 3) := by decide +kernel
theorem dX6_sync_79 : decode cX6_sync 79 = .ok (.iconst 0, 1) := by decide +kernel
theorem dX6_sync_80 : decode cX6_sync 80 = .ok (.goto 4, 3) := by decide +kernel
theorem dX6_sync_83 : decode cX6_sync 83 = .ok (.iconst 1, 1) := by decide +kernel
theorem dX6_sync_84 : decode cX6_sync 84 = .ok (.iadd, 1) := by decide +kernel
theorem dX6_sync_85 : decode cX6_sync 85 = .ok (.istore_n 2, 1) := by decide +kernel
theorem dX6_sync_86 : decode cX6_sync 86 = .ok (.iinc 3 1, 3) := by decide +kernel
theorem dX6_sync_89 : decode cX6_sync 89 = .ok (.goto (-71), 3) := by decide +kernel
theorem dX6_sync_92 : decode cX6_sync 92 = .ok (.aload_n 0, 1) := by decide +kernel
theorem dX6_sync_93 : decode cX6_sync 93 = .ok (.iload_n 1, 1) := by decide +kernel
theorem dX6_sync_94 : decode cX6_sync 94 = .ok (.invokevirtual 214, 3) := by decide +kernel
theorem dX6_sync_97 : decode cX6_sync 97 = .ok (.iload_n 2, 1) := by decide +kernel
theorem dX6_sync_98 : decode cX6_sync 98 = .ok (.ireturn, 1) := by decide +kernel
theorem dX6_isRead_0 : decode cX6_isRead 0 = .ok (.aload_n 0, 1) := by decide +kernel
theorem dX6_isRead_1 : decode cX6_isRead 1 = .ok (.aload_n 0, 1) := by decide +kernel
theorem dX6_isRead_2 : decode cX6_isRead 2 = .ok (.iload_n 1, 1) := by decide +kernel
theorem dX6_isRead_3 : decode cX6_isRead 3 = .ok (.invokevirtual 171, 3) := by decide +kernel
theorem dX6_isRead_6 : decode cX6_isRead 6 = .ok (.invokevirtual 137, 3) := by decide +kernel
theorem dX6_isRead_9 : decode cX6_isRead 9 = .ok (.ifCond .ne 15, 3) := by decide +kernel
theorem dX6_isRead_12 : decode cX6_isRead 12 = .ok (.aload_n 0, 1) := by decide +kernel
theorem dX6_isRead_13 : decode cX6_isRead 13 = .ok (.iload_n 1, 1) := by decide +kernel
theorem dX6_isRead_14 : decode cX6_isRead 14 = .ok (.invokevirtual 204, 3) := by decide +kernel
theorem dX6_isRead_17 : decode cX6_isRead 17 = .ok (.ifCond .eq 7, 3) := by decide +kernel
theorem dX6_isRead_20 : decode cX6_isRead 20 = .ok (.iconst 1, 1) := by decide +kernel
theorem dX6_isRead_21 : decode cX6_isRead 21 = .ok (.goto 4, 3) := by decide +kernel
theorem dX6_isRead_24 : decode cX6_isRead 24 = .ok (.iconst 0, 1) := by decide +kernel
theorem dX6_isRead_25 : decode cX6_isRead 25 = .ok (.ireturn, 1) := by decide +kernel
theorem dX6_isReadOn_0 : decode cX6_isReadOn 0 = .ok (.aload_n 0, 1) := by decide +kernel
theorem dX6_isReadOn_1 : decode cX6_isReadOn 1 = .ok (.aload_n 0, 1) := by decide +kernel
theorem dX6_isReadOn_2 : decode cX6_isReadOn 2 = .ok (.iload_n 1, 1) := by decide +kernel
theorem dX6_isReadOn_3 : decode cX6_isReadOn 3 = .ok (.invokevirtual 217, 3) := by decide +kernel
theorem dX6_isReadOn_6 : decode cX6_isReadOn 6 = .ok (.ifCond .eq 11, 3) := by decide +kernel
theorem dX6_isReadOn_9 : decode cX6_isReadOn 9 = .ok (.aload_n 0, 1) := by decide +kernel
theorem dX6_isReadOn_10 : decode cX6_isReadOn 10 = .ok (.iload_n 2, 1) := by decide +kernel
theorem dX6_isReadOn_11 : decode cX6_isReadOn 11 = .ok (.invokevirtual 171, 3) := by decide +kernel
theorem dX6_isReadOn_14 : decode cX6_isReadOn 14 = .ok (.ifCond .ne 7, 3) := by decide +kernel
theorem dX6_isReadOn_17 : decode cX6_isReadOn 17 = .ok (.iconst 1, 1) := by decide +kernel
theorem dX6_isReadOn_18 : decode cX6_isReadOn 18 = .ok (.goto 17, 3) := by decide +kernel
theorem dX6_isReadOn_21 : decode cX6_isReadOn 21 = .ok (.aload_n 0, 1) := by decide +kernel
theorem dX6_isReadOn_22 : decode cX6_isReadOn 22 = .ok (.iload_n 1, 1) := by decide +kernel
theorem dX6_isReadOn_23 : decode cX6_isReadOn 23 = .ok (.iload_n 2, 1) := by decide +kernel
theorem dX6_isReadOn_24 : decode cX6_isReadOn 24 = .ok (.invokevirtual 220, 3) := by decide +kernel
theorem dX6_isReadOn_27 : decode cX6_isReadOn 27 = .ok (.ifCond .ne 7, 3) := by decide +kernel
theorem dX6_isReadOn_30 : decode cX6_isReadOn 30 = .ok (.iconst 2, 1) := by decide +kernel
theorem dX6_isReadOn_31 : decode cX6_isReadOn 31 = .ok (.goto 4, 3) := by decide +kernel
theorem dX6_isReadOn_34 : decode cX6_isReadOn 34 = .ok (.iconst 0, 1) := by decide +kernel
theorem dX6_isReadOn_35 : decode cX6_isReadOn 35 = .ok (.putfield 80, 3) := by decide +kernel
theorem dX6_isReadOn_38 : decode cX6_isReadOn 38 = .ok (.aload_n 0, 1) := by decide +kernel
theorem dX6_isReadOn_39 : decode cX6_isReadOn 39 = .ok (.getfield 80, 3) := by decide +kernel
theorem dX6_isReadOn_42 : decode cX6_isReadOn 42 = .ok (.ifCond .ne 16, 3) := by decide +kernel
theorem dX6_isReadOn_45 : decode cX6_isReadOn 45 = .ok (.aload_n 0, 1) := by decide +kernel
theorem dX6_isReadOn_46 : decode cX6_isReadOn 46 = .ok (.iload_n 1, 1) := by decide +kernel
theorem dX6_isReadOn_47 : decode cX6_isReadOn 47 = .ok (.iload_n 2, 1) := by decide +kernel
theorem dX6_isReadOn_48 : decode cX6_isReadOn 48 = .ok (.invokevirtual 223, 3) := by decide +kernel
theorem dX6_isReadOn_51 : decode cX6_isReadOn 51 = .ok (.ifCond .eq 7, 3) := by decide +kernel
theorem dX6_isReadOn_54 : decode cX6_isReadOn 54 = .ok (.iconst 1, 1) := by decide +kernel
theorem dX6_isReadOn_55 : decode cX6_isReadOn 55 = .ok (.goto 4, 3) := by decide +kernel
theorem dX6_isReadOn_58 : decode cX6_isReadOn 58 = .ok (.iconst 0, 1) := by decide +kernel
theorem dX6_isReadOn_59 : decode cX6_isReadOn 59 = .ok (.ireturn, 1) := by decide +kernel
theorem dX6_knownVersions_0 : decode cX6_knownVersions 0 = .ok (.aload_n 0, 1) := by decide +kernel
theorem dX6_knownVersions_1 : decode cX6_knownVersions 1 = .ok (.aload_n 0, 1) := by decide +kernel
theorem dX6_knownVersions_2 : decode cX6_knownVersions 2 = .ok (.iload_n 1, 1) := by decide +kernel
theorem dX6_knownVersions_3 : decode cX6_knownVersions 3 = .ok (.invokevirtual 217, 3) := by decide +kernel
theorem dX6_knownVersions_6 : decode cX6_knownVersions 6 = .ok (.ifCond .eq 15, 3) := by decide +kernel
theorem dX6_knownVersions_9 : decode cX6_knownVersions 9 = .ok (.aload_n 0, 1) := by decide +kernel
theorem dX6_knownVersions_10 : decode cX6_knownVersions 10 = .ok (.iload_n 2, 1) := by decide +kernel
theorem dX6_knownVersions_11 : decode cX6_knownVersions 11 = .ok (.invokevirtual 171, 3) := by decide +kernel
theorem dX6_knownVersions_14 : decode cX6_knownVersions 14 = .ok (.ifCond .eq 7, 3) := by decide +kernel
theorem dX6_knownVersions_17 : decode cX6_knownVersions 17 = .ok (.iconst 1, 1) := by decide +kernel
theorem dX6_knownVersions_18 : decode cX6_knownVersions 18 = .ok (.goto 4, 3) := by decide +kernel
theorem dX6_knownVersions_21 : decode cX6_knownVersions 21 = .ok (.iconst 0, 1) := by decide +kernel
theorem dX6_knownVersions_22 : decode cX6_knownVersions 22 = .ok (.invokevirtual 137, 3) := by decide +kernel
theorem dX6_knownVersions_25 : decode cX6_knownVersions 25 = .ok (.ifCond .le 7, 3) := by decide +kernel
theorem dX6_knownVersions_28 : decode cX6_knownVersions 28 = .ok (.iconst 0, 1) := by decide +kernel
theorem dX6_knownVersions_29 : decode cX6_knownVersions 29 = .ok (.goto 14, 3) := by decide +kernel
theorem dX6_knownVersions_32 : decode cX6_knownVersions 32 = .ok (.aload_n 0, 1) := by decide +kernel
theorem dX6_knownVersions_33 : decode cX6_knownVersions 33 = .ok (.getfield 74, 3) := by decide +kernel
theorem dX6_knownVersions_36 : decode cX6_knownVersions 36 = .ok (.bipush 30, 2) := by decide +kernel
theorem dX6_knownVersions_38 : decode cX6_knownVersions 38 = .ok (.iload_n 1, 1) := by decide +kernel
theorem dX6_knownVersions_39 : decode cX6_knownVersions 39 = .ok (.imul, 1) := by decide +kernel
theorem dX6_knownVersions_40 : decode cX6_knownVersions 40 = .ok (.iload_n 2, 1) := by decide +kernel
theorem dX6_knownVersions_41 : decode cX6_knownVersions 41 = .ok (.iadd, 1) := by decide +kernel
theorem dX6_knownVersions_42 : decode cX6_knownVersions 42 = .ok (.iaload, 1) := by decide +kernel
theorem dX6_knownVersions_43 : decode cX6_knownVersions 43 = .ok (.ireturn, 1) := by decide +kernel
theorem dX6_meanVersions_0 : decode cX6_meanVersions 0 = .ok (.aload_n 0, 1) := by decide +kernel
theorem dX6_meanVersions_1 : decode cX6_meanVersions 1 = .ok (.aload_n 0, 1) := by decide +kernel
theorem dX6_meanVersions_2 : decode cX6_meanVersions 2 = .ok (.getfield 96, 3) := by decide +kernel
theorem dX6_meanVersions_5 : decode cX6_meanVersions 5 = .ok (.ifCond .le 7, 3) := by decide +kernel
theorem dX6_meanVersions_8 : decode cX6_meanVersions 8 = .ok (.iconst 1, 1) := by decide +kernel
theorem dX6_meanVersions_9 : decode cX6_meanVersions 9 = .ok (.goto 4, 3) := by decide +kernel
theorem dX6_meanVersions_12 : decode cX6_meanVersions 12 = .ok (.iconst 0, 1) := by decide +kernel
theorem dX6_meanVersions_13 : decode cX6_meanVersions 13 = .ok (.invokevirtual 137, 3) := by decide +kernel
theorem dX6_meanVersions_16 : decode cX6_meanVersions 16 = .ok (.ifCond .le 5, 3) := by decide +kernel
theorem dX6_meanVersions_19 : decode cX6_meanVersions 19 = .ok (.dconst 0, 1) := by decide +kernel
theorem dX6_meanVersions_20 : decode cX6_meanVersions 20 = .ok (.dreturn, 1) := by decide +kernel
theorem dX6_meanVersions_21 : decode cX6_meanVersions 21 = .ok (.iconst 0, 1) := by decide +kernel
theorem dX6_meanVersions_22 : decode cX6_meanVersions 22 = .ok (.istore_n 1, 1) := by decide +kernel
theorem dX6_meanVersions_23 : decode cX6_meanVersions 23 = .ok (.iconst 0, 1) := by decide +kernel
theorem dX6_meanVersions_24 : decode cX6_meanVersions 24 = .ok (.istore_n 2, 1) := by decide +kernel
theorem dX6_meanVersions_25 : decode cX6_meanVersions 25 = .ok (.iload_n 2, 1) := by decide +kernel
theorem dX6_meanVersions_26 : decode cX6_meanVersions 26 = .ok (.aload_n 0, 1) := by decide +kernel
theorem dX6_meanVersions_27 : decode cX6_meanVersions 27 = .ok (.getfield 96, 3) := by decide +kernel
theorem dX6_meanVersions_30 : decode cX6_meanVersions 30 = .ok (.if_icmp .ge 18, 3) := by decide +kernel
theorem dX6_meanVersions_33 : decode cX6_meanVersions 33 = .ok (.iload_n 1, 1) := by decide +kernel
theorem dX6_meanVersions_34 : decode cX6_meanVersions 34 = .ok (.aload_n 0, 1) := by decide +kernel
theorem dX6_meanVersions_35 : decode cX6_meanVersions 35 = .ok (.getfield 29, 3) := by decide +kernel
theorem dX6_meanVersions_38 : decode cX6_meanVersions 38 = .ok (.iload_n 2, 1) := by decide +kernel
theorem dX6_meanVersions_39 : decode cX6_meanVersions 39 = .ok (.iaload, 1) := by decide +kernel
theorem dX6_meanVersions_40 : decode cX6_meanVersions 40 = .ok (.iadd, 1) := by decide +kernel
theorem dX6_meanVersions_41 : decode cX6_meanVersions 41 = .ok (.istore_n 1, 1) := by decide +kernel
theorem dX6_meanVersions_42 : decode cX6_meanVersions 42 = .ok (.iinc 2 1, 3) := by decide +kernel
theorem dX6_meanVersions_45 : decode cX6_meanVersions 45 = .ok (.goto (-20), 3) := by decide +kernel
theorem dX6_meanVersions_48 : decode cX6_meanVersions 48 = .ok (.iload_n 1, 1) := by decide +kernel
theorem dX6_meanVersions_49 : decode cX6_meanVersions 49 = .ok (.i2d, 1) := by decide +kernel
theorem dX6_meanVersions_50 : decode cX6_meanVersions 50 = .ok (.aload_n 0, 1) := by decide +kernel
theorem dX6_meanVersions_51 : decode cX6_meanVersions 51 = .ok (.getfield 96, 3) := by decide +kernel
theorem dX6_meanVersions_54 : decode cX6_meanVersions 54 = .ok (.i2d, 1) := by decide +kernel
theorem dX6_meanVersions_55 : decode cX6_meanVersions 55 = .ok (.ddiv, 1) := by decide +kernel
theorem dX6_meanVersions_56 : decode cX6_meanVersions 56 = .ok (.dreturn, 1) := by decide +kernel
theorem dX6_isSound_0 : decode cX6_isSound 0 = .ok (.aload_n 0, 1) := by decide +kernel
theorem dX6_isSound_1 : decode cX6_isSound 1 = .ok (.iconst 0, 1) := by decide +kernel
theorem dX6_isSound_2 : decode cX6_isSound 2 = .ok (.putfield 80, 3) := by decide +kernel
theorem dX6_isSound_5 : decode cX6_isSound 5 = .ok (.iconst 1, 1) := by decide +kernel
theorem dX6_isSound_6 : decode cX6_isSound 6 = .ok (.ireturn, 1) := by decide +kernel
