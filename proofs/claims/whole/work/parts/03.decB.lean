theorem dX10_init_0 : decode cX10_init 0 = .ok (.aload_n 0, 1) := by decide +kernel
theorem dX10_init_1 : decode cX10_init 1 = .ok (.invokespecial 1, 3) := by decide +kernel
theorem dX10_init_4 : decode cX10_init 4 = .ok (.aload_n 0, 1) := by decide +kernel
theorem dX10_init_5 : decode cX10_init 5 = .ok (.bipush 40, 2) := by decide +kernel
theorem dX10_init_7 : decode cX10_init 7 = .ok (.newarray .int, 2) := by decide +kernel
theorem dX10_init_9 : decode cX10_init 9 = .ok (.putfield 7, 3) := by decide +kernel
theorem dX10_init_12 : decode cX10_init 12 = .ok (.aload_n 0, 1) := by decide +kernel
theorem dX10_init_13 : decode cX10_init 13 = .ok (.bipush 40, 2) := by decide +kernel
theorem dX10_init_15 : decode cX10_init 15 = .ok (.newarray .int, 2) := by decide +kernel
theorem dX10_init_17 : decode cX10_init 17 = .ok (.putfield 13, 3) := by decide +kernel
theorem dX10_init_20 : decode cX10_init 20 = .ok (.aload_n 0, 1) := by decide +kernel
theorem dX10_init_21 : decode cX10_init 21 = .ok (.bipush 40, 2) := by decide +kernel
theorem dX10_init_23 : decode cX10_init 23 = .ok (.newarray .int, 2) := by decide +kernel
theorem dX10_init_25 : decode cX10_init 25 = .ok (.putfield 16, 3) := by decide +kernel
theorem dX10_init_28 : decode cX10_init 28 = .ok (.aload_n 0, 1) := by decide +kernel
theorem dX10_init_29 : decode cX10_init 29 = .ok (.bipush 8, 2) := by decide +kernel
theorem dX10_init_31 : decode cX10_init 31 = .ok (.newarray .int, 2) := by decide +kernel
theorem dX10_init_33 : decode cX10_init 33 = .ok (.putfield 19, 3) := by decide +kernel
theorem dX10_init_36 : decode cX10_init 36 = .ok (.aload_n 0, 1) := by decide +kernel
theorem dX10_init_37 : decode cX10_init 37 = .ok (.bipush 8, 2) := by decide +kernel
theorem dX10_init_39 : decode cX10_init 39 = .ok (.newarray .int, 2) := by decide +kernel
theorem dX10_init_41 : decode cX10_init 41 = .ok (.putfield 22, 3) := by decide +kernel
theorem dX10_init_44 : decode cX10_init 44 = .ok (.aload_n 0, 1) := by decide +kernel
theorem dX10_init_45 : decode cX10_init 45 = .ok (.bipush 8, 2) := by decide +kernel
theorem dX10_init_47 : decode cX10_init 47 = .ok (.newarray .int, 2) := by decide +kernel
theorem dX10_init_49 : decode cX10_init 49 = .ok (.putfield 25, 3) := by decide +kernel
theorem dX10_init_52 : decode cX10_init 52 = .ok (.aload_n 0, 1) := by decide +kernel
theorem dX10_init_53 : decode cX10_init 53 = .ok (.iconst 5, 1) := by decide +kernel
theorem dX10_init_54 : decode cX10_init 54 = .ok (.newarray .int, 2) := by decide +kernel
theorem dX10_init_56 : decode cX10_init 56 = .ok (.putfield 28, 3) := by decide +kernel
theorem dX10_init_59 : decode cX10_init 59 = .ok (.aload_n 0, 1) := by decide +kernel
theorem dX10_init_60 : decode cX10_init 60 = .ok (.iconst 5, 1) := by decide +kernel
theorem dX10_init_61 : decode cX10_init 61 = .ok (.newarray .int, 2) := by decide +kernel
theorem dX10_init_63 : decode cX10_init 63 = .ok (.putfield 31, 3) := by decide +kernel
theorem dX10_init_66 : decode cX10_init 66 = .ok (.aload_n 0, 1) := by decide +kernel
theorem dX10_init_67 : decode cX10_init 67 = .ok (.iconst 5, 1) := by decide +kernel
theorem dX10_init_68 : decode cX10_init 68 = .ok (.newarray .int, 2) := by decide +kernel
theorem dX10_init_70 : decode cX10_init 70 = .ok (.putfield 34, 3) := by decide +kernel
theorem dX10_init_73 : decode cX10_init 73 = .ok (.aload_n 0, 1) := by decide +kernel
theorem dX10_init_74 : decode cX10_init 74 = .ok (.iconst 5, 1) := by decide +kernel
theorem dX10_init_75 : decode cX10_init 75 = .ok (.newarray .int, 2) := by decide +kernel
theorem dX10_init_77 : decode cX10_init 77 = .ok (.putfield 37, 3) := by decide +kernel
theorem dX10_init_80 : decode cX10_init 80 = .ok (.aload_n 0, 1) := by decide +kernel
theorem dX10_init_81 : decode cX10_init 81 = .ok (.iconst 5, 1) := by decide +kernel
theorem dX10_init_82 : decode cX10_init 82 = .ok (.newarray .int, 2) := by decide +kernel
theorem dX10_init_84 : decode cX10_init 84 = .ok (.putfield 40, 3) := by decide +kernel
theorem dX10_init_87 : decode cX10_init 87 = .ok (.aload_n 0, 1) := by decide +kernel
theorem dX10_init_88 : decode cX10_init 88 = .ok (.iconst 5, 1) := by decide +kernel
theorem dX10_init_89 : decode cX10_init 89 = .ok (.newarray .int, 2) := by decide +kernel
theorem dX10_init_91 : decode cX10_init 91 = .ok (.putfield 43, 3) := by decide +kernel
theorem dX10_init_94 : decode cX10_init 94 = .ok (.aload_n 0, 1) := by decide +kernel
theorem dX10_init_95 : decode cX10_init 95 = .ok (.bipush 30, 2) := by decide +kernel
theorem dX10_init_97 : decode cX10_init 97 = .ok (.newarray .int, 2) := by decide +kernel
theorem dX10_init_99 : decode cX10_init 99 = .ok (.putfield 46, 3) := by decide +kernel
theorem dX10_init_102 : decode cX10_init 102 = .ok (.aload_n 0, 1) := by decide +kernel
theorem dX10_init_103 : decode cX10_init 103 = .ok (.bipush 6, 2) := by decide +kernel
theorem dX10_init_105 : decode cX10_init 105 = .ok (.newarray .int, 2) := by decide +kernel
theorem dX10_init_107 : decode cX10_init 107 = .ok (.putfield 49, 3) := by decide +kernel
theorem dX10_init_110 : decode cX10_init 110 = .ok (.aload_n 0, 1) := by decide +kernel
theorem dX10_init_111 : decode cX10_init 111 = .ok (.bipush 6, 2) := by decide +kernel
theorem dX10_init_113 : decode cX10_init 113 = .ok (.newarray .int, 2) := by decide +kernel
theorem dX10_init_115 : decode cX10_init 115 = .ok (.putfield 52, 3) := by decide +kernel
theorem dX10_init_118 : decode cX10_init 118 = .ok (.aload_n 0, 1) := by decide +kernel
theorem dX10_init_119 : decode cX10_init 119 = .ok (.bipush 6, 2) := by decide +kernel
theorem dX10_init_121 : decode cX10_init 121 = .ok (.newarray .int, 2) := by decide +kernel
theorem dX10_init_123 : decode cX10_init 123 = .ok (.putfield 55, 3) := by decide +kernel
theorem dX10_init_126 : decode cX10_init 126 = .ok (.aload_n 0, 1) := by decide +kernel
theorem dX10_init_127 : decode cX10_init 127 = .ok (.bipush 6, 2) := by decide +kernel
theorem dX10_init_129 : decode cX10_init 129 = .ok (.newarray .int, 2) := by decide +kernel
theorem dX10_init_131 : decode cX10_init 131 = .ok (.putfield 58, 3) := by decide +kernel
theorem dX10_init_134 : decode cX10_init 134 = .ok (.aload_n 0, 1) := by decide +kernel
theorem dX10_init_135 : decode cX10_init 135 = .ok (.bipush 6, 2) := by decide +kernel
theorem dX10_init_137 : decode cX10_init 137 = .ok (.newarray .int, 2) := by decide +kernel
theorem dX10_init_139 : decode cX10_init 139 = .ok (.putfield 61, 3) := by decide +kernel
theorem dX10_init_142 : decode cX10_init 142 = .ok (.aload_n 0, 1) := by decide +kernel
theorem dX10_init_143 : decode cX10_init 143 = .ok (.bipush 60, 2) := by decide +kernel
theorem dX10_init_145 : decode cX10_init 145 = .ok (.newarray .int, 2) := by decide +kernel
theorem dX10_init_147 : decode cX10_init 147 = .ok (.putfield 64, 3) := by decide +kernel
theorem dX10_init_150 : decode cX10_init 150 = .ok (.aload_n 0, 1) := by decide +kernel
theorem dX10_init_151 : decode cX10_init 151 = .ok (.bipush 60, 2) := by decide +kernel
theorem dX10_init_153 : decode cX10_init 153 = .ok (.newarray .int, 2) := by decide +kernel
theorem dX10_init_155 : decode cX10_init 155 = .ok (.putfield 67, 3) := by decide +kernel
theorem dX10_init_158 : decode cX10_init 158 = .ok (.aload_n 0, 1) := by decide +kernel
theorem dX10_init_159 : decode cX10_init 159 = .ok (.bipush 60, 2) := by decide +kernel
theorem dX10_init_161 : decode cX10_init 161 = .ok (.newarray .int, 2) := by decide +kernel
theorem dX10_init_163 : decode cX10_init 163 = .ok (.putfield 70, 3) := by decide +kernel
theorem dX10_init_166 : decode cX10_init 166 = .ok (.aload_n 0, 1) := by decide +kernel
theorem dX10_init_167 : decode cX10_init 167 = .ok (.bipush 60, 2) := by decide +kernel
theorem dX10_init_169 : decode cX10_init 169 = .ok (.newarray .int, 2) := by decide +kernel
theorem dX10_init_171 : decode cX10_init 171 = .ok (.putfield 73, 3) := by decide +kernel
theorem dX10_init_174 : decode cX10_init 174 = .ok (.aload_n 0, 1) := by decide +kernel
theorem dX10_init_175 : decode cX10_init 175 = .ok (.iconst 5, 1) := by decide +kernel
theorem dX10_init_176 : decode cX10_init 176 = .ok (.newarray .int, 2) := by decide +kernel
theorem dX10_init_178 : decode cX10_init 178 = .ok (.putfield 76, 3) := by decide +kernel
theorem dX10_init_181 : decode cX10_init 181 = .ok (.aload_n 0, 1) := by decide +kernel
theorem dX10_init_182 : decode cX10_init 182 = .ok (.iconst 5, 1) := by decide +kernel
theorem dX10_init_183 : decode cX10_init 183 = .ok (.newarray .int, 2) := by decide +kernel
theorem dX10_init_185 : decode cX10_init 185 = .ok (.putfield 79, 3) := by decide +kernel
theorem dX10_init_188 : decode cX10_init 188 = .ok (.aload_n 0, 1) := by decide +kernel
theorem dX10_init_189 : decode cX10_init 189 = .ok (.iconst 5, 1) := by decide +kernel
theorem dX10_init_190 : decode cX10_init 190 = .ok (.newarray .int, 2) := by decide +kernel
theorem dX10_init_192 : decode cX10_init 192 = .ok (.putfield 82, 3) := by decide +kernel
theorem dX10_init_195 : decode cX10_init 195 = .ok (.aload_n 0, 1) := by decide +kernel
theorem dX10_init_196 : decode cX10_init 196 = .ok (.iconst 5, 1) := by decide +kernel
theorem dX10_init_197 : decode cX10_init 197 = .ok (.newarray .int, 2) := by decide +kernel
theorem dX10_init_199 : decode cX10_init 199 = .ok (.putfield 85, 3) := by decide +kernel
theorem dX10_init_202 : decode cX10_init 202 = .ok (.aload_n 0, 1) := by decide +kernel
theorem dX10_init_203 : decode cX10_init 203 = .ok (.iconst 5, 1) := by decide +kernel
theorem dX10_init_204 : decode cX10_init 204 = .ok (.newarray .int, 2) := by decide +kernel
theorem dX10_init_206 : decode cX10_init 206 = .ok (.putfield 88, 3) := by decide +kernel
theorem dX10_init_209 : decode cX10_init 209 = .ok (.aload_n 0, 1) := by decide +kernel
theorem dX10_init_210 : decode cX10_init 210 = .ok (.iconst 5, 1) := by decide +kernel
theorem dX10_init_211 : decode cX10_init 211 = .ok (.newarray .int, 2) := by decide +kernel
theorem dX10_init_213 : decode cX10_init 213 = .ok (.putfield 91, 3) := by decide +kernel
theorem dX10_init_216 : decode cX10_init 216 = .ok (.aload_n 0, 1) := by decide +kernel
theorem dX10_init_217 : decode cX10_init 217 = .ok (.iconst 5, 1) := by decide +kernel
theorem dX10_init_218 : decode cX10_init 218 = .ok (.newarray .int, 2) := by decide +kernel
theorem dX10_init_220 : decode cX10_init 220 = .ok (.putfield 94, 3) := by decide +kernel
theorem dX10_init_223 : decode cX10_init 223 = .ok (.aload_n 0, 1) := by decide +kernel
theorem dX10_init_224 : decode cX10_init 224 = .ok (.iconst 5, 1) := by decide +kernel
theorem dX10_init_225 : decode cX10_init 225 = .ok (.newarray .int, 2) := by decide +kernel
theorem dX10_init_227 : decode cX10_init 227 = .ok (.putfield 97, 3) := by decide +kernel
theorem dX10_init_230 : decode cX10_init 230 = .ok (.aload_n 0, 1) := by decide +kernel
theorem dX10_init_231 : decode cX10_init 231 = .ok (.iconst 3, 1) := by decide +kernel
theorem dX10_init_232 : decode cX10_init 232 = .ok (.newarray .int, 2) := by decide +kernel
theorem dX10_init_234 : decode cX10_init 234 = .ok (.putfield 100, 3) := by decide +kernel
theorem dX10_init_237 : decode cX10_init 237 = .ok (.aload_n 0, 1) := by decide +kernel
theorem dX10_init_238 : decode cX10_init 238 = .ok (.bipush 36, 2) := by decide +kernel
theorem dX10_init_240 : decode cX10_init 240 = .ok (.newarray .int, 2) := by decide +kernel
theorem dX10_init_242 : decode cX10_init 242 = .ok (.putfield 103, 3) := by decide +kernel
theorem dX10_init_245 : decode cX10_init 245 = .ok (.aload_n 0, 1) := by decide +kernel
theorem dX10_init_246 : decode cX10_init 246 = .ok (.bipush 36, 2) := by decide +kernel
theorem dX10_init_248 : decode cX10_init 248 = .ok (.newarray .int, 2) := by decide +kernel
theorem dX10_init_250 : decode cX10_init 250 = .ok (.putfield 106, 3) := by decide +kernel
theorem dX10_init_253 : decode cX10_init 253 = .ok (.aload_n 0, 1) := by decide +kernel
theorem dX10_init_254 : decode cX10_init 254 = .ok (.bipush 8, 2) := by decide +kernel
theorem dX10_init_256 : decode cX10_init 256 = .ok (.newarray .int, 2) := by decide +kernel
theorem dX10_init_258 : decode cX10_init 258 = .ok (.putfield 109, 3) := by decide +kernel
theorem dX10_init_261 : decode cX10_init 261 = .ok (.aload_n 0, 1) := by decide +kernel
theorem dX10_init_262 : decode cX10_init 262 = .ok (.bipush 40, 2) := by decide +kernel
theorem dX10_init_264 : decode cX10_init 264 = .ok (.newarray .int, 2) := by decide +kernel
theorem dX10_init_266 : decode cX10_init 266 = .ok (.putfield 112, 3) := by decide +kernel
theorem dX10_init_269 : decode cX10_init 269 = .ok (.aload_n 0, 1) := by decide +kernel
theorem dX10_init_270 : decode cX10_init 270 = .ok (.bipush 40, 2) := by decide +kernel
theorem dX10_init_272 : decode cX10_init 272 = .ok (.newarray .int, 2) := by decide +kernel
theorem dX10_init_274 : decode cX10_init 274 = .ok (.putfield 115, 3) := by decide +kernel
theorem dX10_init_277 : decode cX10_init 277 = .ok (.aload_n 0, 1) := by decide +kernel
theorem dX10_init_278 : decode cX10_init 278 = .ok (.bipush 40, 2) := by decide +kernel
theorem dX10_init_280 : decode cX10_init 280 = .ok (.newarray .int, 2) := by decide +kernel
theorem dX10_init_282 : decode cX10_init 282 = .ok (.putfield 118, 3) := by decide +kernel
theorem dX10_init_285 : decode cX10_init 285 = .ok (.aload_n 0, 1) := by decide +kernel
theorem dX10_init_286 : decode cX10_init 286 = .ok (.bipush 6, 2) := by decide +kernel
theorem dX10_init_288 : decode cX10_init 288 = .ok (.newarray .long, 2) := by decide +kernel
theorem dX10_init_290 : decode cX10_init 290 = .ok (.putfield 121, 3) := by decide +kernel
theorem dX10_init_293 : decode cX10_init 293 = .ok (.aload_n 0, 1) := by decide +kernel
theorem dX10_init_294 : decode cX10_init 294 = .ok (.bipush 6, 2) := by decide +kernel
theorem dX10_init_296 : decode cX10_init 296 = .ok (.newarray .long, 2) := by decide +kernel
theorem dX10_init_298 : decode cX10_init 298 = .ok (.putfield 125, 3) := by decide +kernel
theorem dX10_init_301 : decode cX10_init 301 = .ok (.aload_n 0, 1) := by decide +kernel
theorem dX10_init_302 : decode cX10_init 302 = .ok (.bipush 6, 2) := by decide +kernel
theorem dX10_init_304 : decode cX10_init 304 = .ok (.newarray .long, 2) := by decide +kernel
theorem dX10_init_306 : decode cX10_init 306 = .ok (.putfield 128, 3) := by decide +kernel
theorem dX10_init_309 : decode cX10_init 309 = .ok (.aload_n 0, 1) := by decide +kernel
theorem dX10_init_310 : decode cX10_init 310 = .ok (.bipush 40, 2) := by decide +kernel
theorem dX10_init_312 : decode cX10_init 312 = .ok (.newarray .int, 2) := by decide +kernel
theorem dX10_init_314 : decode cX10_init 314 = .ok (.putfield 131, 3) := by decide +kernel
theorem dX10_init_317 : decode cX10_init 317 = .ok (.aload_n 0, 1) := by decide +kernel
theorem dX10_init_318 : decode cX10_init 318 = .ok (.bipush 41, 2) := by decide +kernel
theorem dX10_init_320 : decode cX10_init 320 = .ok (.newarray .long, 2) := by decide +kernel
theorem dX10_init_322 : decode cX10_init 322 = .ok (.putfield 134, 3) := by decide +kernel
theorem dX10_init_325 : decode cX10_init 325 = .ok (.return_, 1) := by decide +kernel
theorem dX10_thrown_0 : decode cX10_thrown 0 = .ok (.aload_n 0, 1) := by decide +kernel
theorem dX10_thrown_1 : decode cX10_thrown 1 = .ok (.getfield 137, 3) := by decide +kernel
theorem dX10_thrown_4 : decode cX10_thrown 4 = .ok (.ireturn, 1) := by decide +kernel
theorem dX10_goesWell_0 : decode cX10_goesWell 0 = .ok (.aload_n 0, 1) := by decide +kernel
theorem dX10_goesWell_1 : decode cX10_goesWell 1 = .ok (.iload_n 1, 1) := by decide +kernel
theorem dX10_goesWell_2 : decode cX10_goesWell 2 = .ok (.putfield 137, 3) := by decide +kernel
theorem dX10_goesWell_5 : decode cX10_goesWell 5 = .ok (.iload_n 1, 1) := by decide +kernel
theorem dX10_goesWell_6 : decode cX10_goesWell 6 = .ok (.ifCond .ne 7, 3) := by decide +kernel
theorem dX10_goesWell_9 : decode cX10_goesWell 9 = .ok (.iconst 1, 1) := by decide +kernel
theorem dX10_goesWell_10 : decode cX10_goesWell 10 = .ok (.goto 4, 3) := by decide +kernel
theorem dX10_goesWell_13 : decode cX10_goesWell 13 = .ok (.iconst 0, 1) := by decide +kernel
theorem dX10_goesWell_14 : decode cX10_goesWell 14 = .ok (.ireturn, 1) := by decide +kernel
theorem dX10_in_0 : decode cX10_in 0 = .ok (.iload_n 0, 1) := by decide +kernel
theorem dX10_in_1 : decode cX10_in 1 = .ok (.iload_n 1, 1) := by decide +kernel
theorem dX10_in_2 : decode cX10_in 2 = .ok (.if_icmp .lt 12, 3) := by decide +kernel
theorem dX10_in_5 : decode cX10_in 5 = .ok (.iload_n 0, 1) := by decide +kernel
theorem dX10_in_6 : decode cX10_in 6 = .ok (.iload_n 2, 1) := by decide +kernel
theorem dX10_in_7 : decode cX10_in 7 = .ok (.if_icmp .gt 7, 3) := by decide +kernel
theorem dX10_in_10 : decode cX10_in 10 = .ok (.iconst 1, 1) := by decide +kernel
theorem dX10_in_11 : decode cX10_in 11 = .ok (.goto 4, 3) := by decide +kernel
theorem dX10_in_14 : decode cX10_in 14 = .ok (.iconst 0, 1) := by decide +kernel
theorem dX10_in_15 : decode cX10_in 15 = .ok (.ireturn, 1) := by decide +kernel
theorem dX10_isPeril_0 : decode cX10_isPeril 0 = .ok (.iload_n 0, 1) := by decide +kernel
theorem dX10_isPeril_1 : decode cX10_isPeril 1 = .ok (.iconst 0, 1) := by decide +kernel
theorem dX10_isPeril_2 : decode cX10_isPeril 2 = .ok (.iconst 2, 1) := by decide +kernel
theorem dX10_isPeril_3 : decode cX10_isPeril 3 = .ok (.invokestatic 141, 3) := by decide +kernel
theorem dX10_isPeril_6 : decode cX10_isPeril 6 = .ok (.ireturn, 1) := by decide +kernel
theorem dX10_isHour_0 : decode cX10_isHour 0 = .ok (.iload_n 0, 1) := by decide +kernel
theorem dX10_isHour_1 : decode cX10_isHour 1 = .ok (.iconst 0, 1) := by decide +kernel
theorem dX10_isHour_2 : decode cX10_isHour 2 = .ok (.sipush 2199, 3) := by decide +kernel
theorem dX10_isHour_5 : decode cX10_isHour 5 = .ok (.invokestatic 141, 3) := by decide +kernel
theorem dX10_isHour_8 : decode cX10_isHour 8 = .ok (.ireturn, 1) := by decide +kernel
theorem dX10_clause_0 : decode cX10_clause 0 = .ok (.iload_n 0, 1) := by decide +kernel
theorem dX10_clause_1 : decode cX10_clause 1 = .ok (.ifCond .ne 8, 3) := by decide +kernel
theorem dX10_clause_4 : decode cX10_clause 4 = .ok (.bipush 72, 2) := by decide +kernel
theorem dX10_clause_6 : decode cX10_clause 6 = .ok (.goto 6, 3) := by decide +kernel
theorem dX10_clause_9 : decode cX10_clause 9 = .ok (.sipush 168, 3) := by decide +kernel
theorem dX10_clause_12 : decode cX10_clause 12 = .ok (.ireturn, 1) := by decide +kernel
theorem dX10_loss_0 : decode cX10_loss 0 = .ok (.iload_n 1, 1) := by decide +kernel
theorem dX10_loss_1 : decode cX10_loss 1 = .ok (.invokestatic 145, 3) := by decide +kernel
theorem dX10_loss_4 : decode cX10_loss 4 = .ok (.ifCond .eq 24, 3) := by decide +kernel
theorem dX10_loss_7 : decode cX10_loss 7 = .ok (.iload_n 2, 1) := by decide +kernel
theorem dX10_loss_8 : decode cX10_loss 8 = .ok (.invokestatic 149, 3) := by decide +kernel
theorem dX10_loss_11 : decode cX10_loss 11 = .ok (.ifCond .eq 17, 3) := by decide +kernel
theorem dX10_loss_14 : decode cX10_loss 14 = .ok (.iload_n 3, 1) := by decide +kernel
theorem dX10_loss_15 : decode cX10_loss 15 = .ok (.iconst 0, 1) := by decide +kernel
theorem dX10_loss_16 : decode cX10_loss 16 = .ok (.ldc 152, 2) := by decide +kernel
theorem dX10_loss_18 : decode cX10_loss 18 = .ok (.invokestatic 141, 3) := by decide +kernel
theorem dX10_loss_21 : decode cX10_loss 21 = .ok (.ifCond .eq 7, 3) := by decide +kernel
theorem dX10_loss_24 : decode cX10_loss 24 = .ok (.iconst 1, 1) := by decide +kernel
theorem dX10_loss_25 : decode cX10_loss 25 = .ok (.goto 4, 3) := by decide +kernel
theorem dX10_loss_28 : decode cX10_loss 28 = .ok (.iconst 0, 1) := by decide +kernel
theorem dX10_loss_29 : decode cX10_loss 29 = .ok (.istore 4, 2) := by decide +kernel
theorem dX10_loss_31 : decode cX10_loss 31 = .ok (.aload_n 0, 1) := by decide +kernel
theorem dX10_loss_32 : decode cX10_loss 32 = .ok (.iload 4, 2) := by decide +kernel
theorem dX10_loss_34 : decode cX10_loss 34 = .ok (.ifCond .ne 7, 3) := by decide +kernel
theorem dX10_loss_37 : decode cX10_loss 37 = .ok (.iconst 1, 1) := by decide +kernel
theorem dX10_loss_38 : decode cX10_loss 38 = .ok (.goto 17, 3) := by decide +kernel
theorem dX10_loss_41 : decode cX10_loss 41 = .ok (.aload_n 0, 1) := by decide +kernel
theorem dX10_loss_42 : decode cX10_loss 42 = .ok (.getfield 153, 3) := by decide +kernel
theorem dX10_loss_45 : decode cX10_loss 45 = .ok (.bipush 40, 2) := by decide +kernel
theorem dX10_loss_47 : decode cX10_loss 47 = .ok (.if_icmp .ne 7, 3) := by decide +kernel
theorem dX10_loss_50 : decode cX10_loss 50 = .ok (.iconst 2, 1) := by decide +kernel
theorem dX10_loss_51 : decode cX10_loss 51 = .ok (.goto 4, 3) := by decide +kernel
theorem dX10_loss_54 : decode cX10_loss 54 = .ok (.iconst 0, 1) := by decide +kernel
theorem dX10_loss_55 : decode cX10_loss 55 = .ok (.invokevirtual 156, 3) := by decide +kernel
theorem dX10_loss_58 : decode cX10_loss 58 = .ok (.ifCond .ne 5, 3) := by decide +kernel
theorem dX10_loss_61 : decode cX10_loss 61 = .ok (.iconst 0, 1) := by decide +kernel
theorem dX10_loss_62 : decode cX10_loss 62 = .ok (.ireturn, 1) := by decide +kernel
theorem dX10_loss_63 : decode cX10_loss 63 = .ok (.aload_n 0, 1) := by decide +kernel
theorem dX10_loss_64 : decode cX10_loss 64 = .ok (.getfield 7, 3) := by decide +kernel
theorem dX10_loss_67 : decode cX10_loss 67 = .ok (.aload_n 0, 1) := by decide +kernel
theorem dX10_loss_68 : decode cX10_loss 68 = .ok (.getfield 153, 3) := by decide +kernel
theorem dX10_loss_71 : decode cX10_loss 71 = .ok (.iload_n 1, 1) := by decide +kernel
theorem dX10_loss_72 : decode cX10_loss 72 = .ok (.iastore, 1) := by decide +kernel
theorem dX10_loss_73 : decode cX10_loss 73 = .ok (.aload_n 0, 1) := by decide +kernel
theorem dX10_loss_74 : decode cX10_loss 74 = .ok (.getfield 13, 3) := by decide +kernel
theorem dX10_loss_77 : decode cX10_loss 77 = .ok (.aload_n 0, 1) := by decide +kernel
theorem dX10_loss_78 : decode cX10_loss 78 = .ok (.getfield 153, 3) := by decide +kernel
theorem dX10_loss_81 : decode cX10_loss 81 = .ok (.iload_n 2, 1) := by decide +kernel
theorem dX10_loss_82 : decode cX10_loss 82 = .ok (.iastore, 1) := by decide +kernel
theorem dX10_loss_83 : decode cX10_loss 83 = .ok (.aload_n 0, 1) := by decide +kernel
theorem dX10_loss_84 : decode cX10_loss 84 = .ok (.getfield 16, 3) := by decide +kernel
theorem dX10_loss_87 : decode cX10_loss 87 = .ok (.aload_n 0, 1) := by decide +kernel
theorem dX10_loss_88 : decode cX10_loss 88 = .ok (.getfield 153, 3) := by decide +kernel
theorem dX10_loss_91 : decode cX10_loss 91 = .ok (.iload_n 3, 1) := by decide +kernel
theorem dX10_loss_92 : decode cX10_loss 92 = .ok (.iastore, 1) := by decide +kernel
theorem dX10_loss_93 : decode cX10_loss 93 = .ok (.aload_n 0, 1) := by decide +kernel
theorem dX10_loss_94 : decode cX10_loss 94 = .ok (.dup, 1) := by decide +kernel
theorem dX10_loss_95 : decode cX10_loss 95 = .ok (.getfield 153, 3) := by decide +kernel
theorem dX10_loss_98 : decode cX10_loss 98 = .ok (.iconst 1, 1) := by decide +kernel
theorem dX10_loss_99 : decode cX10_loss 99 = .ok (.iadd, 1) := by decide +kernel
theorem dX10_loss_100 : decode cX10_loss 100 = .ok (.putfield 153, 3) := by decide +kernel
theorem dX10_loss_103 : decode cX10_loss 103 = .ok (.aload_n 0, 1) := by decide +kernel
theorem dX10_loss_104 : decode cX10_loss 104 = .ok (.getfield 153, 3) := by decide +kernel
theorem dX10_loss_107 : decode cX10_loss 107 = .ok (.iconst 1, 1) := by decide +kernel
theorem dX10_loss_108 : decode cX10_loss 108 = .ok (.isub, 1) := by decide +kernel
theorem dX10_loss_109 : decode cX10_loss 109 = .ok (.ireturn, 1) := by decide +kernel
theorem dX10_creep_0 : decode cX10_creep 0 = .ok (.iload_n 1, 1) := by decide +kernel
theorem dX10_creep_1 : decode cX10_creep 1 = .ok (.iconst 0, 1) := by decide +kernel
theorem dX10_creep_2 : decode cX10_creep 2 = .ok (.aload_n 0, 1) := by decide +kernel
theorem dX10_creep_3 : decode cX10_creep 3 = .ok (.getfield 153, 3) := by decide +kernel
theorem dX10_creep_6 : decode cX10_creep 6 = .ok (.iconst 1, 1) := by decide +kernel
theorem dX10_creep_7 : decode cX10_creep 7 = .ok (.isub, 1) := by decide +kernel
theorem dX10_creep_8 : decode cX10_creep 8 = .ok (.invokestatic 141, 3) := by decide +kernel
theorem dX10_creep_11 : decode cX10_creep 11 = .ok (.istore_n 3, 1) := by decide +kernel
theorem dX10_creep_12 : decode cX10_creep 12 = .ok (.aload_n 0, 1) := by decide +kernel
theorem dX10_creep_13 : decode cX10_creep 13 = .ok (.iload_n 3, 1) := by decide +kernel
theorem dX10_creep_14 : decode cX10_creep 14 = .ok (.ifCond .ne 7, 3) := by decide +kernel
theorem dX10_creep_17 : decode cX10_creep 17 = .ok (.iconst 1, 1) := by decide +kernel
theorem dX10_creep_18 : decode cX10_creep 18 = .ok (.goto 18, 3) := by decide +kernel
theorem dX10_creep_21 : decode cX10_creep 21 = .ok (.iload_n 2, 1) := by decide +kernel
theorem dX10_creep_22 : decode cX10_creep 22 = .ok (.iconst 0, 1) := by decide +kernel
theorem dX10_creep_23 : decode cX10_creep 23 = .ok (.ldc 152, 2) := by decide +kernel
theorem dX10_creep_25 : decode cX10_creep 25 = .ok (.invokestatic 141, 3) := by decide +kernel
theorem dX10_creep_28 : decode cX10_creep 28 = .ok (.ifCond .eq 7, 3) := by decide +kernel
theorem dX10_creep_31 : decode cX10_creep 31 = .ok (.iconst 0, 1) := by decide +kernel
theorem dX10_creep_32 : decode cX10_creep 32 = .ok (.goto 4, 3) := by decide +kernel
theorem dX10_creep_35 : decode cX10_creep 35 = .ok (.iconst 2, 1) := by decide +kernel
theorem dX10_creep_36 : decode cX10_creep 36 = .ok (.invokevirtual 156, 3) := by decide +kernel
theorem dX10_creep_39 : decode cX10_creep 39 = .ok (.ifCond .ne 5, 3) := by decide +kernel
theorem dX10_creep_42 : decode cX10_creep 42 = .ok (.iconst 0, 1) := by decide +kernel
theorem dX10_creep_43 : decode cX10_creep 43 = .ok (.ireturn, 1) := by decide +kernel
theorem dX10_creep_44 : decode cX10_creep 44 = .ok (.aload_n 0, 1) := by decide +kernel
theorem dX10_creep_45 : decode cX10_creep 45 = .ok (.getfield 16, 3) := by decide +kernel
theorem dX10_creep_48 : decode cX10_creep 48 = .ok (.iload_n 1, 1) := by decide +kernel
theorem dX10_creep_49 : decode cX10_creep 49 = .ok (.iaload, 1) := by decide +kernel
theorem dX10_creep_50 : decode cX10_creep 50 = .ok (.istore 4, 2) := by decide +kernel
theorem dX10_creep_52 : decode cX10_creep 52 = .ok (.aload_n 0, 1) := by decide +kernel
theorem dX10_creep_53 : decode cX10_creep 53 = .ok (.getfield 16, 3) := by decide +kernel
theorem dX10_creep_56 : decode cX10_creep 56 = .ok (.iload_n 1, 1) := by decide +kernel
theorem dX10_creep_57 : decode cX10_creep 57 = .ok (.iload_n 2, 1) := by decide +kernel
theorem dX10_creep_58 : decode cX10_creep 58 = .ok (.iastore, 1) := by decide +kernel
theorem dX10_creep_59 : decode cX10_creep 59 = .ok (.iload 4, 2) := by decide +kernel
theorem dX10_creep_61 : decode cX10_creep 61 = .ok (.ireturn, 1) := by decide +kernel
theorem dX10_choose_0 : decode cX10_choose 0 = .ok (.iload_n 1, 1) := by decide +kernel
theorem dX10_choose_1 : decode cX10_choose 1 = .ok (.invokestatic 145, 3) := by decide +kernel
theorem dX10_choose_4 : decode cX10_choose 4 = .ok (.ifCond .eq 36, 3) := by decide +kernel
theorem dX10_choose_7 : decode cX10_choose 7 = .ok (.iload_n 2, 1) := by decide +kernel
theorem dX10_choose_8 : decode cX10_choose 8 = .ok (.invokestatic 149, 3) := by decide +kernel
theorem dX10_choose_11 : decode cX10_choose 11 = .ok (.ifCond .eq 29, 3) := by decide +kernel
theorem dX10_choose_14 : decode cX10_choose 14 = .ok (.iload_n 3, 1) := by decide +kernel
theorem dX10_choose_15 : decode cX10_choose 15 = .ok (.invokestatic 149, 3) := by decide +kernel
theorem dX10_choose_18 : decode cX10_choose 18 = .ok (.ifCond .eq 22, 3) := by decide +kernel
theorem dX10_choose_21 : decode cX10_choose 21 = .ok (.iload_n 3, 1) := by decide +kernel
theorem dX10_choose_22 : decode cX10_choose 22 = .ok (.iload_n 2, 1) := by decide +kernel
theorem dX10_choose_23 : decode cX10_choose 23 = .ok (.if_icmp .lt 17, 3) := by decide +kernel
theorem dX10_choose_26 : decode cX10_choose 26 = .ok (.iload_n 3, 1) := by decide +kernel
theorem dX10_choose_27 : decode cX10_choose 27 = .ok (.iload_n 2, 1) := by decide +kernel
theorem dX10_choose_28 : decode cX10_choose 28 = .ok (.isub, 1) := by decide +kernel
theorem dX10_choose_29 : decode cX10_choose 29 = .ok (.iload_n 1, 1) := by decide +kernel
theorem dX10_choose_30 : decode cX10_choose 30 = .ok (.invokestatic 159, 3) := by decide +kernel
theorem dX10_choose_33 : decode cX10_choose 33 = .ok (.if_icmp .ge 7, 3) := by decide +kernel
theorem dX10_choose_36 : decode cX10_choose 36 = .ok (.iconst 1, 1) := by decide +kernel
theorem dX10_choose_37 : decode cX10_choose 37 = .ok (.goto 4, 3) := by decide +kernel
theorem dX10_choose_40 : decode cX10_choose 40 = .ok (.iconst 0, 1) := by decide +kernel
theorem dX10_choose_41 : decode cX10_choose 41 = .ok (.istore 4, 2) := by decide +kernel
theorem dX10_choose_43 : decode cX10_choose 43 = .ok (.aload_n 0, 1) := by decide +kernel
theorem dX10_choose_44 : decode cX10_choose 44 = .ok (.getfield 163, 3) := by decide +kernel
theorem dX10_choose_47 : decode cX10_choose 47 = .ok (.bipush 8, 2) := by decide +kernel
theorem dX10_choose_49 : decode cX10_choose 49 = .ok (.if_icmp .ge 7, 3) := by decide +kernel
theorem dX10_choose_52 : decode cX10_choose 52 = .ok (.iconst 1, 1) := by decide +kernel
theorem dX10_choose_53 : decode cX10_choose 53 = .ok (.goto 4, 3) := by decide +kernel
theorem dX10_choose_56 : decode cX10_choose 56 = .ok (.iconst 0, 1) := by decide +kernel
theorem dX10_choose_57 : decode cX10_choose 57 = .ok (.istore 5, 2) := by decide +kernel
theorem dX10_choose_59 : decode cX10_choose 59 = .ok (.iconst 0, 1) := by decide +kernel
theorem dX10_choose_60 : decode cX10_choose 60 = .ok (.istore 6, 2) := by decide +kernel
theorem dX10_choose_62 : decode cX10_choose 62 = .ok (.iload 6, 2) := by decide +kernel
theorem dX10_choose_64 : decode cX10_choose 64 = .ok (.aload_n 0, 1) := by decide +kernel
theorem dX10_choose_65 : decode cX10_choose 65 = .ok (.getfield 163, 3) := by decide +kernel
theorem dX10_choose_68 : decode cX10_choose 68 = .ok (.if_icmp .ge 54, 3) := by decide +kernel
theorem dX10_choose_71 : decode cX10_choose 71 = .ok (.iload 5, 2) := by decide +kernel
theorem dX10_choose_73 : decode cX10_choose 73 = .ok (.ifCond .eq 40, 3) := by decide +kernel
theorem dX10_choose_76 : decode cX10_choose 76 = .ok (.aload_n 0, 1) := by decide +kernel
theorem dX10_choose_77 : decode cX10_choose 77 = .ok (.getfield 19, 3) := by decide +kernel
theorem dX10_choose_80 : decode cX10_choose 80 = .ok (.iload 6, 2) := by decide +kernel
theorem dX10_choose_82 : decode cX10_choose 82 = .ok (.iaload, 1) := by decide +kernel
theorem dX10_choose_83 : decode cX10_choose 83 = .ok (.iload_n 1, 1) := by decide +kernel
theorem dX10_choose_84 : decode cX10_choose 84 = .ok (.if_icmp .ne 25, 3) := by decide +kernel
theorem dX10_choose_87 : decode cX10_choose 87 = .ok (.iload_n 3, 1) := by decide +kernel
theorem dX10_choose_88 : decode cX10_choose 88 = .ok (.aload_n 0, 1) := by decide +kernel
theorem dX10_choose_89 : decode cX10_choose 89 = .ok (.getfield 22, 3) := by decide +kernel
theorem dX10_choose_92 : decode cX10_choose 92 = .ok (.iload 6, 2) := by decide +kernel
theorem dX10_choose_94 : decode cX10_choose 94 = .ok (.iaload, 1) := by decide +kernel
theorem dX10_choose_95 : decode cX10_choose 95 = .ok (.if_icmp .lt 14, 3) := by decide +kernel
theorem dX10_choose_98 : decode cX10_choose 98 = .ok (.iload_n 2, 1) := by decide +kernel
theorem dX10_choose_99 : decode cX10_choose 99 = .ok (.aload_n 0, 1) := by decide +kernel
theorem dX10_choose_100 : decode cX10_choose 100 = .ok (.getfield 25, 3) := by decide +kernel
theorem dX10_choose_103 : decode cX10_choose 103 = .ok (.iload 6, 2) := by decide +kernel
theorem dX10_choose_105 : decode cX10_choose 105 = .ok (.iaload, 1) := by decide +kernel
theorem dX10_choose_106 : decode cX10_choose 106 = .ok (.if_icmp .le 7, 3) := by decide +kernel
theorem dX10_choose_109 : decode cX10_choose 109 = .ok (.iconst 1, 1) := by decide +kernel
theorem dX10_choose_110 : decode cX10_choose 110 = .ok (.goto 4, 3) := by decide +kernel
theorem dX10_choose_113 : decode cX10_choose 113 = .ok (.iconst 0, 1) := by decide +kernel
theorem dX10_choose_114 : decode cX10_choose 114 = .ok (.istore 5, 2) := by decide +kernel
theorem dX10_choose_116 : decode cX10_choose 116 = .ok (.iinc 6 1, 3) := by decide +kernel
theorem dX10_choose_119 : decode cX10_choose 119 = .ok (.goto (-57), 3) := by decide +kernel
theorem dX10_choose_122 : decode cX10_choose 122 = .ok (.aload_n 0, 1) := by decide +kernel
theorem dX10_choose_123 : decode cX10_choose 123 = .ok (.iload 4, 2) := by decide +kernel
theorem dX10_choose_125 : decode cX10_choose 125 = .ok (.ifCond .ne 7, 3) := by decide +kernel
theorem dX10_choose_128 : decode cX10_choose 128 = .ok (.iconst 1, 1) := by decide +kernel
theorem dX10_choose_129 : decode cX10_choose 129 = .ok (.goto 13, 3) := by decide +kernel
theorem dX10_choose_132 : decode cX10_choose 132 = .ok (.iload 5, 2) := by decide +kernel
theorem dX10_choose_134 : decode cX10_choose 134 = .ok (.ifCond .eq 7, 3) := by decide +kernel
theorem dX10_choose_137 : decode cX10_choose 137 = .ok (.iconst 0, 1) := by decide +kernel
theorem dX10_choose_138 : decode cX10_choose 138 = .ok (.goto 4, 3) := by decide +kernel
theorem dX10_choose_141 : decode cX10_choose 141 = .ok (.iconst 2, 1) := by decide +kernel
theorem dX10_choose_142 : decode cX10_choose 142 = .ok (.invokevirtual 156, 3) := by decide +kernel
theorem dX10_choose_145 : decode cX10_choose 145 = .ok (.ifCond .ne 5, 3) := by decide +kernel
theorem dX10_choose_148 : decode cX10_choose 148 = .ok (.iconst 0, 1) := by decide +kernel
theorem dX10_choose_149 : decode cX10_choose 149 = .ok (.ireturn, 1) := by decide +kernel
theorem dX10_choose_150 : decode cX10_choose 150 = .ok (.aload_n 0, 1) := by decide +kernel
theorem dX10_choose_151 : decode cX10_choose 151 = .ok (.getfield 19, 3) := by decide +kernel
theorem dX10_choose_154 : decode cX10_choose 154 = .ok (.aload_n 0, 1) := by decide +kernel
theorem dX10_choose_155 : decode cX10_choose 155 = .ok (.getfield 163, 3) := by decide +kernel
theorem dX10_choose_158 : decode cX10_choose 158 = .ok (.iload_n 1, 1) := by decide +kernel
theorem dX10_choose_159 : decode cX10_choose 159 = .ok (.iastore, 1) := by decide +kernel
theorem dX10_choose_160 : decode cX10_choose 160 = .ok (.aload_n 0, 1) := by decide +kernel
theorem dX10_choose_161 : decode cX10_choose 161 = .ok (.getfield 22, 3) := by decide +kernel
theorem dX10_choose_164 : decode cX10_choose 164 = .ok (.aload_n 0, 1) := by decide +kernel
theorem dX10_choose_165 : decode cX10_choose 165 = .ok (.getfield 163, 3) := by decide +kernel
theorem dX10_choose_168 : decode cX10_choose 168 = .ok (.iload_n 2, 1) := by decide +kernel
theorem dX10_choose_169 : decode cX10_choose 169 = .ok (.iastore, 1) := by decide +kernel
theorem dX10_choose_170 : decode cX10_choose 170 = .ok (.aload_n 0, 1) := by decide +kernel
theorem dX10_choose_171 : decode cX10_choose 171 = .ok (.getfield 25, 3) := by decide +kernel
theorem dX10_choose_174 : decode cX10_choose 174 = .ok (.aload_n 0, 1) := by decide +kernel
theorem dX10_choose_175 : decode cX10_choose 175 = .ok (.getfield 163, 3) := by decide +kernel
theorem dX10_choose_178 : decode cX10_choose 178 = .ok (.iload_n 3, 1) := by decide +kernel
theorem dX10_choose_179 : decode cX10_choose 179 = .ok (.iastore, 1) := by decide +kernel
theorem dX10_choose_180 : decode cX10_choose 180 = .ok (.aload_n 0, 1) := by decide +kernel
theorem dX10_choose_181 : decode cX10_choose 181 = .ok (.dup, 1) := by decide +kernel
theorem dX10_choose_182 : decode cX10_choose 182 = .ok (.getfield 163, 3) := by decide +kernel
theorem dX10_choose_185 : decode cX10_choose 185 = .ok (.iconst 1, 1) := by decide +kernel
theorem dX10_choose_186 : decode cX10_choose 186 = .ok (.iadd, 1) := by decide +kernel
theorem dX10_choose_187 : decode cX10_choose 187 = .ok (.putfield 163, 3) := by decide +kernel
theorem dX10_choose_190 : decode cX10_choose 190 = .ok (.aload_n 0, 1) := by decide +kernel
theorem dX10_choose_191 : decode cX10_choose 191 = .ok (.getfield 163, 3) := by decide +kernel
theorem dX10_choose_194 : decode cX10_choose 194 = .ok (.iconst 1, 1) := by decide +kernel
theorem dX10_choose_195 : decode cX10_choose 195 = .ok (.isub, 1) := by decide +kernel
theorem dX10_choose_196 : decode cX10_choose 196 = .ok (.ireturn, 1) := by decide +kernel
theorem dX10_unchoose_0 : decode cX10_unchoose 0 = .ok (.aload_n 0, 1) := by decide +kernel
theorem dX10_unchoose_1 : decode cX10_unchoose 1 = .ok (.aload_n 0, 1) := by decide +kernel
theorem dX10_unchoose_2 : decode cX10_unchoose 2 = .ok (.getfield 163, 3) := by decide +kernel
theorem dX10_unchoose_5 : decode cX10_unchoose 5 = .ok (.ifCond .le 7, 3) := by decide +kernel
theorem dX10_unchoose_8 : decode cX10_unchoose 8 = .ok (.iconst 0, 1) := by decide +kernel
theorem dX10_unchoose_9 : decode cX10_unchoose 9 = .ok (.goto 4, 3) := by decide +kernel
theorem dX10_unchoose_12 : decode cX10_unchoose 12 = .ok (.iconst 1, 1) := by decide +kernel
theorem dX10_unchoose_13 : decode cX10_unchoose 13 = .ok (.invokevirtual 156, 3) := by decide +kernel
theorem dX10_unchoose_16 : decode cX10_unchoose 16 = .ok (.ifCond .ne 5, 3) := by decide +kernel
theorem dX10_unchoose_19 : decode cX10_unchoose 19 = .ok (.iconst 0, 1) := by decide +kernel
theorem dX10_unchoose_20 : decode cX10_unchoose 20 = .ok (.ireturn, 1) := by decide +kernel
theorem dX10_unchoose_21 : decode cX10_unchoose 21 = .ok (.aload_n 0, 1) := by decide +kernel
theorem dX10_unchoose_22 : decode cX10_unchoose 22 = .ok (.dup, 1) := by decide +kernel
theorem dX10_unchoose_23 : decode cX10_unchoose 23 = .ok (.getfield 163, 3) := by decide +kernel
theorem dX10_unchoose_26 : decode cX10_unchoose 26 = .ok (.iconst 1, 1) := by decide +kernel
theorem dX10_unchoose_27 : decode cX10_unchoose 27 = .ok (.isub, 1) := by decide +kernel
theorem dX10_unchoose_28 : decode cX10_unchoose 28 = .ok (.putfield 163, 3) := by decide +kernel
theorem dX10_unchoose_31 : decode cX10_unchoose 31 = .ok (.aload_n 0, 1) := by decide +kernel
theorem dX10_unchoose_32 : decode cX10_unchoose 32 = .ok (.getfield 163, 3) := by decide +kernel
theorem dX10_unchoose_35 : decode cX10_unchoose 35 = .ok (.ireturn, 1) := by decide +kernel
theorem dX10_isIn_0 : decode cX10_isIn 0 = .ok (.aload_n 0, 1) := by decide +kernel
theorem dX10_isIn_1 : decode cX10_isIn 1 = .ok (.getfield 7, 3) := by decide +kernel
theorem dX10_isIn_4 : decode cX10_isIn 4 = .ok (.iload_n 1, 1) := by decide +kernel
theorem dX10_isIn_5 : decode cX10_isIn 5 = .ok (.iaload, 1) := by decide +kernel
theorem dX10_isIn_6 : decode cX10_isIn 6 = .ok (.aload_n 0, 1) := by decide +kernel
theorem dX10_isIn_7 : decode cX10_isIn 7 = .ok (.getfield 19, 3) := by decide +kernel
theorem dX10_isIn_10 : decode cX10_isIn 10 = .ok (.iload_n 2, 1) := by decide +kernel
theorem dX10_isIn_11 : decode cX10_isIn 11 = .ok (.iaload, 1) := by decide +kernel
theorem dX10_isIn_12 : decode cX10_isIn 12 = .ok (.if_icmp .ne 31, 3) := by decide +kernel
theorem dX10_isIn_15 : decode cX10_isIn 15 = .ok (.aload_n 0, 1) := by decide +kernel
theorem dX10_isIn_16 : decode cX10_isIn 16 = .ok (.getfield 13, 3) := by decide +kernel
theorem dX10_isIn_19 : decode cX10_isIn 19 = .ok (.iload_n 1, 1) := by decide +kernel
theorem dX10_isIn_20 : decode cX10_isIn 20 = .ok (.iaload, 1) := by decide +kernel
theorem dX10_isIn_21 : decode cX10_isIn 21 = .ok (.aload_n 0, 1) := by decide +kernel
theorem dX10_isIn_22 : decode cX10_isIn 22 = .ok (.getfield 22, 3) := by decide +kernel
theorem dX10_isIn_25 : decode cX10_isIn 25 = .ok (.iload_n 2, 1) := by decide +kernel
theorem dX10_isIn_26 : decode cX10_isIn 26 = .ok (.iaload, 1) := by decide +kernel
theorem dX10_isIn_27 : decode cX10_isIn 27 = .ok (.aload_n 0, 1) := by decide +kernel
theorem dX10_isIn_28 : decode cX10_isIn 28 = .ok (.getfield 25, 3) := by decide +kernel
theorem dX10_isIn_31 : decode cX10_isIn 31 = .ok (.iload_n 2, 1) := by decide +kernel
theorem dX10_isIn_32 : decode cX10_isIn 32 = .ok (.iaload, 1) := by decide +kernel
theorem dX10_isIn_33 : decode cX10_isIn 33 = .ok (.invokestatic 141, 3) := by decide +kernel
theorem dX10_isIn_36 : decode cX10_isIn 36 = .ok (.ifCond .eq 7, 3) := by decide +kernel
theorem dX10_isIn_39 : decode cX10_isIn 39 = .ok (.iconst 1, 1) := by decide +kernel
theorem dX10_isIn_40 : decode cX10_isIn 40 = .ok (.goto 4, 3) := by decide +kernel
theorem dX10_isIn_43 : decode cX10_isIn 43 = .ok (.iconst 0, 1) := by decide +kernel
theorem dX10_isIn_44 : decode cX10_isIn 44 = .ok (.ireturn, 1) := by decide +kernel
theorem dX10_ground_0 : decode cX10_ground 0 = .ok (.iconst 0, 1) := by decide +kernel
theorem dX10_ground_1 : decode cX10_ground 1 = .ok (.istore_n 2, 1) := by decide +kernel
theorem dX10_ground_2 : decode cX10_ground 2 = .ok (.iconst 0, 1) := by decide +kernel
theorem dX10_ground_3 : decode cX10_ground 3 = .ok (.istore_n 3, 1) := by decide +kernel
theorem dX10_ground_4 : decode cX10_ground 4 = .ok (.iload_n 3, 1) := by decide +kernel
theorem dX10_ground_5 : decode cX10_ground 5 = .ok (.aload_n 0, 1) := by decide +kernel
theorem dX10_ground_6 : decode cX10_ground 6 = .ok (.getfield 153, 3) := by decide +kernel
theorem dX10_ground_9 : decode cX10_ground 9 = .ok (.if_icmp .ge 31, 3) := by decide +kernel
theorem dX10_ground_12 : decode cX10_ground 12 = .ok (.iload_n 2, 1) := by decide +kernel
theorem dX10_ground_13 : decode cX10_ground 13 = .ok (.aload_n 0, 1) := by decide +kernel
theorem dX10_ground_14 : decode cX10_ground 14 = .ok (.iload_n 3, 1) := by decide +kernel
theorem dX10_ground_15 : decode cX10_ground 15 = .ok (.iload_n 1, 1) := by decide +kernel
theorem dX10_ground_16 : decode cX10_ground 16 = .ok (.invokevirtual 166, 3) := by decide +kernel
theorem dX10_ground_19 : decode cX10_ground 19 = .ok (.ifCond .eq 12, 3) := by decide +kernel
theorem dX10_ground_22 : decode cX10_ground 22 = .ok (.aload_n 0, 1) := by decide +kernel
theorem dX10_ground_23 : decode cX10_ground 23 = .ok (.getfield 16, 3) := by decide +kernel
theorem dX10_ground_26 : decode cX10_ground 26 = .ok (.iload_n 3, 1) := by decide +kernel
theorem dX10_ground_27 : decode cX10_ground 27 = .ok (.iaload, 1) := by decide +kernel
theorem dX10_ground_28 : decode cX10_ground 28 = .ok (.goto 4, 3) := by decide +kernel
theorem dX10_ground_31 : decode cX10_ground 31 = .ok (.iconst 0, 1) := by decide +kernel
theorem dX10_ground_32 : decode cX10_ground 32 = .ok (.iadd, 1) := by decide +kernel
theorem dX10_ground_33 : decode cX10_ground 33 = .ok (.istore_n 2, 1) := by decide +kernel
theorem dX10_ground_34 : decode cX10_ground 34 = .ok (.iinc 3 1, 3) := by decide +kernel
theorem dX10_ground_37 : decode cX10_ground 37 = .ok (.goto (-33), 3) := by decide +kernel
theorem dX10_ground_40 : decode cX10_ground 40 = .ok (.iload_n 2, 1) := by decide +kernel
theorem dX10_ground_41 : decode cX10_ground 41 = .ok (.ireturn, 1) := by decide +kernel
theorem dX10_ceded_0 : decode cX10_ceded 0 = .ok (.aload_n 0, 1) := by decide +kernel
theorem dX10_ceded_1 : decode cX10_ceded 1 = .ok (.getfield 170, 3) := by decide +kernel
theorem dX10_ceded_4 : decode cX10_ceded 4 = .ok (.i2l, 1) := by decide +kernel
theorem dX10_ceded_5 : decode cX10_ceded 5 = .ok (.iload_n 1, 1) := by decide +kernel
theorem dX10_ceded_6 : decode cX10_ceded 6 = .ok (.i2l, 1) := by decide +kernel
theorem dX10_ceded_7 : decode cX10_ceded 7 = .ok (.lmul, 1) := by decide +kernel
theorem dX10_ceded_8 : decode cX10_ceded 8 = .ok (.ldc2_w 173, 3) := by decide +kernel
theorem dX10_ceded_11 : decode cX10_ceded 11 = .ok (.ldiv, 1) := by decide +kernel
theorem dX10_ceded_12 : decode cX10_ceded 12 = .ok (.l2i, 1) := by decide +kernel
theorem dX10_ceded_13 : decode cX10_ceded 13 = .ok (.ireturn, 1) := by decide +kernel
theorem dX10_quota_0 : decode cX10_quota 0 = .ok (.aload_n 0, 1) := by decide +kernel
theorem dX10_quota_1 : decode cX10_quota 1 = .ok (.iload_n 1, 1) := by decide +kernel
theorem dX10_quota_2 : decode cX10_quota 2 = .ok (.iconst 0, 1) := by decide +kernel
theorem dX10_quota_3 : decode cX10_quota 3 = .ok (.bipush 90, 2) := by decide +kernel
theorem dX10_quota_5 : decode cX10_quota 5 = .ok (.invokestatic 141, 3) := by decide +kernel
theorem dX10_quota_8 : decode cX10_quota 8 = .ok (.ifCond .eq 7, 3) := by decide +kernel
theorem dX10_quota_11 : decode cX10_quota 11 = .ok (.iconst 0, 1) := by decide +kernel
theorem dX10_quota_12 : decode cX10_quota 12 = .ok (.goto 4, 3) := by decide +kernel
theorem dX10_quota_15 : decode cX10_quota 15 = .ok (.iconst 1, 1) := by decide +kernel
theorem dX10_quota_16 : decode cX10_quota 16 = .ok (.invokevirtual 156, 3) := by decide +kernel
theorem dX10_quota_19 : decode cX10_quota 19 = .ok (.ifCond .ne 5, 3) := by decide +kernel
theorem dX10_quota_22 : decode cX10_quota 22 = .ok (.iconst 0, 1) := by decide +kernel
theorem dX10_quota_23 : decode cX10_quota 23 = .ok (.ireturn, 1) := by decide +kernel
theorem dX10_quota_24 : decode cX10_quota 24 = .ok (.aload_n 0, 1) := by decide +kernel
theorem dX10_quota_25 : decode cX10_quota 25 = .ok (.getfield 170, 3) := by decide +kernel
theorem dX10_quota_28 : decode cX10_quota 28 = .ok (.istore_n 2, 1) := by decide +kernel
theorem dX10_quota_29 : decode cX10_quota 29 = .ok (.aload_n 0, 1) := by decide +kernel
theorem dX10_quota_30 : decode cX10_quota 30 = .ok (.iload_n 1, 1) := by decide +kernel
theorem dX10_quota_31 : decode cX10_quota 31 = .ok (.putfield 170, 3) := by decide +kernel
theorem dX10_quota_34 : decode cX10_quota 34 = .ok (.iload_n 2, 1) := by decide +kernel
theorem dX10_quota_35 : decode cX10_quota 35 = .ok (.ireturn, 1) := by decide +kernel
theorem dX10_layer_0 : decode cX10_layer 0 = .ok (.iload_n 1, 1) := by decide +kernel
theorem dX10_layer_1 : decode cX10_layer 1 = .ok (.iconst 0, 1) := by decide +kernel
theorem dX10_layer_2 : decode cX10_layer 2 = .ok (.ldc 175, 2) := by decide +kernel
theorem dX10_layer_4 : decode cX10_layer 4 = .ok (.invokestatic 141, 3) := by decide +kernel
theorem dX10_layer_7 : decode cX10_layer 7 = .ok (.ifCond .eq 60, 3) := by decide +kernel
theorem dX10_layer_10 : decode cX10_layer 10 = .ok (.iload_n 2, 1) := by decide +kernel
theorem dX10_layer_11 : decode cX10_layer 11 = .ok (.iconst 1, 1) := by decide +kernel
theorem dX10_layer_12 : decode cX10_layer 12 = .ok (.ldc 175, 2) := by decide +kernel
theorem dX10_layer_14 : decode cX10_layer 14 = .ok (.invokestatic 141, 3) := by decide +kernel
theorem dX10_layer_17 : decode cX10_layer 17 = .ok (.ifCond .eq 50, 3) := by decide +kernel
theorem dX10_layer_20 : decode cX10_layer 20 = .ok (.iload_n 3, 1) := by decide +kernel
theorem dX10_layer_21 : decode cX10_layer 21 = .ok (.iconst 1, 1) := by decide +kernel
theorem dX10_layer_22 : decode cX10_layer 22 = .ok (.bipush 100, 2) := by decide +kernel
theorem dX10_layer_24 : decode cX10_layer 24 = .ok (.invokestatic 141, 3) := by decide +kernel
theorem dX10_layer_27 : decode cX10_layer 27 = .ok (.ifCond .eq 40, 3) := by decide +kernel
theorem dX10_layer_30 : decode cX10_layer 30 = .ok (.iload 4, 2) := by decide +kernel
theorem dX10_layer_32 : decode cX10_layer 32 = .ok (.iconst 0, 1) := by decide +kernel
theorem dX10_layer_33 : decode cX10_layer 33 = .ok (.iconst 3, 1) := by decide +kernel
theorem dX10_layer_34 : decode cX10_layer 34 = .ok (.invokestatic 141, 3) := by decide +kernel
theorem dX10_layer_37 : decode cX10_layer 37 = .ok (.ifCond .eq 30, 3) := by decide +kernel
theorem dX10_layer_40 : decode cX10_layer 40 = .ok (.iload 5, 2) := by decide +kernel
theorem dX10_layer_42 : decode cX10_layer 42 = .ok (.iconst 0, 1) := by decide +kernel
theorem dX10_layer_43 : decode cX10_layer 43 = .ok (.ldc 152, 2) := by decide +kernel
theorem dX10_layer_45 : decode cX10_layer 45 = .ok (.invokestatic 141, 3) := by decide +kernel
theorem dX10_layer_48 : decode cX10_layer 48 = .ok (.ifCond .eq 19, 3) := by decide +kernel
theorem dX10_layer_51 : decode cX10_layer 51 = .ok (.iload 6, 2) := by decide +kernel
theorem dX10_layer_53 : decode cX10_layer 53 = .ok (.iconst 0, 1) := by decide +kernel
theorem dX10_layer_54 : decode cX10_layer 54 = .ok (.sipush 150, 3) := by decide +kernel
theorem dX10_layer_57 : decode cX10_layer 57 = .ok (.invokestatic 141, 3) := by decide +kernel
theorem dX10_layer_60 : decode cX10_layer 60 = .ok (.ifCond .eq 7, 3) := by decide +kernel
theorem dX10_layer_63 : decode cX10_layer 63 = .ok (.iconst 1, 1) := by decide +kernel
theorem dX10_layer_64 : decode cX10_layer 64 = .ok (.goto 4, 3) := by decide +kernel
theorem dX10_layer_67 : decode cX10_layer 67 = .ok (.iconst 0, 1) := by decide +kernel
theorem dX10_layer_68 : decode cX10_layer 68 = .ok (.istore 7, 2) := by decide +kernel
theorem dX10_layer_70 : decode cX10_layer 70 = .ok (.aload_n 0, 1) := by decide +kernel
theorem dX10_layer_71 : decode cX10_layer 71 = .ok (.iload 7, 2) := by decide +kernel
theorem dX10_layer_73 : decode cX10_layer 73 = .ok (.ifCond .ne 7, 3) := by decide +kernel
theorem dX10_layer_76 : decode cX10_layer 76 = .ok (.iconst 1, 1) := by decide +kernel
theorem dX10_layer_77 : decode cX10_layer 77 = .ok (.goto 16, 3) := by decide +kernel
theorem dX10_layer_80 : decode cX10_layer 80 = .ok (.aload_n 0, 1) := by decide +kernel
theorem dX10_layer_81 : decode cX10_layer 81 = .ok (.getfield 176, 3) := by decide +kernel
theorem dX10_layer_84 : decode cX10_layer 84 = .ok (.iconst 5, 1) := by decide +kernel
theorem dX10_layer_85 : decode cX10_layer 85 = .ok (.if_icmp .ne 7, 3) := by decide +kernel
theorem dX10_layer_88 : decode cX10_layer 88 = .ok (.iconst 2, 1) := by decide +kernel
theorem dX10_layer_89 : decode cX10_layer 89 = .ok (.goto 4, 3) := by decide +kernel
theorem dX10_layer_92 : decode cX10_layer 92 = .ok (.iconst 0, 1) := by decide +kernel
theorem dX10_layer_93 : decode cX10_layer 93 = .ok (.invokevirtual 156, 3) := by decide +kernel
theorem dX10_layer_96 : decode cX10_layer 96 = .ok (.ifCond .ne 5, 3) := by decide +kernel
theorem dX10_layer_99 : decode cX10_layer 99 = .ok (.iconst 0, 1) := by decide +kernel
theorem dX10_layer_100 : decode cX10_layer 100 = .ok (.ireturn, 1) := by decide +kernel
theorem dX10_layer_101 : decode cX10_layer 101 = .ok (.aload_n 0, 1) := by decide +kernel
theorem dX10_layer_102 : decode cX10_layer 102 = .ok (.getfield 28, 3) := by decide +kernel
theorem dX10_layer_105 : decode cX10_layer 105 = .ok (.aload_n 0, 1) := by decide +kernel
theorem dX10_layer_106 : decode cX10_layer 106 = .ok (.getfield 176, 3) := by decide +kernel
theorem dX10_layer_109 : decode cX10_layer 109 = .ok (.iload_n 1, 1) := by decide +kernel
theorem dX10_layer_110 : decode cX10_layer 110 = .ok (.iastore, 1) := by decide +kernel
theorem dX10_layer_111 : decode cX10_layer 111 = .ok (.aload_n 0, 1) := by decide +kernel
theorem dX10_layer_112 : decode cX10_layer 112 = .ok (.getfield 31, 3) := by decide +kernel
theorem dX10_layer_115 : decode cX10_layer 115 = .ok (.aload_n 0, 1) := by decide +kernel
theorem dX10_layer_116 : decode cX10_layer 116 = .ok (.getfield 176, 3) := by decide +kernel
theorem dX10_layer_119 : decode cX10_layer 119 = .ok (.iload_n 2, 1) := by decide +kernel
theorem dX10_layer_120 : decode cX10_layer 120 = .ok (.iastore, 1) := by decide +kernel
theorem dX10_layer_121 : decode cX10_layer 121 = .ok (.aload_n 0, 1) := by decide +kernel
theorem dX10_layer_122 : decode cX10_layer 122 = .ok (.getfield 34, 3) := by decide +kernel
theorem dX10_layer_125 : decode cX10_layer 125 = .ok (.aload_n 0, 1) := by decide +kernel
theorem dX10_layer_126 : decode cX10_layer 126 = .ok (.getfield 176, 3) := by decide +kernel
theorem dX10_layer_129 : decode cX10_layer 129 = .ok (.iload_n 3, 1) := by decide +kernel
theorem dX10_layer_130 : decode cX10_layer 130 = .ok (.iastore, 1) := by decide +kernel
theorem dX10_layer_131 : decode cX10_layer 131 = .ok (.aload_n 0, 1) := by decide +kernel
theorem dX10_layer_132 : decode cX10_layer 132 = .ok (.getfield 37, 3) := by decide +kernel
theorem dX10_layer_135 : decode cX10_layer 135 = .ok (.aload_n 0, 1) := by decide +kernel
theorem dX10_layer_136 : decode cX10_layer 136 = .ok (.getfield 176, 3) := by decide +kernel
theorem dX10_layer_139 : decode cX10_layer 139 = .ok (.iload 4, 2) := by decide +kernel
theorem dX10_layer_141 : decode cX10_layer 141 = .ok (.iastore, 1) := by decide +kernel
theorem dX10_layer_142 : decode cX10_layer 142 = .ok (.aload_n 0, 1) := by decide +kernel
theorem dX10_layer_143 : decode cX10_layer 143 = .ok (.getfield 40, 3) := by decide +kernel
theorem dX10_layer_146 : decode cX10_layer 146 = .ok (.aload_n 0, 1) := by decide +kernel
theorem dX10_layer_147 : decode cX10_layer 147 = .ok (.getfield 176, 3) := by decide +kernel
theorem dX10_layer_150 : decode cX10_layer 150 = .ok (.iload 5, 2) := by decide +kernel
theorem dX10_layer_152 : decode cX10_layer 152 = .ok (.iastore, 1) := by decide +kernel
theorem dX10_layer_153 : decode cX10_layer 153 = .ok (.aload_n 0, 1) := by decide +kernel
theorem dX10_layer_154 : decode cX10_layer 154 = .ok (.getfield 43, 3) := by decide +kernel
theorem dX10_layer_157 : decode cX10_layer 157 = .ok (.aload_n 0, 1) := by decide +kernel
theorem dX10_layer_158 : decode cX10_layer 158 = .ok (.getfield 176, 3) := by decide +kernel
theorem dX10_layer_161 : decode cX10_layer 161 = .ok (.iload 6, 2) := by decide +kernel
theorem dX10_layer_163 : decode cX10_layer 163 = .ok (.iastore, 1) := by decide +kernel
theorem dX10_layer_164 : decode cX10_layer 164 = .ok (.aload_n 0, 1) := by decide +kernel
theorem dX10_layer_165 : decode cX10_layer 165 = .ok (.dup, 1) := by decide +kernel
theorem dX10_layer_166 : decode cX10_layer 166 = .ok (.getfield 176, 3) := by decide +kernel
theorem dX10_layer_169 : decode cX10_layer 169 = .ok (.iconst 1, 1) := by decide +kernel
theorem dX10_layer_170 : decode cX10_layer 170 = .ok (.iadd, 1) := by decide +kernel
theorem dX10_layer_171 : decode cX10_layer 171 = .ok (.putfield 176, 3) := by decide +kernel
theorem dX10_layer_174 : decode cX10_layer 174 = .ok (.aload_n 0, 1) := by decide +kernel
theorem dX10_layer_175 : decode cX10_layer 175 = .ok (.getfield 176, 3) := by decide +kernel
theorem dX10_layer_178 : decode cX10_layer 178 = .ok (.iconst 1, 1) := by decide +kernel
theorem dX10_layer_179 : decode cX10_layer 179 = .ok (.isub, 1) := by decide +kernel
theorem dX10_layer_180 : decode cX10_layer 180 = .ok (.ireturn, 1) := by decide +kernel
theorem dX10_isLayer_0 : decode cX10_isLayer 0 = .ok (.iload_n 1, 1) := by decide +kernel
theorem dX10_isLayer_1 : decode cX10_isLayer 1 = .ok (.iconst 0, 1) := by decide +kernel
theorem dX10_isLayer_2 : decode cX10_isLayer 2 = .ok (.aload_n 0, 1) := by decide +kernel
theorem dX10_isLayer_3 : decode cX10_isLayer 3 = .ok (.getfield 176, 3) := by decide +kernel
theorem dX10_isLayer_6 : decode cX10_isLayer 6 = .ok (.iconst 1, 1) := by decide +kernel
theorem dX10_isLayer_7 : decode cX10_isLayer 7 = .ok (.isub, 1) := by decide +kernel
theorem dX10_isLayer_8 : decode cX10_isLayer 8 = .ok (.invokestatic 141, 3) := by decide +kernel
theorem dX10_isLayer_11 : decode cX10_isLayer 11 = .ok (.ireturn, 1) := by decide +kernel
theorem dX10_isOne_0 : decode cX10_isOne 0 = .ok (.iload_n 0, 1) := by decide +kernel
theorem dX10_isOne_1 : decode cX10_isOne 1 = .ok (.iconst 0, 1) := by decide +kernel
theorem dX10_isOne_2 : decode cX10_isOne 2 = .ok (.iconst 5, 1) := by decide +kernel
theorem dX10_isOne_3 : decode cX10_isOne 3 = .ok (.invokestatic 141, 3) := by decide +kernel
theorem dX10_isOne_6 : decode cX10_isOne 6 = .ok (.ireturn, 1) := by decide +kernel
theorem dX10_placed_0 : decode cX10_placed 0 = .ok (.iconst 0, 1) := by decide +kernel
theorem dX10_placed_1 : decode cX10_placed 1 = .ok (.istore_n 2, 1) := by decide +kernel
theorem dX10_placed_2 : decode cX10_placed 2 = .ok (.iconst 0, 1) := by decide +kernel
theorem dX10_placed_3 : decode cX10_placed 3 = .ok (.istore_n 3, 1) := by decide +kernel
theorem dX10_placed_4 : decode cX10_placed 4 = .ok (.iload_n 3, 1) := by decide +kernel
theorem dX10_placed_5 : decode cX10_placed 5 = .ok (.bipush 6, 2) := by decide +kernel
theorem dX10_placed_7 : decode cX10_placed 7 = .ok (.if_icmp .ge 23, 3) := by decide +kernel
theorem dX10_placed_10 : decode cX10_placed 10 = .ok (.iload_n 2, 1) := by decide +kernel
theorem dX10_placed_11 : decode cX10_placed 11 = .ok (.aload_n 0, 1) := by decide +kernel
theorem dX10_placed_12 : decode cX10_placed 12 = .ok (.getfield 46, 3) := by decide +kernel
theorem dX10_placed_15 : decode cX10_placed 15 = .ok (.bipush 6, 2) := by decide +kernel
theorem dX10_placed_17 : decode cX10_placed 17 = .ok (.iload_n 1, 1) := by decide +kernel
theorem dX10_placed_18 : decode cX10_placed 18 = .ok (.imul, 1) := by decide +kernel
theorem dX10_placed_19 : decode cX10_placed 19 = .ok (.iload_n 3, 1) := by decide +kernel
theorem dX10_placed_20 : decode cX10_placed 20 = .ok (.iadd, 1) := by decide +kernel
theorem dX10_placed_21 : decode cX10_placed 21 = .ok (.iaload, 1) := by decide +kernel
theorem dX10_placed_22 : decode cX10_placed 22 = .ok (.iadd, 1) := by decide +kernel
theorem dX10_placed_23 : decode cX10_placed 23 = .ok (.istore_n 2, 1) := by decide +kernel
theorem dX10_placed_24 : decode cX10_placed 24 = .ok (.iinc 3 1, 3) := by decide +kernel
theorem dX10_placed_27 : decode cX10_placed 27 = .ok (.goto (-23), 3) := by decide +kernel
theorem dX10_placed_30 : decode cX10_placed 30 = .ok (.iload_n 2, 1) := by decide +kernel
theorem dX10_placed_31 : decode cX10_placed 31 = .ok (.ireturn, 1) := by decide +kernel
theorem dX10_part_0 : decode cX10_part 0 = .ok (.aload_n 0, 1) := by decide +kernel
theorem dX10_part_1 : decode cX10_part 1 = .ok (.iload_n 1, 1) := by decide +kernel
theorem dX10_part_2 : decode cX10_part 2 = .ok (.invokevirtual 179, 3) := by decide +kernel
theorem dX10_part_5 : decode cX10_part 5 = .ok (.ifCond .eq 14, 3) := by decide +kernel
theorem dX10_part_8 : decode cX10_part 8 = .ok (.iload_n 2, 1) := by decide +kernel
theorem dX10_part_9 : decode cX10_part 9 = .ok (.invokestatic 182, 3) := by decide +kernel
theorem dX10_part_12 : decode cX10_part 12 = .ok (.ifCond .eq 7, 3) := by decide +kernel
theorem dX10_part_15 : decode cX10_part 15 = .ok (.iconst 1, 1) := by decide +kernel
theorem dX10_part_16 : decode cX10_part 16 = .ok (.goto 4, 3) := by decide +kernel
theorem dX10_part_19 : decode cX10_part 19 = .ok (.iconst 0, 1) := by decide +kernel
theorem dX10_part_20 : decode cX10_part 20 = .ok (.istore 4, 2) := by decide +kernel
theorem dX10_part_22 : decode cX10_part 22 = .ok (.iload_n 3, 1) := by decide +kernel
theorem dX10_part_23 : decode cX10_part 23 = .ok (.iconst 0, 1) := by decide +kernel
theorem dX10_part_24 : decode cX10_part 24 = .ok (.bipush 100, 2) := by decide +kernel
theorem dX10_part_26 : decode cX10_part 26 = .ok (.invokestatic 141, 3) := by decide +kernel
theorem dX10_part_29 : decode cX10_part 29 = .ok (.istore 5, 2) := by decide +kernel
theorem dX10_part_31 : decode cX10_part 31 = .ok (.iload 4, 2) := by decide +kernel
theorem dX10_part_33 : decode cX10_part 33 = .ok (.ifCond .eq 36, 3) := by decide +kernel
theorem dX10_part_36 : decode cX10_part 36 = .ok (.iload 5, 2) := by decide +kernel
theorem dX10_part_38 : decode cX10_part 38 = .ok (.ifCond .eq 31, 3) := by decide +kernel
theorem dX10_part_41 : decode cX10_part 41 = .ok (.aload_n 0, 1) := by decide +kernel
theorem dX10_part_42 : decode cX10_part 42 = .ok (.iload_n 1, 1) := by decide +kernel
theorem dX10_part_43 : decode cX10_part 43 = .ok (.invokevirtual 185, 3) := by decide +kernel
theorem dX10_part_46 : decode cX10_part 46 = .ok (.aload_n 0, 1) := by decide +kernel
theorem dX10_part_47 : decode cX10_part 47 = .ok (.getfield 46, 3) := by decide +kernel
theorem dX10_part_50 : decode cX10_part 50 = .ok (.bipush 6, 2) := by decide +kernel
theorem dX10_part_52 : decode cX10_part 52 = .ok (.iload_n 1, 1) := by decide +kernel
theorem dX10_part_53 : decode cX10_part 53 = .ok (.imul, 1) := by decide +kernel
theorem dX10_part_54 : decode cX10_part 54 = .ok (.iload_n 2, 1) := by decide +kernel
theorem dX10_part_55 : decode cX10_part 55 = .ok (.iadd, 1) := by decide +kernel
theorem dX10_part_56 : decode cX10_part 56 = .ok (.iaload, 1) := by decide +kernel
theorem dX10_part_57 : decode cX10_part 57 = .ok (.isub, 1) := by decide +kernel
theorem dX10_part_58 : decode cX10_part 58 = .ok (.iload_n 3, 1) := by decide +kernel
theorem dX10_part_59 : decode cX10_part 59 = .ok (.iadd, 1) := by decide +kernel
theorem dX10_part_60 : decode cX10_part 60 = .ok (.bipush 100, 2) := by decide +kernel
theorem dX10_part_62 : decode cX10_part 62 = .ok (.if_icmp .gt 7, 3) := by decide +kernel
theorem dX10_part_65 : decode cX10_part 65 = .ok (.iconst 1, 1) := by decide +kernel
theorem dX10_part_66 : decode cX10_part 66 = .ok (.goto 4, 3) := by decide +kernel
theorem dX10_part_69 : decode cX10_part 69 = .ok (.iconst 0, 1) := by decide +kernel
theorem dX10_part_70 : decode cX10_part 70 = .ok (.istore 6, 2) := by decide +kernel
theorem dX10_part_72 : decode cX10_part 72 = .ok (.aload_n 0, 1) := by decide +kernel
theorem dX10_part_73 : decode cX10_part 73 = .ok (.iload 4, 2) := by decide +kernel
theorem dX10_part_75 : decode cX10_part 75 = .ok (.ifCond .ne 7, 3) := by decide +kernel
theorem dX10_part_78 : decode cX10_part 78 = .ok (.iconst 1, 1) := by decide +kernel
theorem dX10_part_79 : decode cX10_part 79 = .ok (.goto 22, 3) := by decide +kernel
theorem dX10_part_82 : decode cX10_part 82 = .ok (.iload 5, 2) := by decide +kernel
theorem dX10_part_84 : decode cX10_part 84 = .ok (.ifCond .ne 7, 3) := by decide +kernel
theorem dX10_part_87 : decode cX10_part 87 = .ok (.iconst 2, 1) := by decide +kernel
theorem dX10_part_88 : decode cX10_part 88 = .ok (.goto 13, 3) := by decide +kernel
theorem dX10_part_91 : decode cX10_part 91 = .ok (.iload 6, 2) := by decide +kernel
theorem dX10_part_93 : decode cX10_part 93 = .ok (.ifCond .eq 7, 3) := by decide +kernel
theorem dX10_part_96 : decode cX10_part 96 = .ok (.iconst 0, 1) := by decide +kernel
theorem dX10_part_97 : decode cX10_part 97 = .ok (.goto 4, 3) := by decide +kernel
theorem dX10_part_100 : decode cX10_part 100 = .ok (.iconst 3, 1) := by decide +kernel
theorem dX10_part_101 : decode cX10_part 101 = .ok (.invokevirtual 156, 3) := by decide +kernel
theorem dX10_part_104 : decode cX10_part 104 = .ok (.ifCond .ne 5, 3) := by decide +kernel
theorem dX10_part_107 : decode cX10_part 107 = .ok (.iconst 0, 1) := by decide +kernel
theorem dX10_part_108 : decode cX10_part 108 = .ok (.ireturn, 1) := by decide +kernel
theorem dX10_part_109 : decode cX10_part 109 = .ok (.aload_n 0, 1) := by decide +kernel
theorem dX10_part_110 : decode cX10_part 110 = .ok (.getfield 46, 3) := by decide +kernel
theorem dX10_part_113 : decode cX10_part 113 = .ok (.bipush 6, 2) := by decide +kernel
theorem dX10_part_115 : decode cX10_part 115 = .ok (.iload_n 1, 1) := by decide +kernel
theorem dX10_part_116 : decode cX10_part 116 = .ok (.imul, 1) := by decide +kernel
theorem dX10_part_117 : decode cX10_part 117 = .ok (.iload_n 2, 1) := by decide +kernel
theorem dX10_part_118 : decode cX10_part 118 = .ok (.iadd, 1) := by decide +kernel
theorem dX10_part_119 : decode cX10_part 119 = .ok (.iload_n 3, 1) := by decide +kernel
theorem dX10_part_120 : decode cX10_part 120 = .ok (.iastore, 1) := by decide +kernel
theorem dX10_part_121 : decode cX10_part 121 = .ok (.bipush 100, 2) := by decide +kernel
theorem dX10_part_123 : decode cX10_part 123 = .ok (.aload_n 0, 1) := by decide +kernel
theorem dX10_part_124 : decode cX10_part 124 = .ok (.iload_n 1, 1) := by decide +kernel
theorem dX10_part_125 : decode cX10_part 125 = .ok (.invokevirtual 185, 3) := by decide +kernel
theorem dX10_part_128 : decode cX10_part 128 = .ok (.isub, 1) := by decide +kernel
theorem dX10_part_129 : decode cX10_part 129 = .ok (.ireturn, 1) := by decide +kernel
theorem dX10_retro_0 : decode cX10_retro 0 = .ok (.iload_n 1, 1) := by decide +kernel
theorem dX10_retro_1 : decode cX10_retro 1 = .ok (.invokestatic 182, 3) := by decide +kernel
theorem dX10_retro_4 : decode cX10_retro 4 = .ok (.ifCond .eq 14, 3) := by decide +kernel
theorem dX10_retro_7 : decode cX10_retro 7 = .ok (.iload_n 2, 1) := by decide +kernel
theorem dX10_retro_8 : decode cX10_retro 8 = .ok (.invokestatic 182, 3) := by decide +kernel
theorem dX10_retro_11 : decode cX10_retro 11 = .ok (.ifCond .eq 7, 3) := by decide +kernel
theorem dX10_retro_14 : decode cX10_retro 14 = .ok (.iconst 1, 1) := by decide +kernel
theorem dX10_retro_15 : decode cX10_retro 15 = .ok (.goto 4, 3) := by decide +kernel
theorem dX10_retro_18 : decode cX10_retro 18 = .ok (.iconst 0, 1) := by decide +kernel
theorem dX10_retro_19 : decode cX10_retro 19 = .ok (.istore 5, 2) := by decide +kernel
theorem dX10_retro_21 : decode cX10_retro 21 = .ok (.iload_n 1, 1) := by decide +kernel
theorem dX10_retro_22 : decode cX10_retro 22 = .ok (.iload_n 2, 1) := by decide +kernel
theorem dX10_retro_23 : decode cX10_retro 23 = .ok (.if_icmp .eq 28, 3) := by decide +kernel
theorem dX10_retro_26 : decode cX10_retro 26 = .ok (.iload_n 3, 1) := by decide +kernel
theorem dX10_retro_27 : decode cX10_retro 27 = .ok (.iconst 0, 1) := by decide +kernel
theorem dX10_retro_28 : decode cX10_retro 28 = .ok (.ldc 175, 2) := by decide +kernel
theorem dX10_retro_30 : decode cX10_retro 30 = .ok (.invokestatic 141, 3) := by decide +kernel
theorem dX10_retro_33 : decode cX10_retro 33 = .ok (.ifCond .eq 18, 3) := by decide +kernel
theorem dX10_retro_36 : decode cX10_retro 36 = .ok (.iload 4, 2) := by decide +kernel
theorem dX10_retro_38 : decode cX10_retro 38 = .ok (.iconst 0, 1) := by decide +kernel
theorem dX10_retro_39 : decode cX10_retro 39 = .ok (.ldc 175, 2) := by decide +kernel
theorem dX10_retro_41 : decode cX10_retro 41 = .ok (.invokestatic 141, 3) := by decide +kernel
theorem dX10_retro_44 : decode cX10_retro 44 = .ok (.ifCond .eq 7, 3) := by decide +kernel
theorem dX10_retro_47 : decode cX10_retro 47 = .ok (.iconst 1, 1) := by decide +kernel
theorem dX10_retro_48 : decode cX10_retro 48 = .ok (.goto 4, 3) := by decide +kernel
theorem dX10_retro_51 : decode cX10_retro 51 = .ok (.iconst 0, 1) := by decide +kernel
theorem dX10_retro_52 : decode cX10_retro 52 = .ok (.istore 6, 2) := by decide +kernel
theorem dX10_retro_54 : decode cX10_retro 54 = .ok (.aload_n 0, 1) := by decide +kernel
theorem dX10_retro_55 : decode cX10_retro 55 = .ok (.iload 5, 2) := by decide +kernel
theorem dX10_retro_57 : decode cX10_retro 57 = .ok (.ifCond .ne 7, 3) := by decide +kernel
theorem dX10_retro_60 : decode cX10_retro 60 = .ok (.iconst 1, 1) := by decide +kernel
theorem dX10_retro_61 : decode cX10_retro 61 = .ok (.goto 13, 3) := by decide +kernel
theorem dX10_retro_64 : decode cX10_retro 64 = .ok (.iload 6, 2) := by decide +kernel
theorem dX10_retro_66 : decode cX10_retro 66 = .ok (.ifCond .eq 7, 3) := by decide +kernel
theorem dX10_retro_69 : decode cX10_retro 69 = .ok (.iconst 0, 1) := by decide +kernel
theorem dX10_retro_70 : decode cX10_retro 70 = .ok (.goto 4, 3) := by decide +kernel
theorem dX10_retro_73 : decode cX10_retro 73 = .ok (.iconst 2, 1) := by decide +kernel
theorem dX10_retro_74 : decode cX10_retro 74 = .ok (.invokevirtual 156, 3) := by decide +kernel
theorem dX10_retro_77 : decode cX10_retro 77 = .ok (.ifCond .ne 5, 3) := by decide +kernel
theorem dX10_retro_80 : decode cX10_retro 80 = .ok (.iconst 0, 1) := by decide +kernel
theorem dX10_retro_81 : decode cX10_retro 81 = .ok (.ireturn, 1) := by decide +kernel
theorem dX10_retro_82 : decode cX10_retro 82 = .ok (.aload_n 0, 1) := by decide +kernel
theorem dX10_retro_83 : decode cX10_retro 83 = .ok (.getfield 55, 3) := by decide +kernel
theorem dX10_retro_86 : decode cX10_retro 86 = .ok (.iload_n 1, 1) := by decide +kernel
theorem dX10_retro_87 : decode cX10_retro 87 = .ok (.iaload, 1) := by decide +kernel
theorem dX10_retro_88 : decode cX10_retro 88 = .ok (.istore 7, 2) := by decide +kernel
theorem dX10_retro_90 : decode cX10_retro 90 = .ok (.aload_n 0, 1) := by decide +kernel
theorem dX10_retro_91 : decode cX10_retro 91 = .ok (.getfield 49, 3) := by decide +kernel
theorem dX10_retro_94 : decode cX10_retro 94 = .ok (.iload_n 1, 1) := by decide +kernel
theorem dX10_retro_95 : decode cX10_retro 95 = .ok (.iload_n 2, 1) := by decide +kernel
theorem dX10_retro_96 : decode cX10_retro 96 = .ok (.iastore, 1) := by decide +kernel
theorem dX10_retro_97 : decode cX10_retro 97 = .ok (.aload_n 0, 1) := by decide +kernel
theorem dX10_retro_98 : decode cX10_retro 98 = .ok (.getfield 52, 3) := by decide +kernel
theorem dX10_retro_101 : decode cX10_retro 101 = .ok (.iload_n 1, 1) := by decide +kernel
theorem dX10_retro_102 : decode cX10_retro 102 = .ok (.iload_n 3, 1) := by decide +kernel
theorem dX10_retro_103 : decode cX10_retro 103 = .ok (.iastore, 1) := by decide +kernel
theorem dX10_retro_104 : decode cX10_retro 104 = .ok (.aload_n 0, 1) := by decide +kernel
theorem dX10_retro_105 : decode cX10_retro 105 = .ok (.getfield 55, 3) := by decide +kernel
theorem dX10_retro_108 : decode cX10_retro 108 = .ok (.iload_n 1, 1) := by decide +kernel
theorem dX10_retro_109 : decode cX10_retro 109 = .ok (.iload 4, 2) := by decide +kernel
theorem dX10_retro_111 : decode cX10_retro 111 = .ok (.iastore, 1) := by decide +kernel
theorem dX10_retro_112 : decode cX10_retro 112 = .ok (.iload 7, 2) := by decide +kernel
theorem dX10_retro_114 : decode cX10_retro 114 = .ok (.ireturn, 1) := by decide +kernel
theorem dX10_station_0 : decode cX10_station 0 = .ok (.iload_n 1, 1) := by decide +kernel
theorem dX10_station_1 : decode cX10_station 1 = .ok (.iconst 0, 1) := by decide +kernel
theorem dX10_station_2 : decode cX10_station 2 = .ok (.bipush 15, 2) := by decide +kernel
theorem dX10_station_4 : decode cX10_station 4 = .ok (.invokestatic 141, 3) := by decide +kernel
theorem dX10_station_7 : decode cX10_station 7 = .ok (.istore_n 2, 1) := by decide +kernel
theorem dX10_station_8 : decode cX10_station 8 = .ok (.aload_n 0, 1) := by decide +kernel
theorem dX10_station_9 : decode cX10_station 9 = .ok (.iload_n 2, 1) := by decide +kernel
theorem dX10_station_10 : decode cX10_station 10 = .ok (.ifCond .ne 7, 3) := by decide +kernel
theorem dX10_station_13 : decode cX10_station 13 = .ok (.iconst 1, 1) := by decide +kernel
theorem dX10_station_14 : decode cX10_station 14 = .ok (.goto 17, 3) := by decide +kernel
theorem dX10_station_17 : decode cX10_station 17 = .ok (.aload_n 0, 1) := by decide +kernel
theorem dX10_station_18 : decode cX10_station 18 = .ok (.getfield 188, 3) := by decide +kernel
theorem dX10_station_21 : decode cX10_station 21 = .ok (.bipush 6, 2) := by decide +kernel
theorem dX10_station_23 : decode cX10_station 23 = .ok (.if_icmp .ne 7, 3) := by decide +kernel
theorem dX10_station_26 : decode cX10_station 26 = .ok (.iconst 2, 1) := by decide +kernel
theorem dX10_station_27 : decode cX10_station 27 = .ok (.goto 4, 3) := by decide +kernel
theorem dX10_station_30 : decode cX10_station 30 = .ok (.iconst 0, 1) := by decide +kernel
theorem dX10_station_31 : decode cX10_station 31 = .ok (.invokevirtual 156, 3) := by decide +kernel
theorem dX10_station_34 : decode cX10_station 34 = .ok (.ifCond .ne 5, 3) := by decide +kernel
theorem dX10_station_37 : decode cX10_station 37 = .ok (.iconst 0, 1) := by decide +kernel
theorem dX10_station_38 : decode cX10_station 38 = .ok (.ireturn, 1) := by decide +kernel
theorem dX10_station_39 : decode cX10_station 39 = .ok (.aload_n 0, 1) := by decide +kernel
theorem dX10_station_40 : decode cX10_station 40 = .ok (.getfield 58, 3) := by decide +kernel
theorem dX10_station_43 : decode cX10_station 43 = .ok (.aload_n 0, 1) := by decide +kernel
theorem dX10_station_44 : decode cX10_station 44 = .ok (.getfield 188, 3) := by decide +kernel
theorem dX10_station_47 : decode cX10_station 47 = .ok (.iload_n 1, 1) := by decide +kernel
theorem dX10_station_48 : decode cX10_station 48 = .ok (.iastore, 1) := by decide +kernel
theorem dX10_station_49 : decode cX10_station 49 = .ok (.aload_n 0, 1) := by decide +kernel
theorem dX10_station_50 : decode cX10_station 50 = .ok (.getfield 61, 3) := by decide +kernel
theorem dX10_station_53 : decode cX10_station 53 = .ok (.aload_n 0, 1) := by decide +kernel
theorem dX10_station_54 : decode cX10_station 54 = .ok (.getfield 188, 3) := by decide +kernel
theorem dX10_station_57 : decode cX10_station 57 = .ok (.sipush 2200, 3) := by decide +kernel
theorem dX10_station_60 : decode cX10_station 60 = .ok (.iastore, 1) := by decide +kernel
theorem dX10_station_61 : decode cX10_station 61 = .ok (.aload_n 0, 1) := by decide +kernel
theorem dX10_station_62 : decode cX10_station 62 = .ok (.dup, 1) := by decide +kernel
theorem dX10_station_63 : decode cX10_station 63 = .ok (.getfield 188, 3) := by decide +kernel
theorem dX10_station_66 : decode cX10_station 66 = .ok (.iconst 1, 1) := by decide +kernel
theorem dX10_station_67 : decode cX10_station 67 = .ok (.iadd, 1) := by decide +kernel
theorem dX10_station_68 : decode cX10_station 68 = .ok (.putfield 188, 3) := by decide +kernel
theorem dX10_station_71 : decode cX10_station 71 = .ok (.aload_n 0, 1) := by decide +kernel
theorem dX10_station_72 : decode cX10_station 72 = .ok (.getfield 188, 3) := by decide +kernel
theorem dX10_station_75 : decode cX10_station 75 = .ok (.iconst 1, 1) := by decide +kernel
theorem dX10_station_76 : decode cX10_station 76 = .ok (.isub, 1) := by decide +kernel
theorem dX10_station_77 : decode cX10_station 77 = .ok (.ireturn, 1) := by decide +kernel
theorem dX10_isStation_0 : decode cX10_isStation 0 = .ok (.iload_n 1, 1) := by decide +kernel
theorem dX10_isStation_1 : decode cX10_isStation 1 = .ok (.iconst 0, 1) := by decide +kernel
theorem dX10_isStation_2 : decode cX10_isStation 2 = .ok (.aload_n 0, 1) := by decide +kernel
theorem dX10_isStation_3 : decode cX10_isStation 3 = .ok (.getfield 188, 3) := by decide +kernel
theorem dX10_isStation_6 : decode cX10_isStation 6 = .ok (.iconst 1, 1) := by decide +kernel
theorem dX10_isStation_7 : decode cX10_isStation 7 = .ok (.isub, 1) := by decide +kernel
theorem dX10_isStation_8 : decode cX10_isStation 8 = .ok (.invokestatic 141, 3) := by decide +kernel
theorem dX10_isStation_11 : decode cX10_isStation 11 = .ok (.ireturn, 1) := by decide +kernel
theorem dX10_reading_0 : decode cX10_reading 0 = .ok (.aload_n 0, 1) := by decide +kernel
theorem dX10_reading_1 : decode cX10_reading 1 = .ok (.iload_n 1, 1) := by decide +kernel
theorem dX10_reading_2 : decode cX10_reading 2 = .ok (.invokevirtual 191, 3) := by decide +kernel
theorem dX10_reading_5 : decode cX10_reading 5 = .ok (.istore 5, 2) := by decide +kernel
theorem dX10_reading_7 : decode cX10_reading 7 = .ok (.iload_n 2, 1) := by decide +kernel
theorem dX10_reading_8 : decode cX10_reading 8 = .ok (.invokestatic 149, 3) := by decide +kernel
theorem dX10_reading_11 : decode cX10_reading 11 = .ok (.ifCond .eq 25, 3) := by decide +kernel
theorem dX10_reading_14 : decode cX10_reading 14 = .ok (.iload_n 3, 1) := by decide +kernel
theorem dX10_reading_15 : decode cX10_reading 15 = .ok (.invokestatic 145, 3) := by decide +kernel
theorem dX10_reading_18 : decode cX10_reading 18 = .ok (.ifCond .eq 18, 3) := by decide +kernel
theorem dX10_reading_21 : decode cX10_reading 21 = .ok (.iload 4, 2) := by decide +kernel
theorem dX10_reading_23 : decode cX10_reading 23 = .ok (.iconst 0, 1) := by decide +kernel
theorem dX10_reading_24 : decode cX10_reading 24 = .ok (.bipush 9, 2) := by decide +kernel
theorem dX10_reading_26 : decode cX10_reading 26 = .ok (.invokestatic 141, 3) := by decide +kernel
theorem dX10_reading_29 : decode cX10_reading 29 = .ok (.ifCond .eq 7, 3) := by decide +kernel
theorem dX10_reading_32 : decode cX10_reading 32 = .ok (.iconst 1, 1) := by decide +kernel
theorem dX10_reading_33 : decode cX10_reading 33 = .ok (.goto 4, 3) := by decide +kernel
theorem dX10_reading_36 : decode cX10_reading 36 = .ok (.iconst 0, 1) := by decide +kernel
theorem dX10_reading_37 : decode cX10_reading 37 = .ok (.istore 6, 2) := by decide +kernel
theorem dX10_reading_39 : decode cX10_reading 39 = .ok (.aload_n 0, 1) := by decide +kernel
theorem dX10_reading_40 : decode cX10_reading 40 = .ok (.iload 5, 2) := by decide +kernel
theorem dX10_reading_42 : decode cX10_reading 42 = .ok (.ifCond .ne 7, 3) := by decide +kernel
theorem dX10_reading_45 : decode cX10_reading 45 = .ok (.iconst 1, 1) := by decide +kernel
theorem dX10_reading_46 : decode cX10_reading 46 = .ok (.goto 26, 3) := by decide +kernel
theorem dX10_reading_49 : decode cX10_reading 49 = .ok (.iload 6, 2) := by decide +kernel
theorem dX10_reading_51 : decode cX10_reading 51 = .ok (.ifCond .ne 7, 3) := by decide +kernel
theorem dX10_reading_54 : decode cX10_reading 54 = .ok (.iconst 2, 1) := by decide +kernel
theorem dX10_reading_55 : decode cX10_reading 55 = .ok (.goto 17, 3) := by decide +kernel
theorem dX10_reading_58 : decode cX10_reading 58 = .ok (.aload_n 0, 1) := by decide +kernel
theorem dX10_reading_59 : decode cX10_reading 59 = .ok (.getfield 194, 3) := by decide +kernel
theorem dX10_reading_62 : decode cX10_reading 62 = .ok (.bipush 60, 2) := by decide +kernel
theorem dX10_reading_64 : decode cX10_reading 64 = .ok (.if_icmp .ne 7, 3) := by decide +kernel
theorem dX10_reading_67 : decode cX10_reading 67 = .ok (.iconst 3, 1) := by decide +kernel
theorem dX10_reading_68 : decode cX10_reading 68 = .ok (.goto 4, 3) := by decide +kernel
theorem dX10_reading_71 : decode cX10_reading 71 = .ok (.iconst 0, 1) := by decide +kernel
theorem dX10_reading_72 : decode cX10_reading 72 = .ok (.invokevirtual 156, 3) := by decide +kernel
theorem dX10_reading_75 : decode cX10_reading 75 = .ok (.ifCond .ne 5, 3) := by decide +kernel
theorem dX10_reading_78 : decode cX10_reading 78 = .ok (.iconst 0, 1) := by decide +kernel
theorem dX10_reading_79 : decode cX10_reading 79 = .ok (.ireturn, 1) := by decide +kernel
theorem dX10_reading_80 : decode cX10_reading 80 = .ok (.aload_n 0, 1) := by decide +kernel
theorem dX10_reading_81 : decode cX10_reading 81 = .ok (.getfield 64, 3) := by decide +kernel
theorem dX10_reading_84 : decode cX10_reading 84 = .ok (.aload_n 0, 1) := by decide +kernel
theorem dX10_reading_85 : decode cX10_reading 85 = .ok (.getfield 194, 3) := by decide +kernel
theorem dX10_reading_88 : decode cX10_reading 88 = .ok (.iload_n 1, 1) := by decide +kernel
theorem dX10_reading_89 : decode cX10_reading 89 = .ok (.iastore, 1) := by decide +kernel
theorem dX10_reading_90 : decode cX10_reading 90 = .ok (.aload_n 0, 1) := by decide +kernel
theorem dX10_reading_91 : decode cX10_reading 91 = .ok (.getfield 67, 3) := by decide +kernel
theorem dX10_reading_94 : decode cX10_reading 94 = .ok (.aload_n 0, 1) := by decide +kernel
theorem dX10_reading_95 : decode cX10_reading 95 = .ok (.getfield 194, 3) := by decide +kernel
theorem dX10_reading_98 : decode cX10_reading 98 = .ok (.iload_n 2, 1) := by decide +kernel
theorem dX10_reading_99 : decode cX10_reading 99 = .ok (.iastore, 1) := by decide +kernel
theorem dX10_reading_100 : decode cX10_reading 100 = .ok (.aload_n 0, 1) := by decide +kernel
theorem dX10_reading_101 : decode cX10_reading 101 = .ok (.getfield 70, 3) := by decide +kernel
theorem dX10_reading_104 : decode cX10_reading 104 = .ok (.aload_n 0, 1) := by decide +kernel
theorem dX10_reading_105 : decode cX10_reading 105 = .ok (.getfield 194, 3) := by decide +kernel
theorem dX10_reading_108 : decode cX10_reading 108 = .ok (.iload_n 3, 1) := by decide +kernel
theorem dX10_reading_109 : decode cX10_reading 109 = .ok (.iastore, 1) := by decide +kernel
theorem dX10_reading_110 : decode cX10_reading 110 = .ok (.aload_n 0, 1) := by decide +kernel
theorem dX10_reading_111 : decode cX10_reading 111 = .ok (.getfield 73, 3) := by decide +kernel
theorem dX10_reading_114 : decode cX10_reading 114 = .ok (.aload_n 0, 1) := by decide +kernel
theorem dX10_reading_115 : decode cX10_reading 115 = .ok (.getfield 194, 3) := by decide +kernel
theorem dX10_reading_118 : decode cX10_reading 118 = .ok (.iload 4, 2) := by decide +kernel
theorem dX10_reading_120 : decode cX10_reading 120 = .ok (.iastore, 1) := by decide +kernel
theorem dX10_reading_121 : decode cX10_reading 121 = .ok (.aload_n 0, 1) := by decide +kernel
theorem dX10_reading_122 : decode cX10_reading 122 = .ok (.dup, 1) := by decide +kernel
theorem dX10_reading_123 : decode cX10_reading 123 = .ok (.getfield 194, 3) := by decide +kernel
theorem dX10_reading_126 : decode cX10_reading 126 = .ok (.iconst 1, 1) := by decide +kernel
theorem dX10_reading_127 : decode cX10_reading 127 = .ok (.iadd, 1) := by decide +kernel
theorem dX10_reading_128 : decode cX10_reading 128 = .ok (.putfield 194, 3) := by decide +kernel
theorem dX10_reading_131 : decode cX10_reading 131 = .ok (.aload_n 0, 1) := by decide +kernel
theorem dX10_reading_132 : decode cX10_reading 132 = .ok (.getfield 194, 3) := by decide +kernel
theorem dX10_reading_135 : decode cX10_reading 135 = .ok (.ireturn, 1) := by decide +kernel
theorem dX10_fails_0 : decode cX10_fails 0 = .ok (.aload_n 0, 1) := by decide +kernel
theorem dX10_fails_1 : decode cX10_fails 1 = .ok (.iload_n 1, 1) := by decide +kernel
theorem dX10_fails_2 : decode cX10_fails 2 = .ok (.invokevirtual 191, 3) := by decide +kernel
theorem dX10_fails_5 : decode cX10_fails 5 = .ok (.istore_n 3, 1) := by decide +kernel
theorem dX10_fails_6 : decode cX10_fails 6 = .ok (.aload_n 0, 1) := by decide +kernel
theorem dX10_fails_7 : decode cX10_fails 7 = .ok (.iload_n 3, 1) := by decide +kernel
theorem dX10_fails_8 : decode cX10_fails 8 = .ok (.ifCond .ne 7, 3) := by decide +kernel
theorem dX10_fails_11 : decode cX10_fails 11 = .ok (.iconst 1, 1) := by decide +kernel
theorem dX10_fails_12 : decode cX10_fails 12 = .ok (.goto 31, 3) := by decide +kernel
theorem dX10_fails_15 : decode cX10_fails 15 = .ok (.iload_n 2, 1) := by decide +kernel
theorem dX10_fails_16 : decode cX10_fails 16 = .ok (.invokestatic 149, 3) := by decide +kernel
theorem dX10_fails_19 : decode cX10_fails 19 = .ok (.ifCond .ne 7, 3) := by decide +kernel
theorem dX10_fails_22 : decode cX10_fails 22 = .ok (.iconst 2, 1) := by decide +kernel
theorem dX10_fails_23 : decode cX10_fails 23 = .ok (.goto 20, 3) := by decide +kernel
theorem dX10_fails_26 : decode cX10_fails 26 = .ok (.aload_n 0, 1) := by decide +kernel
theorem dX10_fails_27 : decode cX10_fails 27 = .ok (.getfield 61, 3) := by decide +kernel
theorem dX10_fails_30 : decode cX10_fails 30 = .ok (.iload_n 1, 1) := by decide +kernel
theorem dX10_fails_31 : decode cX10_fails 31 = .ok (.iaload, 1) := by decide +kernel
theorem dX10_fails_32 : decode cX10_fails 32 = .ok (.sipush 2199, 3) := by decide +kernel
theorem dX10_fails_35 : decode cX10_fails 35 = .ok (.if_icmp .gt 7, 3) := by decide +kernel
theorem dX10_fails_38 : decode cX10_fails 38 = .ok (.iconst 3, 1) := by decide +kernel
theorem dX10_fails_39 : decode cX10_fails 39 = .ok (.goto 4, 3) := by decide +kernel
theorem dX10_fails_42 : decode cX10_fails 42 = .ok (.iconst 0, 1) := by decide +kernel
theorem dX10_fails_43 : decode cX10_fails 43 = .ok (.invokevirtual 156, 3) := by decide +kernel
theorem dX10_fails_46 : decode cX10_fails 46 = .ok (.ifCond .ne 5, 3) := by decide +kernel
theorem dX10_fails_49 : decode cX10_fails 49 = .ok (.iconst 0, 1) := by decide +kernel
theorem dX10_fails_50 : decode cX10_fails 50 = .ok (.ireturn, 1) := by decide +kernel
theorem dX10_fails_51 : decode cX10_fails 51 = .ok (.aload_n 0, 1) := by decide +kernel
theorem dX10_fails_52 : decode cX10_fails 52 = .ok (.getfield 61, 3) := by decide +kernel
theorem dX10_fails_55 : decode cX10_fails 55 = .ok (.iload_n 1, 1) := by decide +kernel
theorem dX10_fails_56 : decode cX10_fails 56 = .ok (.iload_n 2, 1) := by decide +kernel
theorem dX10_fails_57 : decode cX10_fails 57 = .ok (.iastore, 1) := by decide +kernel
theorem dX10_fails_58 : decode cX10_fails 58 = .ok (.iconst 0, 1) := by decide +kernel
theorem dX10_fails_59 : decode cX10_fails 59 = .ok (.istore 4, 2) := by decide +kernel
theorem dX10_fails_61 : decode cX10_fails 61 = .ok (.iconst 0, 1) := by decide +kernel
theorem dX10_fails_62 : decode cX10_fails 62 = .ok (.istore 5, 2) := by decide +kernel
theorem dX10_fails_64 : decode cX10_fails 64 = .ok (.iload 5, 2) := by decide +kernel
theorem dX10_fails_66 : decode cX10_fails 66 = .ok (.aload_n 0, 1) := by decide +kernel
theorem dX10_fails_67 : decode cX10_fails 67 = .ok (.getfield 194, 3) := by decide +kernel
theorem dX10_fails_70 : decode cX10_fails 70 = .ok (.if_icmp .ge 41, 3) := by decide +kernel
theorem dX10_fails_73 : decode cX10_fails 73 = .ok (.iload 4, 2) := by decide +kernel
theorem dX10_fails_75 : decode cX10_fails 75 = .ok (.aload_n 0, 1) := by decide +kernel
theorem dX10_fails_76 : decode cX10_fails 76 = .ok (.getfield 64, 3) := by decide +kernel
theorem dX10_fails_79 : decode cX10_fails 79 = .ok (.iload 5, 2) := by decide +kernel
theorem dX10_fails_81 : decode cX10_fails 81 = .ok (.iaload, 1) := by decide +kernel
theorem dX10_fails_82 : decode cX10_fails 82 = .ok (.iload_n 1, 1) := by decide +kernel
theorem dX10_fails_83 : decode cX10_fails 83 = .ok (.if_icmp .ne 18, 3) := by decide +kernel
theorem dX10_fails_86 : decode cX10_fails 86 = .ok (.aload_n 0, 1) := by decide +kernel
theorem dX10_fails_87 : decode cX10_fails 87 = .ok (.getfield 67, 3) := by decide +kernel
theorem dX10_fails_90 : decode cX10_fails 90 = .ok (.iload 5, 2) := by decide +kernel
theorem dX10_fails_92 : decode cX10_fails 92 = .ok (.iaload, 1) := by decide +kernel
theorem dX10_fails_93 : decode cX10_fails 93 = .ok (.iload_n 2, 1) := by decide +kernel
theorem dX10_fails_94 : decode cX10_fails 94 = .ok (.if_icmp .ge 7, 3) := by decide +kernel
theorem dX10_fails_97 : decode cX10_fails 97 = .ok (.iconst 1, 1) := by decide +kernel
theorem dX10_fails_98 : decode cX10_fails 98 = .ok (.goto 4, 3) := by decide +kernel
theorem dX10_fails_101 : decode cX10_fails 101 = .ok (.iconst 0, 1) := by decide +kernel
theorem dX10_fails_102 : decode cX10_fails 102 = .ok (.iadd, 1) := by decide +kernel
theorem dX10_fails_103 : decode cX10_fails 103 = .ok (.istore 4, 2) := by decide +kernel
theorem dX10_fails_105 : decode cX10_fails 105 = .ok (.iinc 5 1, 3) := by decide +kernel
theorem dX10_fails_108 : decode cX10_fails 108 = .ok (.goto (-44), 3) := by decide +kernel
theorem dX10_fails_111 : decode cX10_fails 111 = .ok (.iload 4, 2) := by decide +kernel
theorem dX10_fails_113 : decode cX10_fails 113 = .ok (.ireturn, 1) := by decide +kernel
theorem dX10_bond_0 : decode cX10_bond 0 = .ok (.iload_n 1, 1) := by decide +kernel
theorem dX10_bond_1 : decode cX10_bond 1 = .ok (.iconst 1, 1) := by decide +kernel
theorem dX10_bond_2 : decode cX10_bond 2 = .ok (.ldc 175, 2) := by decide +kernel
theorem dX10_bond_4 : decode cX10_bond 4 = .ok (.invokestatic 141, 3) := by decide +kernel
theorem dX10_bond_7 : decode cX10_bond 7 = .ok (.ifCond .eq 69, 3) := by decide +kernel
theorem dX10_bond_10 : decode cX10_bond 10 = .ok (.iload_n 2, 1) := by decide +kernel
theorem dX10_bond_11 : decode cX10_bond 11 = .ok (.invokestatic 145, 3) := by decide +kernel
theorem dX10_bond_14 : decode cX10_bond 14 = .ok (.ifCond .eq 62, 3) := by decide +kernel
theorem dX10_bond_17 : decode cX10_bond 17 = .ok (.iload_n 3, 1) := by decide +kernel
theorem dX10_bond_18 : decode cX10_bond 18 = .ok (.iconst 1, 1) := by decide +kernel
theorem dX10_bond_19 : decode cX10_bond 19 = .ok (.ldc 197, 2) := by decide +kernel
theorem dX10_bond_21 : decode cX10_bond 21 = .ok (.invokestatic 141, 3) := by decide +kernel
theorem dX10_bond_24 : decode cX10_bond 24 = .ok (.ifCond .eq 52, 3) := by decide +kernel
theorem dX10_bond_27 : decode cX10_bond 27 = .ok (.iload 4, 2) := by decide +kernel
theorem dX10_bond_29 : decode cX10_bond 29 = .ok (.invokestatic 149, 3) := by decide +kernel
theorem dX10_bond_32 : decode cX10_bond 32 = .ok (.ifCond .eq 44, 3) := by decide +kernel
theorem dX10_bond_35 : decode cX10_bond 35 = .ok (.iload 5, 2) := by decide +kernel
theorem dX10_bond_37 : decode cX10_bond 37 = .ok (.invokestatic 149, 3) := by decide +kernel
theorem dX10_bond_40 : decode cX10_bond 40 = .ok (.ifCond .eq 36, 3) := by decide +kernel
theorem dX10_bond_43 : decode cX10_bond 43 = .ok (.iload 5, 2) := by decide +kernel
theorem dX10_bond_45 : decode cX10_bond 45 = .ok (.iload 4, 2) := by decide +kernel
theorem dX10_bond_47 : decode cX10_bond 47 = .ok (.if_icmp .lt 29, 3) := by decide +kernel
theorem dX10_bond_50 : decode cX10_bond 50 = .ok (.iload 6, 2) := by decide +kernel
theorem dX10_bond_52 : decode cX10_bond 52 = .ok (.iconst 1, 1) := by decide +kernel
theorem dX10_bond_53 : decode cX10_bond 53 = .ok (.bipush 9, 2) := by decide +kernel
theorem dX10_bond_55 : decode cX10_bond 55 = .ok (.invokestatic 141, 3) := by decide +kernel
theorem dX10_bond_58 : decode cX10_bond 58 = .ok (.ifCond .eq 18, 3) := by decide +kernel
theorem dX10_bond_61 : decode cX10_bond 61 = .ok (.iload 7, 2) := by decide +kernel
theorem dX10_bond_63 : decode cX10_bond 63 = .ok (.iconst 1, 1) := by decide +kernel
theorem dX10_bond_64 : decode cX10_bond 64 = .ok (.bipush 100, 2) := by decide +kernel
theorem dX10_bond_66 : decode cX10_bond 66 = .ok (.invokestatic 141, 3) := by decide +kernel
theorem dX10_bond_69 : decode cX10_bond 69 = .ok (.ifCond .eq 7, 3) := by decide +kernel
theorem dX10_bond_72 : decode cX10_bond 72 = .ok (.iconst 1, 1) := by decide +kernel
theorem dX10_bond_73 : decode cX10_bond 73 = .ok (.goto 4, 3) := by decide +kernel
theorem dX10_bond_76 : decode cX10_bond 76 = .ok (.iconst 0, 1) := by decide +kernel
theorem dX10_bond_77 : decode cX10_bond 77 = .ok (.istore 8, 2) := by decide +kernel
theorem dX10_bond_79 : decode cX10_bond 79 = .ok (.aload_n 0, 1) := by decide +kernel
theorem dX10_bond_80 : decode cX10_bond 80 = .ok (.iload 8, 2) := by decide +kernel
theorem dX10_bond_82 : decode cX10_bond 82 = .ok (.ifCond .ne 7, 3) := by decide +kernel
theorem dX10_bond_85 : decode cX10_bond 85 = .ok (.iconst 1, 1) := by decide +kernel
theorem dX10_bond_86 : decode cX10_bond 86 = .ok (.goto 25, 3) := by decide +kernel
theorem dX10_bond_89 : decode cX10_bond 89 = .ok (.aload_n 0, 1) := by decide +kernel
theorem dX10_bond_90 : decode cX10_bond 90 = .ok (.getfield 198, 3) := by decide +kernel
theorem dX10_bond_93 : decode cX10_bond 93 = .ok (.iconst 5, 1) := by decide +kernel
theorem dX10_bond_94 : decode cX10_bond 94 = .ok (.if_icmp .eq 12, 3) := by decide +kernel
theorem dX10_bond_97 : decode cX10_bond 97 = .ok (.aload_n 0, 1) := by decide +kernel
theorem dX10_bond_98 : decode cX10_bond 98 = .ok (.getfield 201, 3) := by decide +kernel
theorem dX10_bond_101 : decode cX10_bond 101 = .ok (.iload 5, 2) := by decide +kernel
theorem dX10_bond_103 : decode cX10_bond 103 = .ok (.if_icmp .le 7, 3) := by decide +kernel
theorem dX10_bond_106 : decode cX10_bond 106 = .ok (.iconst 2, 1) := by decide +kernel
theorem dX10_bond_107 : decode cX10_bond 107 = .ok (.goto 4, 3) := by decide +kernel
theorem dX10_bond_110 : decode cX10_bond 110 = .ok (.iconst 0, 1) := by decide +kernel
theorem dX10_bond_111 : decode cX10_bond 111 = .ok (.invokevirtual 156, 3) := by decide +kernel
theorem dX10_bond_114 : decode cX10_bond 114 = .ok (.ifCond .ne 5, 3) := by decide +kernel
theorem dX10_bond_117 : decode cX10_bond 117 = .ok (.iconst 0, 1) := by decide +kernel
theorem dX10_bond_118 : decode cX10_bond 118 = .ok (.ireturn, 1) := by decide +kernel
theorem dX10_bond_119 : decode cX10_bond 119 = .ok (.aload_n 0, 1) := by decide +kernel
theorem dX10_bond_120 : decode cX10_bond 120 = .ok (.getfield 76, 3) := by decide +kernel
theorem dX10_bond_123 : decode cX10_bond 123 = .ok (.aload_n 0, 1) := by decide +kernel
theorem dX10_bond_124 : decode cX10_bond 124 = .ok (.getfield 198, 3) := by decide +kernel
theorem dX10_bond_127 : decode cX10_bond 127 = .ok (.iload_n 1, 1) := by decide +kernel
theorem dX10_bond_128 : decode cX10_bond 128 = .ok (.iastore, 1) := by decide +kernel
theorem dX10_bond_129 : decode cX10_bond 129 = .ok (.aload_n 0, 1) := by decide +kernel
theorem dX10_bond_130 : decode cX10_bond 130 = .ok (.getfield 79, 3) := by decide +kernel
theorem dX10_bond_133 : decode cX10_bond 133 = .ok (.aload_n 0, 1) := by decide +kernel
theorem dX10_bond_134 : decode cX10_bond 134 = .ok (.getfield 198, 3) := by decide +kernel
theorem dX10_bond_137 : decode cX10_bond 137 = .ok (.iload_n 2, 1) := by decide +kernel
theorem dX10_bond_138 : decode cX10_bond 138 = .ok (.iastore, 1) := by decide +kernel
theorem dX10_bond_139 : decode cX10_bond 139 = .ok (.aload_n 0, 1) := by decide +kernel
theorem dX10_bond_140 : decode cX10_bond 140 = .ok (.getfield 82, 3) := by decide +kernel
theorem dX10_bond_143 : decode cX10_bond 143 = .ok (.aload_n 0, 1) := by decide +kernel
theorem dX10_bond_144 : decode cX10_bond 144 = .ok (.getfield 198, 3) := by decide +kernel
theorem dX10_bond_147 : decode cX10_bond 147 = .ok (.iload_n 3, 1) := by decide +kernel
theorem dX10_bond_148 : decode cX10_bond 148 = .ok (.iastore, 1) := by decide +kernel
theorem dX10_bond_149 : decode cX10_bond 149 = .ok (.aload_n 0, 1) := by decide +kernel
theorem dX10_bond_150 : decode cX10_bond 150 = .ok (.getfield 85, 3) := by decide +kernel
theorem dX10_bond_153 : decode cX10_bond 153 = .ok (.aload_n 0, 1) := by decide +kernel
theorem dX10_bond_154 : decode cX10_bond 154 = .ok (.getfield 198, 3) := by decide +kernel
theorem dX10_bond_157 : decode cX10_bond 157 = .ok (.iload 4, 2) := by decide +kernel
theorem dX10_bond_159 : decode cX10_bond 159 = .ok (.iastore, 1) := by decide +kernel
theorem dX10_bond_160 : decode cX10_bond 160 = .ok (.aload_n 0, 1) := by decide +kernel
theorem dX10_bond_161 : decode cX10_bond 161 = .ok (.getfield 88, 3) := by decide +kernel
theorem dX10_bond_164 : decode cX10_bond 164 = .ok (.aload_n 0, 1) := by decide +kernel
theorem dX10_bond_165 : decode cX10_bond 165 = .ok (.getfield 198, 3) := by decide +kernel
theorem dX10_bond_168 : decode cX10_bond 168 = .ok (.iload 5, 2) := by decide +kernel
theorem dX10_bond_170 : decode cX10_bond 170 = .ok (.iastore, 1) := by decide +kernel
theorem dX10_bond_171 : decode cX10_bond 171 = .ok (.aload_n 0, 1) := by decide +kernel
theorem dX10_bond_172 : decode cX10_bond 172 = .ok (.getfield 91, 3) := by decide +kernel
theorem dX10_bond_175 : decode cX10_bond 175 = .ok (.aload_n 0, 1) := by decide +kernel
theorem dX10_bond_176 : decode cX10_bond 176 = .ok (.getfield 198, 3) := by decide +kernel
theorem dX10_bond_179 : decode cX10_bond 179 = .ok (.iload 6, 2) := by decide +kernel
theorem dX10_bond_181 : decode cX10_bond 181 = .ok (.iastore, 1) := by decide +kernel
theorem dX10_bond_182 : decode cX10_bond 182 = .ok (.aload_n 0, 1) := by decide +kernel
theorem dX10_bond_183 : decode cX10_bond 183 = .ok (.getfield 94, 3) := by decide +kernel
theorem dX10_bond_186 : decode cX10_bond 186 = .ok (.aload_n 0, 1) := by decide +kernel
theorem dX10_bond_187 : decode cX10_bond 187 = .ok (.getfield 198, 3) := by decide +kernel
theorem dX10_bond_190 : decode cX10_bond 190 = .ok (.iload 7, 2) := by decide +kernel
theorem dX10_bond_192 : decode cX10_bond 192 = .ok (.iastore, 1) := by decide +kernel
theorem dX10_bond_193 : decode cX10_bond 193 = .ok (.aload_n 0, 1) := by decide +kernel
theorem dX10_bond_194 : decode cX10_bond 194 = .ok (.dup, 1) := by decide +kernel
theorem dX10_bond_195 : decode cX10_bond 195 = .ok (.getfield 198, 3) := by decide +kernel
theorem dX10_bond_198 : decode cX10_bond 198 = .ok (.iconst 1, 1) := by decide +kernel
theorem dX10_bond_199 : decode cX10_bond 199 = .ok (.iadd, 1) := by decide +kernel
theorem dX10_bond_200 : decode cX10_bond 200 = .ok (.putfield 198, 3) := by decide +kernel
theorem dX10_bond_203 : decode cX10_bond 203 = .ok (.aload_n 0, 1) := by decide +kernel
theorem dX10_bond_204 : decode cX10_bond 204 = .ok (.getfield 198, 3) := by decide +kernel
theorem dX10_bond_207 : decode cX10_bond 207 = .ok (.iconst 1, 1) := by decide +kernel
theorem dX10_bond_208 : decode cX10_bond 208 = .ok (.isub, 1) := by decide +kernel
theorem dX10_bond_209 : decode cX10_bond 209 = .ok (.ireturn, 1) := by decide +kernel
theorem dX10_isBond_0 : decode cX10_isBond 0 = .ok (.iload_n 1, 1) := by decide +kernel
theorem dX10_isBond_1 : decode cX10_isBond 1 = .ok (.iconst 0, 1) := by decide +kernel
theorem dX10_isBond_2 : decode cX10_isBond 2 = .ok (.aload_n 0, 1) := by decide +kernel
theorem dX10_isBond_3 : decode cX10_isBond 3 = .ok (.getfield 198, 3) := by decide +kernel
theorem dX10_isBond_6 : decode cX10_isBond 6 = .ok (.iconst 1, 1) := by decide +kernel
theorem dX10_isBond_7 : decode cX10_isBond 7 = .ok (.isub, 1) := by decide +kernel
theorem dX10_isBond_8 : decode cX10_isBond 8 = .ok (.invokestatic 141, 3) := by decide +kernel
theorem dX10_isBond_11 : decode cX10_isBond 11 = .ok (.ireturn, 1) := by decide +kernel
theorem dX10_isInTrust_0 : decode cX10_isInTrust 0 = .ok (.aload_n 0, 1) := by decide +kernel
theorem dX10_isInTrust_1 : decode cX10_isInTrust 1 = .ok (.getfield 201, 3) := by decide +kernel
theorem dX10_isInTrust_4 : decode cX10_isInTrust 4 = .ok (.aload_n 0, 1) := by decide +kernel
theorem dX10_isInTrust_5 : decode cX10_isInTrust 5 = .ok (.getfield 88, 3) := by decide +kernel
theorem dX10_isInTrust_8 : decode cX10_isInTrust 8 = .ok (.iload_n 1, 1) := by decide +kernel
theorem dX10_isInTrust_9 : decode cX10_isInTrust 9 = .ok (.iaload, 1) := by decide +kernel
theorem dX10_isInTrust_10 : decode cX10_isInTrust 10 = .ok (.aload_n 0, 1) := by decide +kernel
theorem dX10_isInTrust_11 : decode cX10_isInTrust 11 = .ok (.getfield 97, 3) := by decide +kernel
theorem dX10_isInTrust_14 : decode cX10_isInTrust 14 = .ok (.iload_n 1, 1) := by decide +kernel
theorem dX10_isInTrust_15 : decode cX10_isInTrust 15 = .ok (.iaload, 1) := by decide +kernel
theorem dX10_isInTrust_16 : decode cX10_isInTrust 16 = .ok (.iadd, 1) := by decide +kernel
theorem dX10_isInTrust_17 : decode cX10_isInTrust 17 = .ok (.if_icmp .gt 7, 3) := by decide +kernel
theorem dX10_isInTrust_20 : decode cX10_isInTrust 20 = .ok (.iconst 1, 1) := by decide +kernel
theorem dX10_isInTrust_21 : decode cX10_isInTrust 21 = .ok (.goto 4, 3) := by decide +kernel
theorem dX10_isInTrust_24 : decode cX10_isInTrust 24 = .ok (.iconst 0, 1) := by decide +kernel
theorem dX10_isInTrust_25 : decode cX10_isInTrust 25 = .ok (.ireturn, 1) := by decide +kernel
theorem dX10_extend_0 : decode cX10_extend 0 = .ok (.aload_n 0, 1) := by decide +kernel
theorem dX10_extend_1 : decode cX10_extend 1 = .ok (.iload_n 1, 1) := by decide +kernel
theorem dX10_extend_2 : decode cX10_extend 2 = .ok (.invokevirtual 204, 3) := by decide +kernel
theorem dX10_extend_5 : decode cX10_extend 5 = .ok (.istore_n 3, 1) := by decide +kernel
theorem dX10_extend_6 : decode cX10_extend 6 = .ok (.aload_n 0, 1) := by decide +kernel
theorem dX10_extend_7 : decode cX10_extend 7 = .ok (.iload_n 3, 1) := by decide +kernel
theorem dX10_extend_8 : decode cX10_extend 8 = .ok (.ifCond .ne 7, 3) := by decide +kernel
theorem dX10_extend_11 : decode cX10_extend 11 = .ok (.iconst 1, 1) := by decide +kernel
theorem dX10_extend_12 : decode cX10_extend 12 = .ok (.goto 40, 3) := by decide +kernel
theorem dX10_extend_15 : decode cX10_extend 15 = .ok (.iload_n 2, 1) := by decide +kernel
theorem dX10_extend_16 : decode cX10_extend 16 = .ok (.iconst 1, 1) := by decide +kernel
theorem dX10_extend_17 : decode cX10_extend 17 = .ok (.sipush 500, 3) := by decide +kernel
theorem dX10_extend_20 : decode cX10_extend 20 = .ok (.invokestatic 141, 3) := by decide +kernel
theorem dX10_extend_23 : decode cX10_extend 23 = .ok (.ifCond .ne 7, 3) := by decide +kernel
theorem dX10_extend_26 : decode cX10_extend 26 = .ok (.iconst 2, 1) := by decide +kernel
theorem dX10_extend_27 : decode cX10_extend 27 = .ok (.goto 25, 3) := by decide +kernel
theorem dX10_extend_30 : decode cX10_extend 30 = .ok (.aload_n 0, 1) := by decide +kernel
theorem dX10_extend_31 : decode cX10_extend 31 = .ok (.getfield 97, 3) := by decide +kernel
theorem dX10_extend_34 : decode cX10_extend 34 = .ok (.iload_n 1, 1) := by decide +kernel
theorem dX10_extend_35 : decode cX10_extend 35 = .ok (.iaload, 1) := by decide +kernel
theorem dX10_extend_36 : decode cX10_extend 36 = .ok (.ifCond .gt 11, 3) := by decide +kernel
theorem dX10_extend_39 : decode cX10_extend 39 = .ok (.aload_n 0, 1) := by decide +kernel
theorem dX10_extend_40 : decode cX10_extend 40 = .ok (.iload_n 1, 1) := by decide +kernel
theorem dX10_extend_41 : decode cX10_extend 41 = .ok (.invokevirtual 207, 3) := by decide +kernel
theorem dX10_extend_44 : decode cX10_extend 44 = .ok (.ifCond .ne 7, 3) := by decide +kernel
theorem dX10_extend_47 : decode cX10_extend 47 = .ok (.iconst 3, 1) := by decide +kernel
theorem dX10_extend_48 : decode cX10_extend 48 = .ok (.goto 4, 3) := by decide +kernel
theorem dX10_extend_51 : decode cX10_extend 51 = .ok (.iconst 0, 1) := by decide +kernel
theorem dX10_extend_52 : decode cX10_extend 52 = .ok (.invokevirtual 156, 3) := by decide +kernel
theorem dX10_extend_55 : decode cX10_extend 55 = .ok (.ifCond .ne 5, 3) := by decide +kernel
theorem dX10_extend_58 : decode cX10_extend 58 = .ok (.iconst 0, 1) := by decide +kernel
theorem dX10_extend_59 : decode cX10_extend 59 = .ok (.ireturn, 1) := by decide +kernel
theorem dX10_extend_60 : decode cX10_extend 60 = .ok (.aload_n 0, 1) := by decide +kernel
theorem dX10_extend_61 : decode cX10_extend 61 = .ok (.getfield 97, 3) := by decide +kernel
theorem dX10_extend_64 : decode cX10_extend 64 = .ok (.iload_n 1, 1) := by decide +kernel
theorem dX10_extend_65 : decode cX10_extend 65 = .ok (.iload_n 2, 1) := by decide +kernel
theorem dX10_extend_66 : decode cX10_extend 66 = .ok (.iastore, 1) := by decide +kernel
theorem dX10_extend_67 : decode cX10_extend 67 = .ok (.aload_n 0, 1) := by decide +kernel
theorem dX10_extend_68 : decode cX10_extend 68 = .ok (.getfield 88, 3) := by decide +kernel
theorem dX10_extend_71 : decode cX10_extend 71 = .ok (.iload_n 1, 1) := by decide +kernel
theorem dX10_extend_72 : decode cX10_extend 72 = .ok (.iaload, 1) := by decide +kernel
theorem dX10_extend_73 : decode cX10_extend 73 = .ok (.iload_n 2, 1) := by decide +kernel
theorem dX10_extend_74 : decode cX10_extend 74 = .ok (.iadd, 1) := by decide +kernel
theorem dX10_extend_75 : decode cX10_extend 75 = .ok (.ireturn, 1) := by decide +kernel
theorem dX10_pass_0 : decode cX10_pass 0 = .ok (.iload_n 1, 1) := by decide +kernel
theorem dX10_pass_1 : decode cX10_pass 1 = .ok (.iconst 1, 1) := by decide +kernel
theorem dX10_pass_2 : decode cX10_pass 2 = .ok (.sipush 500, 3) := by decide +kernel
theorem dX10_pass_5 : decode cX10_pass 5 = .ok (.invokestatic 141, 3) := by decide +kernel
theorem dX10_pass_8 : decode cX10_pass 8 = .ok (.istore_n 2, 1) := by decide +kernel
theorem dX10_pass_9 : decode cX10_pass 9 = .ok (.aload_n 0, 1) := by decide +kernel
theorem dX10_pass_10 : decode cX10_pass 10 = .ok (.iload_n 2, 1) := by decide +kernel
theorem dX10_pass_11 : decode cX10_pass 11 = .ok (.ifCond .ne 7, 3) := by decide +kernel
theorem dX10_pass_14 : decode cX10_pass 14 = .ok (.iconst 1, 1) := by decide +kernel
theorem dX10_pass_15 : decode cX10_pass 15 = .ok (.goto 20, 3) := by decide +kernel
theorem dX10_pass_18 : decode cX10_pass 18 = .ok (.aload_n 0, 1) := by decide +kernel
theorem dX10_pass_19 : decode cX10_pass 19 = .ok (.getfield 201, 3) := by decide +kernel
theorem dX10_pass_22 : decode cX10_pass 22 = .ok (.iload_n 1, 1) := by decide +kernel
theorem dX10_pass_23 : decode cX10_pass 23 = .ok (.iadd, 1) := by decide +kernel
theorem dX10_pass_24 : decode cX10_pass 24 = .ok (.sipush 2199, 3) := by decide +kernel
theorem dX10_pass_27 : decode cX10_pass 27 = .ok (.if_icmp .le 7, 3) := by decide +kernel
theorem dX10_pass_30 : decode cX10_pass 30 = .ok (.iconst 2, 1) := by decide +kernel
theorem dX10_pass_31 : decode cX10_pass 31 = .ok (.goto 4, 3) := by decide +kernel
theorem dX10_pass_34 : decode cX10_pass 34 = .ok (.iconst 0, 1) := by decide +kernel
theorem dX10_pass_35 : decode cX10_pass 35 = .ok (.invokevirtual 156, 3) := by decide +kernel
theorem dX10_pass_38 : decode cX10_pass 38 = .ok (.ifCond .ne 5, 3) := by decide +kernel
theorem dX10_pass_41 : decode cX10_pass 41 = .ok (.iconst 0, 1) := by decide +kernel
theorem dX10_pass_42 : decode cX10_pass 42 = .ok (.ireturn, 1) := by decide +kernel
theorem dX10_pass_43 : decode cX10_pass 43 = .ok (.aload_n 0, 1) := by decide +kernel
theorem dX10_pass_44 : decode cX10_pass 44 = .ok (.dup, 1) := by decide +kernel
theorem dX10_pass_45 : decode cX10_pass 45 = .ok (.getfield 201, 3) := by decide +kernel
theorem dX10_pass_48 : decode cX10_pass 48 = .ok (.iload_n 1, 1) := by decide +kernel
theorem dX10_pass_49 : decode cX10_pass 49 = .ok (.iadd, 1) := by decide +kernel
theorem dX10_pass_50 : decode cX10_pass 50 = .ok (.putfield 201, 3) := by decide +kernel
theorem dX10_pass_53 : decode cX10_pass 53 = .ok (.aload_n 0, 1) := by decide +kernel
theorem dX10_pass_54 : decode cX10_pass 54 = .ok (.getfield 201, 3) := by decide +kernel
theorem dX10_pass_57 : decode cX10_pass 57 = .ok (.ireturn, 1) := by decide +kernel
theorem dX10_isModel_0 : decode cX10_isModel 0 = .ok (.iload_n 0, 1) := by decide +kernel
theorem dX10_isModel_1 : decode cX10_isModel 1 = .ok (.iconst 0, 1) := by decide +kernel
theorem dX10_isModel_2 : decode cX10_isModel 2 = .ok (.iconst 2, 1) := by decide +kernel
theorem dX10_isModel_3 : decode cX10_isModel 3 = .ok (.invokestatic 141, 3) := by decide +kernel
theorem dX10_isModel_6 : decode cX10_isModel 6 = .ok (.ireturn, 1) := by decide +kernel
theorem dX10_scenario_0 : decode cX10_scenario 0 = .ok (.iload_n 1, 1) := by decide +kernel
theorem dX10_scenario_1 : decode cX10_scenario 1 = .ok (.invokestatic 210, 3) := by decide +kernel
theorem dX10_scenario_4 : decode cX10_scenario 4 = .ok (.istore 4, 2) := by decide +kernel
theorem dX10_scenario_6 : decode cX10_scenario 6 = .ok (.iload_n 2, 1) := by decide +kernel
theorem dX10_scenario_7 : decode cX10_scenario 7 = .ok (.iconst 1, 1) := by decide +kernel
theorem dX10_scenario_8 : decode cX10_scenario 8 = .ok (.bipush 99, 2) := by decide +kernel
theorem dX10_scenario_10 : decode cX10_scenario 10 = .ok (.invokestatic 141, 3) := by decide +kernel
theorem dX10_scenario_13 : decode cX10_scenario 13 = .ok (.ifCond .eq 17, 3) := by decide +kernel
theorem dX10_scenario_16 : decode cX10_scenario 16 = .ok (.iload_n 3, 1) := by decide +kernel
theorem dX10_scenario_17 : decode cX10_scenario 17 = .ok (.iconst 0, 1) := by decide +kernel
theorem dX10_scenario_18 : decode cX10_scenario 18 = .ok (.ldc 175, 2) := by decide +kernel
theorem dX10_scenario_20 : decode cX10_scenario 20 = .ok (.invokestatic 141, 3) := by decide +kernel
theorem dX10_scenario_23 : decode cX10_scenario 23 = .ok (.ifCond .eq 7, 3) := by decide +kernel
theorem dX10_scenario_26 : decode cX10_scenario 26 = .ok (.iconst 1, 1) := by decide +kernel
theorem dX10_scenario_27 : decode cX10_scenario 27 = .ok (.goto 4, 3) := by decide +kernel
theorem dX10_scenario_30 : decode cX10_scenario 30 = .ok (.iconst 0, 1) := by decide +kernel
theorem dX10_scenario_31 : decode cX10_scenario 31 = .ok (.istore 5, 2) := by decide +kernel
theorem dX10_scenario_33 : decode cX10_scenario 33 = .ok (.aload_n 0, 1) := by decide +kernel
theorem dX10_scenario_34 : decode cX10_scenario 34 = .ok (.iload 4, 2) := by decide +kernel
theorem dX10_scenario_36 : decode cX10_scenario 36 = .ok (.ifCond .ne 7, 3) := by decide +kernel
theorem dX10_scenario_39 : decode cX10_scenario 39 = .ok (.iconst 1, 1) := by decide +kernel
theorem dX10_scenario_40 : decode cX10_scenario 40 = .ok (.goto 28, 3) := by decide +kernel
theorem dX10_scenario_43 : decode cX10_scenario 43 = .ok (.iload 5, 2) := by decide +kernel
theorem dX10_scenario_45 : decode cX10_scenario 45 = .ok (.ifCond .ne 7, 3) := by decide +kernel
theorem dX10_scenario_48 : decode cX10_scenario 48 = .ok (.iconst 2, 1) := by decide +kernel
theorem dX10_scenario_49 : decode cX10_scenario 49 = .ok (.goto 19, 3) := by decide +kernel
theorem dX10_scenario_52 : decode cX10_scenario 52 = .ok (.aload_n 0, 1) := by decide +kernel
theorem dX10_scenario_53 : decode cX10_scenario 53 = .ok (.getfield 100, 3) := by decide +kernel
theorem dX10_scenario_56 : decode cX10_scenario 56 = .ok (.iload_n 1, 1) := by decide +kernel
theorem dX10_scenario_57 : decode cX10_scenario 57 = .ok (.iaload, 1) := by decide +kernel
theorem dX10_scenario_58 : decode cX10_scenario 58 = .ok (.bipush 12, 2) := by decide +kernel
theorem dX10_scenario_60 : decode cX10_scenario 60 = .ok (.if_icmp .ne 7, 3) := by decide +kernel
theorem dX10_scenario_63 : decode cX10_scenario 63 = .ok (.iconst 3, 1) := by decide +kernel
theorem dX10_scenario_64 : decode cX10_scenario 64 = .ok (.goto 4, 3) := by decide +kernel
theorem dX10_scenario_67 : decode cX10_scenario 67 = .ok (.iconst 0, 1) := by decide +kernel
theorem dX10_scenario_68 : decode cX10_scenario 68 = .ok (.invokevirtual 156, 3) := by decide +kernel
theorem dX10_scenario_71 : decode cX10_scenario 71 = .ok (.ifCond .ne 5, 3) := by decide +kernel
theorem dX10_scenario_74 : decode cX10_scenario 74 = .ok (.iconst 0, 1) := by decide +kernel
theorem dX10_scenario_75 : decode cX10_scenario 75 = .ok (.ireturn, 1) := by decide +kernel
theorem dX10_scenario_76 : decode cX10_scenario 76 = .ok (.aload_n 0, 1) := by decide +kernel
theorem dX10_scenario_77 : decode cX10_scenario 77 = .ok (.getfield 103, 3) := by decide +kernel
theorem dX10_scenario_80 : decode cX10_scenario 80 = .ok (.bipush 12, 2) := by decide +kernel
theorem dX10_scenario_82 : decode cX10_scenario 82 = .ok (.iload_n 1, 1) := by decide +kernel
theorem dX10_scenario_83 : decode cX10_scenario 83 = .ok (.imul, 1) := by decide +kernel
theorem dX10_scenario_84 : decode cX10_scenario 84 = .ok (.aload_n 0, 1) := by decide +kernel
theorem dX10_scenario_85 : decode cX10_scenario 85 = .ok (.getfield 100, 3) := by decide +kernel
theorem dX10_scenario_88 : decode cX10_scenario 88 = .ok (.iload_n 1, 1) := by decide +kernel
theorem dX10_scenario_89 : decode cX10_scenario 89 = .ok (.iaload, 1) := by decide +kernel
theorem dX10_scenario_90 : decode cX10_scenario 90 = .ok (.iadd, 1) := by decide +kernel
theorem dX10_scenario_91 : decode cX10_scenario 91 = .ok (.iload_n 2, 1) := by decide +kernel
theorem dX10_scenario_92 : decode cX10_scenario 92 = .ok (.iastore, 1) := by decide +kernel
theorem dX10_scenario_93 : decode cX10_scenario 93 = .ok (.aload_n 0, 1) := by decide +kernel
theorem dX10_scenario_94 : decode cX10_scenario 94 = .ok (.getfield 106, 3) := by decide +kernel
theorem dX10_scenario_97 : decode cX10_scenario 97 = .ok (.bipush 12, 2) := by decide +kernel
theorem dX10_scenario_99 : decode cX10_scenario 99 = .ok (.iload_n 1, 1) := by decide +kernel
theorem dX10_scenario_100 : decode cX10_scenario 100 = .ok (.imul, 1) := by decide +kernel
theorem dX10_scenario_101 : decode cX10_scenario 101 = .ok (.aload_n 0, 1) := by decide +kernel
theorem dX10_scenario_102 : decode cX10_scenario 102 = .ok (.getfield 100, 3) := by decide +kernel
theorem dX10_scenario_105 : decode cX10_scenario 105 = .ok (.iload_n 1, 1) := by decide +kernel
theorem dX10_scenario_106 : decode cX10_scenario 106 = .ok (.iaload, 1) := by decide +kernel
theorem dX10_scenario_107 : decode cX10_scenario 107 = .ok (.iadd, 1) := by decide +kernel
theorem dX10_scenario_108 : decode cX10_scenario 108 = .ok (.iload_n 3, 1) := by decide +kernel
theorem dX10_scenario_109 : decode cX10_scenario 109 = .ok (.iastore, 1) := by decide +kernel
theorem dX10_scenario_110 : decode cX10_scenario 110 = .ok (.aload_n 0, 1) := by decide +kernel
theorem dX10_scenario_111 : decode cX10_scenario 111 = .ok (.getfield 100, 3) := by decide +kernel
theorem dX10_scenario_114 : decode cX10_scenario 114 = .ok (.iload_n 1, 1) := by decide +kernel
theorem dX10_scenario_115 : decode cX10_scenario 115 = .ok (.dup2, 1) := by decide +kernel
theorem dX10_scenario_116 : decode cX10_scenario 116 = .ok (.iaload, 1) := by decide +kernel
theorem dX10_scenario_117 : decode cX10_scenario 117 = .ok (.iconst 1, 1) := by decide +kernel
theorem dX10_scenario_118 : decode cX10_scenario 118 = .ok (.iadd, 1) := by decide +kernel
theorem dX10_scenario_119 : decode cX10_scenario 119 = .ok (.iastore, 1) := by decide +kernel
theorem dX10_scenario_120 : decode cX10_scenario 120 = .ok (.aload_n 0, 1) := by decide +kernel
theorem dX10_scenario_121 : decode cX10_scenario 121 = .ok (.getfield 100, 3) := by decide +kernel
theorem dX10_scenario_124 : decode cX10_scenario 124 = .ok (.iload_n 1, 1) := by decide +kernel
theorem dX10_scenario_125 : decode cX10_scenario 125 = .ok (.iaload, 1) := by decide +kernel
theorem dX10_scenario_126 : decode cX10_scenario 126 = .ok (.ireturn, 1) := by decide +kernel
theorem dX10_above_0 : decode cX10_above 0 = .ok (.iload_n 2, 1) := by decide +kernel
theorem dX10_above_1 : decode cX10_above 1 = .ok (.aload_n 0, 1) := by decide +kernel
theorem dX10_above_2 : decode cX10_above 2 = .ok (.getfield 28, 3) := by decide +kernel
theorem dX10_above_5 : decode cX10_above 5 = .ok (.iload_n 1, 1) := by decide +kernel
theorem dX10_above_6 : decode cX10_above 6 = .ok (.iaload, 1) := by decide +kernel
theorem dX10_above_7 : decode cX10_above 7 = .ok (.if_icmp .le 14, 3) := by decide +kernel
theorem dX10_above_10 : decode cX10_above 10 = .ok (.iload_n 2, 1) := by decide +kernel
theorem dX10_above_11 : decode cX10_above 11 = .ok (.aload_n 0, 1) := by decide +kernel
theorem dX10_above_12 : decode cX10_above 12 = .ok (.getfield 28, 3) := by decide +kernel
theorem dX10_above_15 : decode cX10_above 15 = .ok (.iload_n 1, 1) := by decide +kernel
theorem dX10_above_16 : decode cX10_above 16 = .ok (.iaload, 1) := by decide +kernel
theorem dX10_above_17 : decode cX10_above 17 = .ok (.isub, 1) := by decide +kernel
theorem dX10_above_18 : decode cX10_above 18 = .ok (.goto 4, 3) := by decide +kernel
theorem dX10_above_21 : decode cX10_above 21 = .ok (.iconst 0, 1) := by decide +kernel
theorem dX10_above_22 : decode cX10_above 22 = .ok (.istore_n 3, 1) := by decide +kernel
theorem dX10_above_23 : decode cX10_above 23 = .ok (.iload_n 3, 1) := by decide +kernel
theorem dX10_above_24 : decode cX10_above 24 = .ok (.aload_n 0, 1) := by decide +kernel
theorem dX10_above_25 : decode cX10_above 25 = .ok (.getfield 31, 3) := by decide +kernel
theorem dX10_above_28 : decode cX10_above 28 = .ok (.iload_n 1, 1) := by decide +kernel
theorem dX10_above_29 : decode cX10_above 29 = .ok (.iaload, 1) := by decide +kernel
theorem dX10_above_30 : decode cX10_above 30 = .ok (.if_icmp .le 12, 3) := by decide +kernel
theorem dX10_above_33 : decode cX10_above 33 = .ok (.aload_n 0, 1) := by decide +kernel
theorem dX10_above_34 : decode cX10_above 34 = .ok (.getfield 31, 3) := by decide +kernel
theorem dX10_above_37 : decode cX10_above 37 = .ok (.iload_n 1, 1) := by decide +kernel
theorem dX10_above_38 : decode cX10_above 38 = .ok (.iaload, 1) := by decide +kernel
theorem dX10_above_39 : decode cX10_above 39 = .ok (.goto 4, 3) := by decide +kernel
theorem dX10_above_42 : decode cX10_above 42 = .ok (.iload_n 3, 1) := by decide +kernel
theorem dX10_above_43 : decode cX10_above 43 = .ok (.ireturn, 1) := by decide +kernel
theorem dX10_pays_0 : decode cX10_pays 0 = .ok (.aload_n 0, 1) := by decide +kernel
theorem dX10_pays_1 : decode cX10_pays 1 = .ok (.getfield 34, 3) := by decide +kernel
theorem dX10_pays_4 : decode cX10_pays 4 = .ok (.iload_n 1, 1) := by decide +kernel
theorem dX10_pays_5 : decode cX10_pays 5 = .ok (.iaload, 1) := by decide +kernel
theorem dX10_pays_6 : decode cX10_pays 6 = .ok (.i2l, 1) := by decide +kernel
theorem dX10_pays_7 : decode cX10_pays 7 = .ok (.iload_n 2, 1) := by decide +kernel
theorem dX10_pays_8 : decode cX10_pays 8 = .ok (.i2l, 1) := by decide +kernel
theorem dX10_pays_9 : decode cX10_pays 9 = .ok (.lmul, 1) := by decide +kernel
theorem dX10_pays_10 : decode cX10_pays 10 = .ok (.ldc2_w 173, 3) := by decide +kernel
theorem dX10_pays_13 : decode cX10_pays 13 = .ok (.ldiv, 1) := by decide +kernel
theorem dX10_pays_14 : decode cX10_pays 14 = .ok (.l2i, 1) := by decide +kernel
theorem dX10_pays_15 : decode cX10_pays 15 = .ok (.ireturn, 1) := by decide +kernel
theorem dX10_findPlaces_0 : decode cX10_findPlaces 0 = .ok (.iconst 0, 1) := by decide +kernel
theorem dX10_findPlaces_1 : decode cX10_findPlaces 1 = .ok (.istore_n 1, 1) := by decide +kernel
theorem dX10_findPlaces_2 : decode cX10_findPlaces 2 = .ok (.iload_n 1, 1) := by decide +kernel
theorem dX10_findPlaces_3 : decode cX10_findPlaces 3 = .ok (.aload_n 0, 1) := by decide +kernel
theorem dX10_findPlaces_4 : decode cX10_findPlaces 4 = .ok (.getfield 163, 3) := by decide +kernel
theorem dX10_findPlaces_7 : decode cX10_findPlaces 7 = .ok (.if_icmp .ge 91, 3) := by decide +kernel
theorem dX10_findPlaces_10 : decode cX10_findPlaces 10 = .ok (.aload_n 0, 1) := by decide +kernel
theorem dX10_findPlaces_11 : decode cX10_findPlaces 11 = .ok (.getfield 109, 3) := by decide +kernel
theorem dX10_findPlaces_14 : decode cX10_findPlaces 14 = .ok (.iload_n 1, 1) := by decide +kernel
theorem dX10_findPlaces_15 : decode cX10_findPlaces 15 = .ok (.iconst 0, 1) := by decide +kernel
theorem dX10_findPlaces_16 : decode cX10_findPlaces 16 = .ok (.iastore, 1) := by decide +kernel
theorem dX10_findPlaces_17 : decode cX10_findPlaces 17 = .ok (.iconst 0, 1) := by decide +kernel
theorem dX10_findPlaces_18 : decode cX10_findPlaces 18 = .ok (.istore_n 2, 1) := by decide +kernel
theorem dX10_findPlaces_19 : decode cX10_findPlaces 19 = .ok (.iload_n 2, 1) := by decide +kernel
theorem dX10_findPlaces_20 : decode cX10_findPlaces 20 = .ok (.aload_n 0, 1) := by decide +kernel
theorem dX10_findPlaces_21 : decode cX10_findPlaces 21 = .ok (.getfield 163, 3) := by decide +kernel
theorem dX10_findPlaces_24 : decode cX10_findPlaces 24 = .ok (.if_icmp .ge 68, 3) := by decide +kernel
theorem dX10_findPlaces_27 : decode cX10_findPlaces 27 = .ok (.aload_n 0, 1) := by decide +kernel
theorem dX10_findPlaces_28 : decode cX10_findPlaces 28 = .ok (.getfield 109, 3) := by decide +kernel
theorem dX10_findPlaces_31 : decode cX10_findPlaces 31 = .ok (.iload_n 1, 1) := by decide +kernel
theorem dX10_findPlaces_32 : decode cX10_findPlaces 32 = .ok (.dup2, 1) := by decide +kernel
theorem dX10_findPlaces_33 : decode cX10_findPlaces 33 = .ok (.iaload, 1) := by decide +kernel
theorem dX10_findPlaces_34 : decode cX10_findPlaces 34 = .ok (.aload_n 0, 1) := by decide +kernel
theorem dX10_findPlaces_35 : decode cX10_findPlaces 35 = .ok (.getfield 22, 3) := by decide +kernel
theorem dX10_findPlaces_38 : decode cX10_findPlaces 38 = .ok (.iload_n 2, 1) := by decide +kernel
theorem dX10_findPlaces_39 : decode cX10_findPlaces 39 = .ok (.iaload, 1) := by decide +kernel
theorem dX10_findPlaces_40 : decode cX10_findPlaces 40 = .ok (.aload_n 0, 1) := by decide +kernel
theorem dX10_findPlaces_41 : decode cX10_findPlaces 41 = .ok (.getfield 22, 3) := by decide +kernel
theorem dX10_findPlaces_44 : decode cX10_findPlaces 44 = .ok (.iload_n 1, 1) := by decide +kernel
theorem dX10_findPlaces_45 : decode cX10_findPlaces 45 = .ok (.iaload, 1) := by decide +kernel
theorem dX10_findPlaces_46 : decode cX10_findPlaces 46 = .ok (.if_icmp .lt 33, 3) := by decide +kernel
theorem dX10_findPlaces_49 : decode cX10_findPlaces 49 = .ok (.aload_n 0, 1) := by decide +kernel
theorem dX10_findPlaces_50 : decode cX10_findPlaces 50 = .ok (.getfield 22, 3) := by decide +kernel
theorem dX10_findPlaces_53 : decode cX10_findPlaces 53 = .ok (.iload_n 2, 1) := by decide +kernel
theorem dX10_findPlaces_54 : decode cX10_findPlaces 54 = .ok (.iaload, 1) := by decide +kernel
theorem dX10_findPlaces_55 : decode cX10_findPlaces 55 = .ok (.aload_n 0, 1) := by decide +kernel
theorem dX10_findPlaces_56 : decode cX10_findPlaces 56 = .ok (.getfield 22, 3) := by decide +kernel
theorem dX10_findPlaces_59 : decode cX10_findPlaces 59 = .ok (.iload_n 1, 1) := by decide +kernel
theorem dX10_findPlaces_60 : decode cX10_findPlaces 60 = .ok (.iaload, 1) := by decide +kernel
theorem dX10_findPlaces_61 : decode cX10_findPlaces 61 = .ok (.if_icmp .ne 22, 3) := by decide +kernel
theorem dX10_findPlaces_64 : decode cX10_findPlaces 64 = .ok (.aload_n 0, 1) := by decide +kernel
theorem dX10_findPlaces_65 : decode cX10_findPlaces 65 = .ok (.getfield 19, 3) := by decide +kernel
theorem dX10_findPlaces_68 : decode cX10_findPlaces 68 = .ok (.iload_n 2, 1) := by decide +kernel
theorem dX10_findPlaces_69 : decode cX10_findPlaces 69 = .ok (.iaload, 1) := by decide +kernel
theorem dX10_findPlaces_70 : decode cX10_findPlaces 70 = .ok (.aload_n 0, 1) := by decide +kernel
theorem dX10_findPlaces_71 : decode cX10_findPlaces 71 = .ok (.getfield 19, 3) := by decide +kernel
theorem dX10_findPlaces_74 : decode cX10_findPlaces 74 = .ok (.iload_n 1, 1) := by decide +kernel
theorem dX10_findPlaces_75 : decode cX10_findPlaces 75 = .ok (.iaload, 1) := by decide +kernel
theorem dX10_findPlaces_76 : decode cX10_findPlaces 76 = .ok (.if_icmp .ge 7, 3) := by decide +kernel
theorem dX10_findPlaces_79 : decode cX10_findPlaces 79 = .ok (.iconst 1, 1) := by decide +kernel
theorem dX10_findPlaces_80 : decode cX10_findPlaces 80 = .ok (.goto 4, 3) := by decide +kernel
theorem dX10_findPlaces_83 : decode cX10_findPlaces 83 = .ok (.iconst 0, 1) := by decide +kernel
theorem dX10_findPlaces_84 : decode cX10_findPlaces 84 = .ok (.iadd, 1) := by decide +kernel
theorem dX10_findPlaces_85 : decode cX10_findPlaces 85 = .ok (.iastore, 1) := by decide +kernel
theorem dX10_findPlaces_86 : decode cX10_findPlaces 86 = .ok (.iinc 2 1, 3) := by decide +kernel
theorem dX10_findPlaces_89 : decode cX10_findPlaces 89 = .ok (.goto (-70), 3) := by decide +kernel
theorem dX10_findPlaces_92 : decode cX10_findPlaces 92 = .ok (.iinc 1 1, 3) := by decide +kernel
theorem dX10_findPlaces_95 : decode cX10_findPlaces 95 = .ok (.goto (-93), 3) := by decide +kernel
theorem dX10_findPlaces_98 : decode cX10_findPlaces 98 = .ok (.return_, 1) := by decide +kernel
theorem dX10_settleOne_0 : decode cX10_settleOne 0 = .ok (.aload_n 0, 1) := by decide +kernel
theorem dX10_settleOne_1 : decode cX10_settleOne 1 = .ok (.iload_n 1, 1) := by decide +kernel
theorem dX10_settleOne_2 : decode cX10_settleOne 2 = .ok (.invokevirtual 213, 3) := by decide +kernel
theorem dX10_settleOne_5 : decode cX10_settleOne 5 = .ok (.aload_n 0, 1) := by decide +kernel
theorem dX10_settleOne_6 : decode cX10_settleOne 6 = .ok (.aload_n 0, 1) := by decide +kernel
theorem dX10_settleOne_7 : decode cX10_settleOne 7 = .ok (.iload_n 1, 1) := by decide +kernel
theorem dX10_settleOne_8 : decode cX10_settleOne 8 = .ok (.invokevirtual 213, 3) := by decide +kernel
theorem dX10_settleOne_11 : decode cX10_settleOne 11 = .ok (.invokevirtual 216, 3) := by decide +kernel
theorem dX10_settleOne_14 : decode cX10_settleOne 14 = .ok (.isub, 1) := by decide +kernel
theorem dX10_settleOne_15 : decode cX10_settleOne 15 = .ok (.istore_n 3, 1) := by decide +kernel
theorem dX10_settleOne_16 : decode cX10_settleOne 16 = .ok (.iconst 0, 1) := by decide +kernel
theorem dX10_settleOne_17 : decode cX10_settleOne 17 = .ok (.istore 4, 2) := by decide +kernel
theorem dX10_settleOne_19 : decode cX10_settleOne 19 = .ok (.iload 4, 2) := by decide +kernel
theorem dX10_settleOne_21 : decode cX10_settleOne 21 = .ok (.aload_n 0, 1) := by decide +kernel
theorem dX10_settleOne_22 : decode cX10_settleOne 22 = .ok (.getfield 176, 3) := by decide +kernel
theorem dX10_settleOne_25 : decode cX10_settleOne 25 = .ok (.if_icmp .ge 211, 3) := by decide +kernel
theorem dX10_settleOne_28 : decode cX10_settleOne 28 = .ok (.aload_n 0, 1) := by decide +kernel
theorem dX10_settleOne_29 : decode cX10_settleOne 29 = .ok (.getfield 31, 3) := by decide +kernel
theorem dX10_settleOne_32 : decode cX10_settleOne 32 = .ok (.iload 4, 2) := by decide +kernel
theorem dX10_settleOne_34 : decode cX10_settleOne 34 = .ok (.iaload, 1) := by decide +kernel
theorem dX10_settleOne_35 : decode cX10_settleOne 35 = .ok (.iconst 1, 1) := by decide +kernel
theorem dX10_settleOne_36 : decode cX10_settleOne 36 = .ok (.aload_n 0, 1) := by decide +kernel
theorem dX10_settleOne_37 : decode cX10_settleOne 37 = .ok (.getfield 37, 3) := by decide +kernel
theorem dX10_settleOne_40 : decode cX10_settleOne 40 = .ok (.iload 4, 2) := by decide +kernel
theorem dX10_settleOne_42 : decode cX10_settleOne 42 = .ok (.iaload, 1) := by decide +kernel
theorem dX10_settleOne_43 : decode cX10_settleOne 43 = .ok (.iadd, 1) := by decide +kernel
theorem dX10_settleOne_44 : decode cX10_settleOne 44 = .ok (.imul, 1) := by decide +kernel
theorem dX10_settleOne_45 : decode cX10_settleOne 45 = .ok (.istore 5, 2) := by decide +kernel
theorem dX10_settleOne_47 : decode cX10_settleOne 47 = .ok (.aload_n 0, 1) := by decide +kernel
theorem dX10_settleOne_48 : decode cX10_settleOne 48 = .ok (.getfield 31, 3) := by decide +kernel
theorem dX10_settleOne_51 : decode cX10_settleOne 51 = .ok (.iload 4, 2) := by decide +kernel
theorem dX10_settleOne_53 : decode cX10_settleOne 53 = .ok (.iaload, 1) := by decide +kernel
theorem dX10_settleOne_54 : decode cX10_settleOne 54 = .ok (.aload_n 0, 1) := by decide +kernel
theorem dX10_settleOne_55 : decode cX10_settleOne 55 = .ok (.getfield 37, 3) := by decide +kernel
theorem dX10_settleOne_58 : decode cX10_settleOne 58 = .ok (.iload 4, 2) := by decide +kernel
theorem dX10_settleOne_60 : decode cX10_settleOne 60 = .ok (.iaload, 1) := by decide +kernel
theorem dX10_settleOne_61 : decode cX10_settleOne 61 = .ok (.imul, 1) := by decide +kernel
theorem dX10_settleOne_62 : decode cX10_settleOne 62 = .ok (.istore 6, 2) := by decide +kernel
theorem dX10_settleOne_64 : decode cX10_settleOne 64 = .ok (.iconst 0, 1) := by decide +kernel
theorem dX10_settleOne_65 : decode cX10_settleOne 65 = .ok (.istore 7, 2) := by decide +kernel
theorem dX10_settleOne_67 : decode cX10_settleOne 67 = .ok (.iload 7, 2) := by decide +kernel
theorem dX10_settleOne_69 : decode cX10_settleOne 69 = .ok (.aload_n 0, 1) := by decide +kernel
theorem dX10_settleOne_70 : decode cX10_settleOne 70 = .ok (.getfield 163, 3) := by decide +kernel
theorem dX10_settleOne_73 : decode cX10_settleOne 73 = .ok (.if_icmp .ge 75, 3) := by decide +kernel
theorem dX10_settleOne_76 : decode cX10_settleOne 76 = .ok (.iload 5, 2) := by decide +kernel
theorem dX10_settleOne_78 : decode cX10_settleOne 78 = .ok (.aload_n 0, 1) := by decide +kernel
theorem dX10_settleOne_79 : decode cX10_settleOne 79 = .ok (.getfield 109, 3) := by decide +kernel
theorem dX10_settleOne_82 : decode cX10_settleOne 82 = .ok (.iload 7, 2) := by decide +kernel
theorem dX10_settleOne_84 : decode cX10_settleOne 84 = .ok (.iaload, 1) := by decide +kernel
theorem dX10_settleOne_85 : decode cX10_settleOne 85 = .ok (.iload_n 2, 1) := by decide +kernel
theorem dX10_settleOne_86 : decode cX10_settleOne 86 = .ok (.if_icmp .ge 19, 3) := by decide +kernel
theorem dX10_settleOne_89 : decode cX10_settleOne 89 = .ok (.aload_n 0, 1) := by decide +kernel
theorem dX10_settleOne_90 : decode cX10_settleOne 90 = .ok (.getfield 112, 3) := by decide +kernel
theorem dX10_settleOne_93 : decode cX10_settleOne 93 = .ok (.bipush 8, 2) := by decide +kernel
theorem dX10_settleOne_95 : decode cX10_settleOne 95 = .ok (.iload 4, 2) := by decide +kernel
theorem dX10_settleOne_97 : decode cX10_settleOne 97 = .ok (.imul, 1) := by decide +kernel
theorem dX10_settleOne_98 : decode cX10_settleOne 98 = .ok (.iload 7, 2) := by decide +kernel
theorem dX10_settleOne_100 : decode cX10_settleOne 100 = .ok (.iadd, 1) := by decide +kernel
theorem dX10_settleOne_101 : decode cX10_settleOne 101 = .ok (.iaload, 1) := by decide +kernel
theorem dX10_settleOne_102 : decode cX10_settleOne 102 = .ok (.goto 4, 3) := by decide +kernel
theorem dX10_settleOne_105 : decode cX10_settleOne 105 = .ok (.iconst 0, 1) := by decide +kernel
theorem dX10_settleOne_106 : decode cX10_settleOne 106 = .ok (.isub, 1) := by decide +kernel
theorem dX10_settleOne_107 : decode cX10_settleOne 107 = .ok (.istore 5, 2) := by decide +kernel
theorem dX10_settleOne_109 : decode cX10_settleOne 109 = .ok (.iload 6, 2) := by decide +kernel
theorem dX10_settleOne_111 : decode cX10_settleOne 111 = .ok (.aload_n 0, 1) := by decide +kernel
theorem dX10_settleOne_112 : decode cX10_settleOne 112 = .ok (.getfield 109, 3) := by decide +kernel
theorem dX10_settleOne_115 : decode cX10_settleOne 115 = .ok (.iload 7, 2) := by decide +kernel
theorem dX10_settleOne_117 : decode cX10_settleOne 117 = .ok (.iaload, 1) := by decide +kernel
theorem dX10_settleOne_118 : decode cX10_settleOne 118 = .ok (.iload_n 2, 1) := by decide +kernel
theorem dX10_settleOne_119 : decode cX10_settleOne 119 = .ok (.if_icmp .ge 19, 3) := by decide +kernel
theorem dX10_settleOne_122 : decode cX10_settleOne 122 = .ok (.aload_n 0, 1) := by decide +kernel
theorem dX10_settleOne_123 : decode cX10_settleOne 123 = .ok (.getfield 115, 3) := by decide +kernel
theorem dX10_settleOne_126 : decode cX10_settleOne 126 = .ok (.bipush 8, 2) := by decide +kernel
theorem dX10_settleOne_128 : decode cX10_settleOne 128 = .ok (.iload 4, 2) := by decide +kernel
theorem dX10_settleOne_130 : decode cX10_settleOne 130 = .ok (.imul, 1) := by decide +kernel
theorem dX10_settleOne_131 : decode cX10_settleOne 131 = .ok (.iload 7, 2) := by decide +kernel
theorem dX10_settleOne_133 : decode cX10_settleOne 133 = .ok (.iadd, 1) := by decide +kernel
theorem dX10_settleOne_134 : decode cX10_settleOne 134 = .ok (.iaload, 1) := by decide +kernel
theorem dX10_settleOne_135 : decode cX10_settleOne 135 = .ok (.goto 4, 3) := by decide +kernel
theorem dX10_settleOne_138 : decode cX10_settleOne 138 = .ok (.iconst 0, 1) := by decide +kernel
theorem dX10_settleOne_139 : decode cX10_settleOne 139 = .ok (.isub, 1) := by decide +kernel
theorem dX10_settleOne_140 : decode cX10_settleOne 140 = .ok (.istore 6, 2) := by decide +kernel
theorem dX10_settleOne_142 : decode cX10_settleOne 142 = .ok (.iinc 7 1, 3) := by decide +kernel
theorem dX10_settleOne_145 : decode cX10_settleOne 145 = .ok (.goto (-78), 3) := by decide +kernel
theorem dX10_settleOne_148 : decode cX10_settleOne 148 = .ok (.aload_n 0, 1) := by decide +kernel
theorem dX10_settleOne_149 : decode cX10_settleOne 149 = .ok (.iload 4, 2) := by decide +kernel
theorem dX10_settleOne_151 : decode cX10_settleOne 151 = .ok (.iload_n 3, 1) := by decide +kernel
theorem dX10_settleOne_152 : decode cX10_settleOne 152 = .ok (.invokevirtual 219, 3) := by decide +kernel
theorem dX10_settleOne_155 : decode cX10_settleOne 155 = .ok (.istore 7, 2) := by decide +kernel
theorem dX10_settleOne_157 : decode cX10_settleOne 157 = .ok (.iload 7, 2) := by decide +kernel
theorem dX10_settleOne_159 : decode cX10_settleOne 159 = .ok (.iload 5, 2) := by decide +kernel
theorem dX10_settleOne_161 : decode cX10_settleOne 161 = .ok (.if_icmp .le 8, 3) := by decide +kernel
theorem dX10_settleOne_164 : decode cX10_settleOne 164 = .ok (.iload 5, 2) := by decide +kernel
theorem dX10_settleOne_166 : decode cX10_settleOne 166 = .ok (.goto 5, 3) := by decide +kernel
theorem dX10_settleOne_169 : decode cX10_settleOne 169 = .ok (.iload 7, 2) := by decide +kernel
theorem dX10_settleOne_171 : decode cX10_settleOne 171 = .ok (.istore 7, 2) := by decide +kernel
theorem dX10_settleOne_173 : decode cX10_settleOne 173 = .ok (.aload_n 0, 1) := by decide +kernel
theorem dX10_settleOne_174 : decode cX10_settleOne 174 = .ok (.getfield 112, 3) := by decide +kernel
theorem dX10_settleOne_177 : decode cX10_settleOne 177 = .ok (.bipush 8, 2) := by decide +kernel
theorem dX10_settleOne_179 : decode cX10_settleOne 179 = .ok (.iload 4, 2) := by decide +kernel
theorem dX10_settleOne_181 : decode cX10_settleOne 181 = .ok (.imul, 1) := by decide +kernel
theorem dX10_settleOne_182 : decode cX10_settleOne 182 = .ok (.iload_n 1, 1) := by decide +kernel
theorem dX10_settleOne_183 : decode cX10_settleOne 183 = .ok (.iadd, 1) := by decide +kernel
theorem dX10_settleOne_184 : decode cX10_settleOne 184 = .ok (.iload 7, 2) := by decide +kernel
theorem dX10_settleOne_186 : decode cX10_settleOne 186 = .ok (.iastore, 1) := by decide +kernel
theorem dX10_settleOne_187 : decode cX10_settleOne 187 = .ok (.aload_n 0, 1) := by decide +kernel
theorem dX10_settleOne_188 : decode cX10_settleOne 188 = .ok (.getfield 118, 3) := by decide +kernel
theorem dX10_settleOne_191 : decode cX10_settleOne 191 = .ok (.bipush 8, 2) := by decide +kernel
theorem dX10_settleOne_193 : decode cX10_settleOne 193 = .ok (.iload 4, 2) := by decide +kernel
theorem dX10_settleOne_195 : decode cX10_settleOne 195 = .ok (.imul, 1) := by decide +kernel
theorem dX10_settleOne_196 : decode cX10_settleOne 196 = .ok (.iload_n 1, 1) := by decide +kernel
theorem dX10_settleOne_197 : decode cX10_settleOne 197 = .ok (.iadd, 1) := by decide +kernel
theorem dX10_settleOne_198 : decode cX10_settleOne 198 = .ok (.iload 5, 2) := by decide +kernel
theorem dX10_settleOne_200 : decode cX10_settleOne 200 = .ok (.iload 7, 2) := by decide +kernel
theorem dX10_settleOne_202 : decode cX10_settleOne 202 = .ok (.isub, 1) := by decide +kernel
theorem dX10_settleOne_203 : decode cX10_settleOne 203 = .ok (.iastore, 1) := by decide +kernel
theorem dX10_settleOne_204 : decode cX10_settleOne 204 = .ok (.aload_n 0, 1) := by decide +kernel
theorem dX10_settleOne_205 : decode cX10_settleOne 205 = .ok (.getfield 115, 3) := by decide +kernel
theorem dX10_settleOne_208 : decode cX10_settleOne 208 = .ok (.bipush 8, 2) := by decide +kernel
theorem dX10_settleOne_210 : decode cX10_settleOne 210 = .ok (.iload 4, 2) := by decide +kernel
theorem dX10_settleOne_212 : decode cX10_settleOne 212 = .ok (.imul, 1) := by decide +kernel
theorem dX10_settleOne_213 : decode cX10_settleOne 213 = .ok (.iload_n 1, 1) := by decide +kernel
theorem dX10_settleOne_214 : decode cX10_settleOne 214 = .ok (.iadd, 1) := by decide +kernel
theorem dX10_settleOne_215 : decode cX10_settleOne 215 = .ok (.iload 7, 2) := by decide +kernel
theorem dX10_settleOne_217 : decode cX10_settleOne 217 = .ok (.iload 6, 2) := by decide +kernel
theorem dX10_settleOne_219 : decode cX10_settleOne 219 = .ok (.if_icmp .le 8, 3) := by decide +kernel
theorem dX10_settleOne_222 : decode cX10_settleOne 222 = .ok (.iload 6, 2) := by decide +kernel
theorem dX10_settleOne_224 : decode cX10_settleOne 224 = .ok (.goto 5, 3) := by decide +kernel
theorem dX10_settleOne_227 : decode cX10_settleOne 227 = .ok (.iload 7, 2) := by decide +kernel
theorem dX10_settleOne_229 : decode cX10_settleOne 229 = .ok (.iastore, 1) := by decide +kernel
theorem dX10_settleOne_230 : decode cX10_settleOne 230 = .ok (.iinc 4 1, 3) := by decide +kernel
theorem dX10_settleOne_233 : decode cX10_settleOne 233 = .ok (.goto (-214), 3) := by decide +kernel
theorem dX10_settleOne_236 : decode cX10_settleOne 236 = .ok (.return_, 1) := by decide +kernel
theorem dX10_settle_0 : decode cX10_settle 0 = .ok (.aload_n 0, 1) := by decide +kernel
theorem dX10_settle_1 : decode cX10_settle 1 = .ok (.invokevirtual 223, 3) := by decide +kernel
theorem dX10_settle_4 : decode cX10_settle 4 = .ok (.iconst 0, 1) := by decide +kernel
theorem dX10_settle_5 : decode cX10_settle 5 = .ok (.istore_n 1, 1) := by decide +kernel
theorem dX10_settle_6 : decode cX10_settle 6 = .ok (.iload_n 1, 1) := by decide +kernel
theorem dX10_settle_7 : decode cX10_settle 7 = .ok (.aload_n 0, 1) := by decide +kernel
theorem dX10_settle_8 : decode cX10_settle 8 = .ok (.getfield 163, 3) := by decide +kernel
theorem dX10_settle_11 : decode cX10_settle 11 = .ok (.if_icmp .ge 41, 3) := by decide +kernel
theorem dX10_settle_14 : decode cX10_settle 14 = .ok (.iconst 0, 1) := by decide +kernel
theorem dX10_settle_15 : decode cX10_settle 15 = .ok (.istore_n 2, 1) := by decide +kernel
theorem dX10_settle_16 : decode cX10_settle 16 = .ok (.iload_n 2, 1) := by decide +kernel
theorem dX10_settle_17 : decode cX10_settle 17 = .ok (.aload_n 0, 1) := by decide +kernel
theorem dX10_settle_18 : decode cX10_settle 18 = .ok (.getfield 163, 3) := by decide +kernel
theorem dX10_settle_21 : decode cX10_settle 21 = .ok (.if_icmp .ge 25, 3) := by decide +kernel
theorem dX10_settle_24 : decode cX10_settle 24 = .ok (.aload_n 0, 1) := by decide +kernel
theorem dX10_settle_25 : decode cX10_settle 25 = .ok (.getfield 109, 3) := by decide +kernel
theorem dX10_settle_28 : decode cX10_settle 28 = .ok (.iload_n 2, 1) := by decide +kernel
theorem dX10_settle_29 : decode cX10_settle 29 = .ok (.iaload, 1) := by decide +kernel
theorem dX10_settle_30 : decode cX10_settle 30 = .ok (.iload_n 1, 1) := by decide +kernel
theorem dX10_settle_31 : decode cX10_settle 31 = .ok (.if_icmp .ne 9, 3) := by decide +kernel
theorem dX10_settle_34 : decode cX10_settle 34 = .ok (.aload_n 0, 1) := by decide +kernel
theorem dX10_settle_35 : decode cX10_settle 35 = .ok (.iload_n 2, 1) := by decide +kernel
theorem dX10_settle_36 : decode cX10_settle 36 = .ok (.iload_n 1, 1) := by decide +kernel
theorem dX10_settle_37 : decode cX10_settle 37 = .ok (.invokevirtual 226, 3) := by decide +kernel
theorem dX10_settle_40 : decode cX10_settle 40 = .ok (.iinc 2 1, 3) := by decide +kernel
theorem dX10_settle_43 : decode cX10_settle 43 = .ok (.goto (-27), 3) := by decide +kernel
theorem dX10_settle_46 : decode cX10_settle 46 = .ok (.iinc 1 1, 3) := by decide +kernel
theorem dX10_settle_49 : decode cX10_settle 49 = .ok (.goto (-43), 3) := by decide +kernel
theorem dX10_settle_52 : decode cX10_settle 52 = .ok (.return_, 1) := by decide +kernel
theorem dX10_dueBack_0 : decode cX10_dueBack 0 = .ok (.aload_n 0, 1) := by decide +kernel
theorem dX10_dueBack_1 : decode cX10_dueBack 1 = .ok (.getfield 40, 3) := by decide +kernel
theorem dX10_dueBack_4 : decode cX10_dueBack 4 = .ok (.iload_n 1, 1) := by decide +kernel
theorem dX10_dueBack_5 : decode cX10_dueBack 5 = .ok (.iaload, 1) := by decide +kernel
theorem dX10_dueBack_6 : decode cX10_dueBack 6 = .ok (.i2l, 1) := by decide +kernel
theorem dX10_dueBack_7 : decode cX10_dueBack 7 = .ok (.aload_n 0, 1) := by decide +kernel
theorem dX10_dueBack_8 : decode cX10_dueBack 8 = .ok (.getfield 115, 3) := by decide +kernel
theorem dX10_dueBack_11 : decode cX10_dueBack 11 = .ok (.bipush 8, 2) := by decide +kernel
theorem dX10_dueBack_13 : decode cX10_dueBack 13 = .ok (.iload_n 1, 1) := by decide +kernel
theorem dX10_dueBack_14 : decode cX10_dueBack 14 = .ok (.imul, 1) := by decide +kernel
theorem dX10_dueBack_15 : decode cX10_dueBack 15 = .ok (.iload_n 2, 1) := by decide +kernel
theorem dX10_dueBack_16 : decode cX10_dueBack 16 = .ok (.iadd, 1) := by decide +kernel
theorem dX10_dueBack_17 : decode cX10_dueBack 17 = .ok (.iaload, 1) := by decide +kernel
theorem dX10_dueBack_18 : decode cX10_dueBack 18 = .ok (.i2l, 1) := by decide +kernel
theorem dX10_dueBack_19 : decode cX10_dueBack 19 = .ok (.lmul, 1) := by decide +kernel
theorem dX10_dueBack_20 : decode cX10_dueBack 20 = .ok (.aload_n 0, 1) := by decide +kernel
theorem dX10_dueBack_21 : decode cX10_dueBack 21 = .ok (.getfield 43, 3) := by decide +kernel
theorem dX10_dueBack_24 : decode cX10_dueBack 24 = .ok (.iload_n 1, 1) := by decide +kernel
theorem dX10_dueBack_25 : decode cX10_dueBack 25 = .ok (.iaload, 1) := by decide +kernel
theorem dX10_dueBack_26 : decode cX10_dueBack 26 = .ok (.i2l, 1) := by decide +kernel
theorem dX10_dueBack_27 : decode cX10_dueBack 27 = .ok (.lmul, 1) := by decide +kernel
theorem dX10_dueBack_28 : decode cX10_dueBack 28 = .ok (.ldc2_w 173, 3) := by decide +kernel
theorem dX10_dueBack_31 : decode cX10_dueBack 31 = .ok (.aload_n 0, 1) := by decide +kernel
theorem dX10_dueBack_32 : decode cX10_dueBack 32 = .ok (.getfield 31, 3) := by decide +kernel
theorem dX10_dueBack_35 : decode cX10_dueBack 35 = .ok (.iload_n 1, 1) := by decide +kernel
theorem dX10_dueBack_36 : decode cX10_dueBack 36 = .ok (.iaload, 1) := by decide +kernel
theorem dX10_dueBack_37 : decode cX10_dueBack 37 = .ok (.i2l, 1) := by decide +kernel
theorem dX10_dueBack_38 : decode cX10_dueBack 38 = .ok (.lmul, 1) := by decide +kernel
theorem dX10_dueBack_39 : decode cX10_dueBack 39 = .ok (.ldiv, 1) := by decide +kernel
theorem dX10_dueBack_40 : decode cX10_dueBack 40 = .ok (.l2i, 1) := by decide +kernel
theorem dX10_dueBack_41 : decode cX10_dueBack 41 = .ok (.ireturn, 1) := by decide +kernel
theorem dX10_isChosen_0 : decode cX10_isChosen 0 = .ok (.iload_n 1, 1) := by decide +kernel
theorem dX10_isChosen_1 : decode cX10_isChosen 1 = .ok (.iconst 0, 1) := by decide +kernel
theorem dX10_isChosen_2 : decode cX10_isChosen 2 = .ok (.aload_n 0, 1) := by decide +kernel
theorem dX10_isChosen_3 : decode cX10_isChosen 3 = .ok (.getfield 163, 3) := by decide +kernel
theorem dX10_isChosen_6 : decode cX10_isChosen 6 = .ok (.iconst 1, 1) := by decide +kernel
theorem dX10_isChosen_7 : decode cX10_isChosen 7 = .ok (.isub, 1) := by decide +kernel
theorem dX10_isChosen_8 : decode cX10_isChosen 8 = .ok (.invokestatic 141, 3) := by decide +kernel
theorem dX10_isChosen_11 : decode cX10_isChosen 11 = .ok (.ireturn, 1) := by decide +kernel
theorem dX10_occurrence_0 : decode cX10_occurrence 0 = .ok (.aload_n 0, 1) := by decide +kernel
theorem dX10_occurrence_1 : decode cX10_occurrence 1 = .ok (.iload_n 1, 1) := by decide +kernel
theorem dX10_occurrence_2 : decode cX10_occurrence 2 = .ok (.invokevirtual 230, 3) := by decide +kernel
theorem dX10_occurrence_5 : decode cX10_occurrence 5 = .ok (.istore_n 3, 1) := by decide +kernel
theorem dX10_occurrence_6 : decode cX10_occurrence 6 = .ok (.aload_n 0, 1) := by decide +kernel
theorem dX10_occurrence_7 : decode cX10_occurrence 7 = .ok (.iload_n 3, 1) := by decide +kernel
theorem dX10_occurrence_8 : decode cX10_occurrence 8 = .ok (.ifCond .ne 7, 3) := by decide +kernel
theorem dX10_occurrence_11 : decode cX10_occurrence 11 = .ok (.iconst 1, 1) := by decide +kernel
theorem dX10_occurrence_12 : decode cX10_occurrence 12 = .ok (.goto 17, 3) := by decide +kernel
theorem dX10_occurrence_15 : decode cX10_occurrence 15 = .ok (.iload_n 2, 1) := by decide +kernel
theorem dX10_occurrence_16 : decode cX10_occurrence 16 = .ok (.iconst 0, 1) := by decide +kernel
theorem dX10_occurrence_17 : decode cX10_occurrence 17 = .ok (.iconst 5, 1) := by decide +kernel
theorem dX10_occurrence_18 : decode cX10_occurrence 18 = .ok (.invokestatic 141, 3) := by decide +kernel
theorem dX10_occurrence_21 : decode cX10_occurrence 21 = .ok (.ifCond .eq 7, 3) := by decide +kernel
theorem dX10_occurrence_24 : decode cX10_occurrence 24 = .ok (.iconst 0, 1) := by decide +kernel
theorem dX10_occurrence_25 : decode cX10_occurrence 25 = .ok (.goto 4, 3) := by decide +kernel
theorem dX10_occurrence_28 : decode cX10_occurrence 28 = .ok (.iconst 2, 1) := by decide +kernel
theorem dX10_occurrence_29 : decode cX10_occurrence 29 = .ok (.invokevirtual 156, 3) := by decide +kernel
theorem dX10_occurrence_32 : decode cX10_occurrence 32 = .ok (.ifCond .ne 5, 3) := by decide +kernel
theorem dX10_occurrence_35 : decode cX10_occurrence 35 = .ok (.iconst 0, 1) := by decide +kernel
theorem dX10_occurrence_36 : decode cX10_occurrence 36 = .ok (.ireturn, 1) := by decide +kernel
theorem dX10_occurrence_37 : decode cX10_occurrence 37 = .ok (.aload_n 0, 1) := by decide +kernel
theorem dX10_occurrence_38 : decode cX10_occurrence 38 = .ok (.invokevirtual 233, 3) := by decide +kernel
theorem dX10_occurrence_41 : decode cX10_occurrence 41 = .ok (.aload_n 0, 1) := by decide +kernel
theorem dX10_occurrence_42 : decode cX10_occurrence 42 = .ok (.iload_n 1, 1) := by decide +kernel
theorem dX10_occurrence_43 : decode cX10_occurrence 43 = .ok (.invokevirtual 213, 3) := by decide +kernel
theorem dX10_occurrence_46 : decode cX10_occurrence 46 = .ok (.istore 4, 2) := by decide +kernel
theorem dX10_occurrence_48 : decode cX10_occurrence 48 = .ok (.iconst 0, 1) := by decide +kernel
theorem dX10_occurrence_49 : decode cX10_occurrence 49 = .ok (.istore 5, 2) := by decide +kernel
theorem dX10_occurrence_51 : decode cX10_occurrence 51 = .ok (.iconst 0, 1) := by decide +kernel
theorem dX10_occurrence_52 : decode cX10_occurrence 52 = .ok (.istore 6, 2) := by decide +kernel
theorem dX10_occurrence_54 : decode cX10_occurrence 54 = .ok (.iconst 0, 1) := by decide +kernel
theorem dX10_occurrence_55 : decode cX10_occurrence 55 = .ok (.istore 7, 2) := by decide +kernel
theorem dX10_occurrence_57 : decode cX10_occurrence 57 = .ok (.iload 7, 2) := by decide +kernel
theorem dX10_occurrence_59 : decode cX10_occurrence 59 = .ok (.aload_n 0, 1) := by decide +kernel
theorem dX10_occurrence_60 : decode cX10_occurrence 60 = .ok (.getfield 176, 3) := by decide +kernel
theorem dX10_occurrence_63 : decode cX10_occurrence 63 = .ok (.if_icmp .ge 44, 3) := by decide +kernel
theorem dX10_occurrence_66 : decode cX10_occurrence 66 = .ok (.iload 5, 2) := by decide +kernel
theorem dX10_occurrence_68 : decode cX10_occurrence 68 = .ok (.aload_n 0, 1) := by decide +kernel
theorem dX10_occurrence_69 : decode cX10_occurrence 69 = .ok (.iload 7, 2) := by decide +kernel
theorem dX10_occurrence_71 : decode cX10_occurrence 71 = .ok (.aload_n 0, 1) := by decide +kernel
theorem dX10_occurrence_72 : decode cX10_occurrence 72 = .ok (.getfield 112, 3) := by decide +kernel
theorem dX10_occurrence_75 : decode cX10_occurrence 75 = .ok (.bipush 8, 2) := by decide +kernel
theorem dX10_occurrence_77 : decode cX10_occurrence 77 = .ok (.iload 7, 2) := by decide +kernel
theorem dX10_occurrence_79 : decode cX10_occurrence 79 = .ok (.imul, 1) := by decide +kernel
theorem dX10_occurrence_80 : decode cX10_occurrence 80 = .ok (.iload_n 1, 1) := by decide +kernel
theorem dX10_occurrence_81 : decode cX10_occurrence 81 = .ok (.iadd, 1) := by decide +kernel
theorem dX10_occurrence_82 : decode cX10_occurrence 82 = .ok (.iaload, 1) := by decide +kernel
theorem dX10_occurrence_83 : decode cX10_occurrence 83 = .ok (.invokevirtual 236, 3) := by decide +kernel
theorem dX10_occurrence_86 : decode cX10_occurrence 86 = .ok (.iadd, 1) := by decide +kernel
theorem dX10_occurrence_87 : decode cX10_occurrence 87 = .ok (.istore 5, 2) := by decide +kernel
theorem dX10_occurrence_89 : decode cX10_occurrence 89 = .ok (.iload 6, 2) := by decide +kernel
theorem dX10_occurrence_91 : decode cX10_occurrence 91 = .ok (.aload_n 0, 1) := by decide +kernel
theorem dX10_occurrence_92 : decode cX10_occurrence 92 = .ok (.iload 7, 2) := by decide +kernel
theorem dX10_occurrence_94 : decode cX10_occurrence 94 = .ok (.iload_n 1, 1) := by decide +kernel
theorem dX10_occurrence_95 : decode cX10_occurrence 95 = .ok (.invokevirtual 239, 3) := by decide +kernel
theorem dX10_occurrence_98 : decode cX10_occurrence 98 = .ok (.iadd, 1) := by decide +kernel
theorem dX10_occurrence_99 : decode cX10_occurrence 99 = .ok (.istore 6, 2) := by decide +kernel
theorem dX10_occurrence_101 : decode cX10_occurrence 101 = .ok (.iinc 7 1, 3) := by decide +kernel
theorem dX10_occurrence_104 : decode cX10_occurrence 104 = .ok (.goto (-47), 3) := by decide +kernel
theorem dX10_occurrence_107 : decode cX10_occurrence 107 = .ok (.iload_n 2, 1) := by decide +kernel
theorem dX10_occurrence_108 : decode cX10_occurrence 108 = .ok (.ifCond .ne 8, 3) := by decide +kernel
theorem dX10_occurrence_111 : decode cX10_occurrence 111 = .ok (.iload 4, 2) := by decide +kernel
theorem dX10_occurrence_113 : decode cX10_occurrence 113 = .ok (.goto 60, 3) := by decide +kernel
theorem dX10_occurrence_116 : decode cX10_occurrence 116 = .ok (.iload_n 2, 1) := by decide +kernel
theorem dX10_occurrence_117 : decode cX10_occurrence 117 = .ok (.iconst 1, 1) := by decide +kernel
theorem dX10_occurrence_118 : decode cX10_occurrence 118 = .ok (.if_icmp .ne 12, 3) := by decide +kernel
theorem dX10_occurrence_121 : decode cX10_occurrence 121 = .ok (.aload_n 0, 1) := by decide +kernel
theorem dX10_occurrence_122 : decode cX10_occurrence 122 = .ok (.iload 4, 2) := by decide +kernel
theorem dX10_occurrence_124 : decode cX10_occurrence 124 = .ok (.invokevirtual 216, 3) := by decide +kernel
theorem dX10_occurrence_127 : decode cX10_occurrence 127 = .ok (.goto 46, 3) := by decide +kernel
theorem dX10_occurrence_130 : decode cX10_occurrence 130 = .ok (.iload_n 2, 1) := by decide +kernel
theorem dX10_occurrence_131 : decode cX10_occurrence 131 = .ok (.iconst 2, 1) := by decide +kernel
theorem dX10_occurrence_132 : decode cX10_occurrence 132 = .ok (.if_icmp .ne 15, 3) := by decide +kernel
theorem dX10_occurrence_135 : decode cX10_occurrence 135 = .ok (.iload 4, 2) := by decide +kernel
theorem dX10_occurrence_137 : decode cX10_occurrence 137 = .ok (.aload_n 0, 1) := by decide +kernel
theorem dX10_occurrence_138 : decode cX10_occurrence 138 = .ok (.iload 4, 2) := by decide +kernel
theorem dX10_occurrence_140 : decode cX10_occurrence 140 = .ok (.invokevirtual 216, 3) := by decide +kernel
theorem dX10_occurrence_143 : decode cX10_occurrence 143 = .ok (.isub, 1) := by decide +kernel
theorem dX10_occurrence_144 : decode cX10_occurrence 144 = .ok (.goto 29, 3) := by decide +kernel
theorem dX10_occurrence_147 : decode cX10_occurrence 147 = .ok (.iload_n 2, 1) := by decide +kernel
theorem dX10_occurrence_148 : decode cX10_occurrence 148 = .ok (.iconst 3, 1) := by decide +kernel
theorem dX10_occurrence_149 : decode cX10_occurrence 149 = .ok (.if_icmp .ne 8, 3) := by decide +kernel
theorem dX10_occurrence_152 : decode cX10_occurrence 152 = .ok (.iload 5, 2) := by decide +kernel
theorem dX10_occurrence_154 : decode cX10_occurrence 154 = .ok (.goto 19, 3) := by decide +kernel
theorem dX10_occurrence_157 : decode cX10_occurrence 157 = .ok (.iload_n 2, 1) := by decide +kernel
theorem dX10_occurrence_158 : decode cX10_occurrence 158 = .ok (.iconst 4, 1) := by decide +kernel
theorem dX10_occurrence_159 : decode cX10_occurrence 159 = .ok (.if_icmp .ne 8, 3) := by decide +kernel
theorem dX10_occurrence_162 : decode cX10_occurrence 162 = .ok (.iload 6, 2) := by decide +kernel
theorem dX10_occurrence_164 : decode cX10_occurrence 164 = .ok (.goto 9, 3) := by decide +kernel
theorem dX10_occurrence_167 : decode cX10_occurrence 167 = .ok (.aload_n 0, 1) := by decide +kernel
theorem dX10_occurrence_168 : decode cX10_occurrence 168 = .ok (.getfield 109, 3) := by decide +kernel
theorem dX10_occurrence_171 : decode cX10_occurrence 171 = .ok (.iload_n 1, 1) := by decide +kernel
theorem dX10_occurrence_172 : decode cX10_occurrence 172 = .ok (.iaload, 1) := by decide +kernel
theorem dX10_occurrence_173 : decode cX10_occurrence 173 = .ok (.ireturn, 1) := by decide +kernel
theorem dX10_hit_0 : decode cX10_hit 0 = .ok (.aload_n 0, 1) := by decide +kernel
theorem dX10_hit_1 : decode cX10_hit 1 = .ok (.iload_n 1, 1) := by decide +kernel
theorem dX10_hit_2 : decode cX10_hit 2 = .ok (.invokevirtual 179, 3) := by decide +kernel
theorem dX10_hit_5 : decode cX10_hit 5 = .ok (.ifCond .eq 15, 3) := by decide +kernel
theorem dX10_hit_8 : decode cX10_hit 8 = .ok (.aload_n 0, 1) := by decide +kernel
theorem dX10_hit_9 : decode cX10_hit 9 = .ok (.iload_n 2, 1) := by decide +kernel
theorem dX10_hit_10 : decode cX10_hit 10 = .ok (.invokevirtual 230, 3) := by decide +kernel
theorem dX10_hit_13 : decode cX10_hit 13 = .ok (.ifCond .eq 7, 3) := by decide +kernel
theorem dX10_hit_16 : decode cX10_hit 16 = .ok (.iconst 1, 1) := by decide +kernel
theorem dX10_hit_17 : decode cX10_hit 17 = .ok (.goto 4, 3) := by decide +kernel
theorem dX10_hit_20 : decode cX10_hit 20 = .ok (.iconst 0, 1) := by decide +kernel
theorem dX10_hit_21 : decode cX10_hit 21 = .ok (.istore 4, 2) := by decide +kernel
theorem dX10_hit_23 : decode cX10_hit 23 = .ok (.aload_n 0, 1) := by decide +kernel
theorem dX10_hit_24 : decode cX10_hit 24 = .ok (.iload 4, 2) := by decide +kernel
theorem dX10_hit_26 : decode cX10_hit 26 = .ok (.ifCond .ne 7, 3) := by decide +kernel
theorem dX10_hit_29 : decode cX10_hit 29 = .ok (.iconst 1, 1) := by decide +kernel
theorem dX10_hit_30 : decode cX10_hit 30 = .ok (.goto 17, 3) := by decide +kernel
theorem dX10_hit_33 : decode cX10_hit 33 = .ok (.iload_n 3, 1) := by decide +kernel
theorem dX10_hit_34 : decode cX10_hit 34 = .ok (.iconst 0, 1) := by decide +kernel
theorem dX10_hit_35 : decode cX10_hit 35 = .ok (.iconst 4, 1) := by decide +kernel
theorem dX10_hit_36 : decode cX10_hit 36 = .ok (.invokestatic 141, 3) := by decide +kernel
theorem dX10_hit_39 : decode cX10_hit 39 = .ok (.ifCond .eq 7, 3) := by decide +kernel
theorem dX10_hit_42 : decode cX10_hit 42 = .ok (.iconst 0, 1) := by decide +kernel
theorem dX10_hit_43 : decode cX10_hit 43 = .ok (.goto 4, 3) := by decide +kernel
theorem dX10_hit_46 : decode cX10_hit 46 = .ok (.iconst 2, 1) := by decide +kernel
theorem dX10_hit_47 : decode cX10_hit 47 = .ok (.invokevirtual 156, 3) := by decide +kernel
theorem dX10_hit_50 : decode cX10_hit 50 = .ok (.ifCond .ne 5, 3) := by decide +kernel
theorem dX10_hit_53 : decode cX10_hit 53 = .ok (.iconst 0, 1) := by decide +kernel
theorem dX10_hit_54 : decode cX10_hit 54 = .ok (.ireturn, 1) := by decide +kernel
theorem dX10_hit_55 : decode cX10_hit 55 = .ok (.aload_n 0, 1) := by decide +kernel
theorem dX10_hit_56 : decode cX10_hit 56 = .ok (.invokevirtual 233, 3) := by decide +kernel
theorem dX10_hit_59 : decode cX10_hit 59 = .ok (.bipush 8, 2) := by decide +kernel
theorem dX10_hit_61 : decode cX10_hit 61 = .ok (.iload_n 1, 1) := by decide +kernel
theorem dX10_hit_62 : decode cX10_hit 62 = .ok (.imul, 1) := by decide +kernel
theorem dX10_hit_63 : decode cX10_hit 63 = .ok (.iload_n 2, 1) := by decide +kernel
theorem dX10_hit_64 : decode cX10_hit 64 = .ok (.iadd, 1) := by decide +kernel
theorem dX10_hit_65 : decode cX10_hit 65 = .ok (.istore 5, 2) := by decide +kernel
theorem dX10_hit_67 : decode cX10_hit 67 = .ok (.iload_n 3, 1) := by decide +kernel
theorem dX10_hit_68 : decode cX10_hit 68 = .ok (.ifCond .ne 13, 3) := by decide +kernel
theorem dX10_hit_71 : decode cX10_hit 71 = .ok (.aload_n 0, 1) := by decide +kernel
theorem dX10_hit_72 : decode cX10_hit 72 = .ok (.getfield 112, 3) := by decide +kernel
theorem dX10_hit_75 : decode cX10_hit 75 = .ok (.iload 5, 2) := by decide +kernel
theorem dX10_hit_77 : decode cX10_hit 77 = .ok (.iaload, 1) := by decide +kernel
theorem dX10_hit_78 : decode cX10_hit 78 = .ok (.goto 59, 3) := by decide +kernel
theorem dX10_hit_81 : decode cX10_hit 81 = .ok (.iload_n 3, 1) := by decide +kernel
theorem dX10_hit_82 : decode cX10_hit 82 = .ok (.iconst 1, 1) := by decide +kernel
theorem dX10_hit_83 : decode cX10_hit 83 = .ok (.if_icmp .ne 18, 3) := by decide +kernel
theorem dX10_hit_86 : decode cX10_hit 86 = .ok (.aload_n 0, 1) := by decide +kernel
theorem dX10_hit_87 : decode cX10_hit 87 = .ok (.iload_n 1, 1) := by decide +kernel
theorem dX10_hit_88 : decode cX10_hit 88 = .ok (.aload_n 0, 1) := by decide +kernel
theorem dX10_hit_89 : decode cX10_hit 89 = .ok (.getfield 112, 3) := by decide +kernel
theorem dX10_hit_92 : decode cX10_hit 92 = .ok (.iload 5, 2) := by decide +kernel
theorem dX10_hit_94 : decode cX10_hit 94 = .ok (.iaload, 1) := by decide +kernel
theorem dX10_hit_95 : decode cX10_hit 95 = .ok (.invokevirtual 236, 3) := by decide +kernel
theorem dX10_hit_98 : decode cX10_hit 98 = .ok (.goto 39, 3) := by decide +kernel
theorem dX10_hit_101 : decode cX10_hit 101 = .ok (.iload_n 3, 1) := by decide +kernel
theorem dX10_hit_102 : decode cX10_hit 102 = .ok (.iconst 2, 1) := by decide +kernel
theorem dX10_hit_103 : decode cX10_hit 103 = .ok (.if_icmp .ne 13, 3) := by decide +kernel
theorem dX10_hit_106 : decode cX10_hit 106 = .ok (.aload_n 0, 1) := by decide +kernel
theorem dX10_hit_107 : decode cX10_hit 107 = .ok (.getfield 115, 3) := by decide +kernel
theorem dX10_hit_110 : decode cX10_hit 110 = .ok (.iload 5, 2) := by decide +kernel
theorem dX10_hit_112 : decode cX10_hit 112 = .ok (.iaload, 1) := by decide +kernel
theorem dX10_hit_113 : decode cX10_hit 113 = .ok (.goto 24, 3) := by decide +kernel
theorem dX10_hit_116 : decode cX10_hit 116 = .ok (.iload_n 3, 1) := by decide +kernel
theorem dX10_hit_117 : decode cX10_hit 117 = .ok (.iconst 3, 1) := by decide +kernel
theorem dX10_hit_118 : decode cX10_hit 118 = .ok (.if_icmp .ne 12, 3) := by decide +kernel
theorem dX10_hit_121 : decode cX10_hit 121 = .ok (.aload_n 0, 1) := by decide +kernel
theorem dX10_hit_122 : decode cX10_hit 122 = .ok (.iload_n 1, 1) := by decide +kernel
theorem dX10_hit_123 : decode cX10_hit 123 = .ok (.iload_n 2, 1) := by decide +kernel
theorem dX10_hit_124 : decode cX10_hit 124 = .ok (.invokevirtual 239, 3) := by decide +kernel
theorem dX10_hit_127 : decode cX10_hit 127 = .ok (.goto 10, 3) := by decide +kernel
theorem dX10_hit_130 : decode cX10_hit 130 = .ok (.aload_n 0, 1) := by decide +kernel
theorem dX10_hit_131 : decode cX10_hit 131 = .ok (.getfield 118, 3) := by decide +kernel
theorem dX10_hit_134 : decode cX10_hit 134 = .ok (.iload 5, 2) := by decide +kernel
theorem dX10_hit_136 : decode cX10_hit 136 = .ok (.iaload, 1) := by decide +kernel
theorem dX10_hit_137 : decode cX10_hit 137 = .ok (.ireturn, 1) := by decide +kernel
theorem dX10_findDirect_0 : decode cX10_findDirect 0 = .ok (.aload_n 0, 1) := by decide +kernel
theorem dX10_findDirect_1 : decode cX10_findDirect 1 = .ok (.invokevirtual 233, 3) := by decide +kernel
theorem dX10_findDirect_4 : decode cX10_findDirect 4 = .ok (.iconst 0, 1) := by decide +kernel
theorem dX10_findDirect_5 : decode cX10_findDirect 5 = .ok (.istore_n 1, 1) := by decide +kernel
theorem dX10_findDirect_6 : decode cX10_findDirect 6 = .ok (.iload_n 1, 1) := by decide +kernel
theorem dX10_findDirect_7 : decode cX10_findDirect 7 = .ok (.bipush 6, 2) := by decide +kernel
theorem dX10_findDirect_9 : decode cX10_findDirect 9 = .ok (.if_icmp .ge 118, 3) := by decide +kernel
theorem dX10_findDirect_12 : decode cX10_findDirect 12 = .ok (.aload_n 0, 1) := by decide +kernel
theorem dX10_findDirect_13 : decode cX10_findDirect 13 = .ok (.getfield 121, 3) := by decide +kernel
theorem dX10_findDirect_16 : decode cX10_findDirect 16 = .ok (.iload_n 1, 1) := by decide +kernel
theorem dX10_findDirect_17 : decode cX10_findDirect 17 = .ok (.lconst 0, 1) := by decide +kernel
theorem dX10_findDirect_18 : decode cX10_findDirect 18 = .ok (.lastore, 1) := by decide +kernel
theorem dX10_findDirect_19 : decode cX10_findDirect 19 = .ok (.iconst 0, 1) := by decide +kernel
theorem dX10_findDirect_20 : decode cX10_findDirect 20 = .ok (.istore_n 2, 1) := by decide +kernel
theorem dX10_findDirect_21 : decode cX10_findDirect 21 = .ok (.iload_n 2, 1) := by decide +kernel
theorem dX10_findDirect_22 : decode cX10_findDirect 22 = .ok (.aload_n 0, 1) := by decide +kernel
theorem dX10_findDirect_23 : decode cX10_findDirect 23 = .ok (.getfield 163, 3) := by decide +kernel
theorem dX10_findDirect_26 : decode cX10_findDirect 26 = .ok (.if_icmp .ge 95, 3) := by decide +kernel
theorem dX10_findDirect_29 : decode cX10_findDirect 29 = .ok (.aload_n 0, 1) := by decide +kernel
theorem dX10_findDirect_30 : decode cX10_findDirect 30 = .ok (.getfield 121, 3) := by decide +kernel
theorem dX10_findDirect_33 : decode cX10_findDirect 33 = .ok (.iload_n 1, 1) := by decide +kernel
theorem dX10_findDirect_34 : decode cX10_findDirect 34 = .ok (.dup2, 1) := by decide +kernel
theorem dX10_findDirect_35 : decode cX10_findDirect 35 = .ok (.laload, 1) := by decide +kernel
theorem dX10_findDirect_36 : decode cX10_findDirect 36 = .ok (.iload_n 1, 1) := by decide +kernel
theorem dX10_findDirect_37 : decode cX10_findDirect 37 = .ok (.ifCond .ne 16, 3) := by decide +kernel
theorem dX10_findDirect_40 : decode cX10_findDirect 40 = .ok (.aload_n 0, 1) := by decide +kernel
theorem dX10_findDirect_41 : decode cX10_findDirect 41 = .ok (.aload_n 0, 1) := by decide +kernel
theorem dX10_findDirect_42 : decode cX10_findDirect 42 = .ok (.iload_n 2, 1) := by decide +kernel
theorem dX10_findDirect_43 : decode cX10_findDirect 43 = .ok (.invokevirtual 213, 3) := by decide +kernel
theorem dX10_findDirect_46 : decode cX10_findDirect 46 = .ok (.invokevirtual 216, 3) := by decide +kernel
theorem dX10_findDirect_49 : decode cX10_findDirect 49 = .ok (.i2l, 1) := by decide +kernel
theorem dX10_findDirect_50 : decode cX10_findDirect 50 = .ok (.goto 4, 3) := by decide +kernel
theorem dX10_findDirect_53 : decode cX10_findDirect 53 = .ok (.lconst 0, 1) := by decide +kernel
theorem dX10_findDirect_54 : decode cX10_findDirect 54 = .ok (.ladd, 1) := by decide +kernel
theorem dX10_findDirect_55 : decode cX10_findDirect 55 = .ok (.lastore, 1) := by decide +kernel
theorem dX10_findDirect_56 : decode cX10_findDirect 56 = .ok (.iconst 0, 1) := by decide +kernel
theorem dX10_findDirect_57 : decode cX10_findDirect 57 = .ok (.istore_n 3, 1) := by decide +kernel
theorem dX10_findDirect_58 : decode cX10_findDirect 58 = .ok (.iload_n 3, 1) := by decide +kernel
theorem dX10_findDirect_59 : decode cX10_findDirect 59 = .ok (.aload_n 0, 1) := by decide +kernel
theorem dX10_findDirect_60 : decode cX10_findDirect 60 = .ok (.getfield 176, 3) := by decide +kernel
theorem dX10_findDirect_63 : decode cX10_findDirect 63 = .ok (.if_icmp .ge 52, 3) := by decide +kernel
theorem dX10_findDirect_66 : decode cX10_findDirect 66 = .ok (.aload_n 0, 1) := by decide +kernel
theorem dX10_findDirect_67 : decode cX10_findDirect 67 = .ok (.getfield 121, 3) := by decide +kernel
theorem dX10_findDirect_70 : decode cX10_findDirect 70 = .ok (.iload_n 1, 1) := by decide +kernel
theorem dX10_findDirect_71 : decode cX10_findDirect 71 = .ok (.dup2, 1) := by decide +kernel
theorem dX10_findDirect_72 : decode cX10_findDirect 72 = .ok (.laload, 1) := by decide +kernel
theorem dX10_findDirect_73 : decode cX10_findDirect 73 = .ok (.aload_n 0, 1) := by decide +kernel
theorem dX10_findDirect_74 : decode cX10_findDirect 74 = .ok (.getfield 46, 3) := by decide +kernel
theorem dX10_findDirect_77 : decode cX10_findDirect 77 = .ok (.bipush 6, 2) := by decide +kernel
theorem dX10_findDirect_79 : decode cX10_findDirect 79 = .ok (.iload_n 3, 1) := by decide +kernel
theorem dX10_findDirect_80 : decode cX10_findDirect 80 = .ok (.imul, 1) := by decide +kernel
theorem dX10_findDirect_81 : decode cX10_findDirect 81 = .ok (.iload_n 1, 1) := by decide +kernel
theorem dX10_findDirect_82 : decode cX10_findDirect 82 = .ok (.iadd, 1) := by decide +kernel
theorem dX10_findDirect_83 : decode cX10_findDirect 83 = .ok (.iaload, 1) := by decide +kernel
theorem dX10_findDirect_84 : decode cX10_findDirect 84 = .ok (.i2l, 1) := by decide +kernel
theorem dX10_findDirect_85 : decode cX10_findDirect 85 = .ok (.aload_n 0, 1) := by decide +kernel
theorem dX10_findDirect_86 : decode cX10_findDirect 86 = .ok (.iload_n 3, 1) := by decide +kernel
theorem dX10_findDirect_87 : decode cX10_findDirect 87 = .ok (.aload_n 0, 1) := by decide +kernel
theorem dX10_findDirect_88 : decode cX10_findDirect 88 = .ok (.getfield 112, 3) := by decide +kernel
theorem dX10_findDirect_91 : decode cX10_findDirect 91 = .ok (.bipush 8, 2) := by decide +kernel
theorem dX10_findDirect_93 : decode cX10_findDirect 93 = .ok (.iload_n 3, 1) := by decide +kernel
theorem dX10_findDirect_94 : decode cX10_findDirect 94 = .ok (.imul, 1) := by decide +kernel
theorem dX10_findDirect_95 : decode cX10_findDirect 95 = .ok (.iload_n 2, 1) := by decide +kernel
theorem dX10_findDirect_96 : decode cX10_findDirect 96 = .ok (.iadd, 1) := by decide +kernel
theorem dX10_findDirect_97 : decode cX10_findDirect 97 = .ok (.iaload, 1) := by decide +kernel
theorem dX10_findDirect_98 : decode cX10_findDirect 98 = .ok (.invokevirtual 236, 3) := by decide +kernel
theorem dX10_findDirect_101 : decode cX10_findDirect 101 = .ok (.i2l, 1) := by decide +kernel
theorem dX10_findDirect_102 : decode cX10_findDirect 102 = .ok (.lmul, 1) := by decide +kernel
theorem dX10_findDirect_103 : decode cX10_findDirect 103 = .ok (.ldc2_w 173, 3) := by decide +kernel
theorem dX10_findDirect_106 : decode cX10_findDirect 106 = .ok (.ldiv, 1) := by decide +kernel
theorem dX10_findDirect_107 : decode cX10_findDirect 107 = .ok (.ladd, 1) := by decide +kernel
theorem dX10_findDirect_108 : decode cX10_findDirect 108 = .ok (.lastore, 1) := by decide +kernel
theorem dX10_findDirect_109 : decode cX10_findDirect 109 = .ok (.iinc 3 1, 3) := by decide +kernel
theorem dX10_findDirect_112 : decode cX10_findDirect 112 = .ok (.goto (-54), 3) := by decide +kernel
theorem dX10_findDirect_115 : decode cX10_findDirect 115 = .ok (.iinc 2 1, 3) := by decide +kernel
theorem dX10_findDirect_118 : decode cX10_findDirect 118 = .ok (.goto (-97), 3) := by decide +kernel
theorem dX10_findDirect_121 : decode cX10_findDirect 121 = .ok (.iinc 1 1, 3) := by decide +kernel
theorem dX10_findDirect_124 : decode cX10_findDirect 124 = .ok (.goto (-118), 3) := by decide +kernel
theorem dX10_findDirect_127 : decode cX10_findDirect 127 = .ok (.return_, 1) := by decide +kernel
theorem dX10_isOutside_0 : decode cX10_isOutside 0 = .ok (.iconst 1, 1) := by decide +kernel
theorem dX10_isOutside_1 : decode cX10_isOutside 1 = .ok (.istore_n 2, 1) := by decide +kernel
theorem dX10_isOutside_2 : decode cX10_isOutside 2 = .ok (.iconst 0, 1) := by decide +kernel
theorem dX10_isOutside_3 : decode cX10_isOutside 3 = .ok (.istore_n 3, 1) := by decide +kernel
theorem dX10_isOutside_4 : decode cX10_isOutside 4 = .ok (.iload_n 3, 1) := by decide +kernel
theorem dX10_isOutside_5 : decode cX10_isOutside 5 = .ok (.aload_n 0, 1) := by decide +kernel
theorem dX10_isOutside_6 : decode cX10_isOutside 6 = .ok (.getfield 163, 3) := by decide +kernel
theorem dX10_isOutside_9 : decode cX10_isOutside 9 = .ok (.if_icmp .ge 28, 3) := by decide +kernel
theorem dX10_isOutside_12 : decode cX10_isOutside 12 = .ok (.iload_n 2, 1) := by decide +kernel
theorem dX10_isOutside_13 : decode cX10_isOutside 13 = .ok (.ifCond .eq 16, 3) := by decide +kernel
theorem dX10_isOutside_16 : decode cX10_isOutside 16 = .ok (.aload_n 0, 1) := by decide +kernel
theorem dX10_isOutside_17 : decode cX10_isOutside 17 = .ok (.iload_n 1, 1) := by decide +kernel
theorem dX10_isOutside_18 : decode cX10_isOutside 18 = .ok (.iload_n 3, 1) := by decide +kernel
theorem dX10_isOutside_19 : decode cX10_isOutside 19 = .ok (.invokevirtual 166, 3) := by decide +kernel
theorem dX10_isOutside_22 : decode cX10_isOutside 22 = .ok (.ifCond .ne 7, 3) := by decide +kernel
theorem dX10_isOutside_25 : decode cX10_isOutside 25 = .ok (.iconst 1, 1) := by decide +kernel
theorem dX10_isOutside_26 : decode cX10_isOutside 26 = .ok (.goto 4, 3) := by decide +kernel
theorem dX10_isOutside_29 : decode cX10_isOutside 29 = .ok (.iconst 0, 1) := by decide +kernel
theorem dX10_isOutside_30 : decode cX10_isOutside 30 = .ok (.istore_n 2, 1) := by decide +kernel
theorem dX10_isOutside_31 : decode cX10_isOutside 31 = .ok (.iinc 3 1, 3) := by decide +kernel
theorem dX10_isOutside_34 : decode cX10_isOutside 34 = .ok (.goto (-30), 3) := by decide +kernel
theorem dX10_isOutside_37 : decode cX10_isOutside 37 = .ok (.iload_n 2, 1) := by decide +kernel
theorem dX10_isOutside_38 : decode cX10_isOutside 38 = .ok (.ireturn, 1) := by decide +kernel
theorem dX10_sumOf_0 : decode cX10_sumOf 0 = .ok (.aload_n 0, 1) := by decide +kernel
theorem dX10_sumOf_1 : decode cX10_sumOf 1 = .ok (.invokevirtual 242, 3) := by decide +kernel
theorem dX10_sumOf_4 : decode cX10_sumOf 4 = .ok (.iconst 0, 1) := by decide +kernel
theorem dX10_sumOf_5 : decode cX10_sumOf 5 = .ok (.istore_n 2, 1) := by decide +kernel
theorem dX10_sumOf_6 : decode cX10_sumOf 6 = .ok (.iconst 0, 1) := by decide +kernel
theorem dX10_sumOf_7 : decode cX10_sumOf 7 = .ok (.istore_n 3, 1) := by decide +kernel
theorem dX10_sumOf_8 : decode cX10_sumOf 8 = .ok (.iconst 0, 1) := by decide +kernel
theorem dX10_sumOf_9 : decode cX10_sumOf 9 = .ok (.istore 4, 2) := by decide +kernel
theorem dX10_sumOf_11 : decode cX10_sumOf 11 = .ok (.iload 4, 2) := by decide +kernel
theorem dX10_sumOf_13 : decode cX10_sumOf 13 = .ok (.aload_n 0, 1) := by decide +kernel
theorem dX10_sumOf_14 : decode cX10_sumOf 14 = .ok (.getfield 153, 3) := by decide +kernel
theorem dX10_sumOf_17 : decode cX10_sumOf 17 = .ok (.if_icmp .ge 42, 3) := by decide +kernel
theorem dX10_sumOf_20 : decode cX10_sumOf 20 = .ok (.iload_n 2, 1) := by decide +kernel
theorem dX10_sumOf_21 : decode cX10_sumOf 21 = .ok (.aload_n 0, 1) := by decide +kernel
theorem dX10_sumOf_22 : decode cX10_sumOf 22 = .ok (.getfield 16, 3) := by decide +kernel
theorem dX10_sumOf_25 : decode cX10_sumOf 25 = .ok (.iload 4, 2) := by decide +kernel
theorem dX10_sumOf_27 : decode cX10_sumOf 27 = .ok (.iaload, 1) := by decide +kernel
theorem dX10_sumOf_28 : decode cX10_sumOf 28 = .ok (.iadd, 1) := by decide +kernel
theorem dX10_sumOf_29 : decode cX10_sumOf 29 = .ok (.istore_n 2, 1) := by decide +kernel
theorem dX10_sumOf_30 : decode cX10_sumOf 30 = .ok (.iload_n 3, 1) := by decide +kernel
theorem dX10_sumOf_31 : decode cX10_sumOf 31 = .ok (.aload_n 0, 1) := by decide +kernel
theorem dX10_sumOf_32 : decode cX10_sumOf 32 = .ok (.iload 4, 2) := by decide +kernel
theorem dX10_sumOf_34 : decode cX10_sumOf 34 = .ok (.invokevirtual 245, 3) := by decide +kernel
theorem dX10_sumOf_37 : decode cX10_sumOf 37 = .ok (.ifCond .eq 13, 3) := by decide +kernel
theorem dX10_sumOf_40 : decode cX10_sumOf 40 = .ok (.aload_n 0, 1) := by decide +kernel
theorem dX10_sumOf_41 : decode cX10_sumOf 41 = .ok (.getfield 16, 3) := by decide +kernel
theorem dX10_sumOf_44 : decode cX10_sumOf 44 = .ok (.iload 4, 2) := by decide +kernel
theorem dX10_sumOf_46 : decode cX10_sumOf 46 = .ok (.iaload, 1) := by decide +kernel
theorem dX10_sumOf_47 : decode cX10_sumOf 47 = .ok (.goto 4, 3) := by decide +kernel
theorem dX10_sumOf_50 : decode cX10_sumOf 50 = .ok (.iconst 0, 1) := by decide +kernel
theorem dX10_sumOf_51 : decode cX10_sumOf 51 = .ok (.iadd, 1) := by decide +kernel
theorem dX10_sumOf_52 : decode cX10_sumOf 52 = .ok (.istore_n 3, 1) := by decide +kernel
theorem dX10_sumOf_53 : decode cX10_sumOf 53 = .ok (.iinc 4 1, 3) := by decide +kernel
theorem dX10_sumOf_56 : decode cX10_sumOf 56 = .ok (.goto (-45), 3) := by decide +kernel
theorem dX10_sumOf_59 : decode cX10_sumOf 59 = .ok (.iconst 0, 1) := by decide +kernel
theorem dX10_sumOf_60 : decode cX10_sumOf 60 = .ok (.istore 4, 2) := by decide +kernel
theorem dX10_sumOf_62 : decode cX10_sumOf 62 = .ok (.iconst 0, 1) := by decide +kernel
theorem dX10_sumOf_63 : decode cX10_sumOf 63 = .ok (.istore 5, 2) := by decide +kernel
theorem dX10_sumOf_65 : decode cX10_sumOf 65 = .ok (.iconst 0, 1) := by decide +kernel
theorem dX10_sumOf_66 : decode cX10_sumOf 66 = .ok (.istore 6, 2) := by decide +kernel
theorem dX10_sumOf_68 : decode cX10_sumOf 68 = .ok (.iconst 0, 1) := by decide +kernel
theorem dX10_sumOf_69 : decode cX10_sumOf 69 = .ok (.istore 7, 2) := by decide +kernel
theorem dX10_sumOf_71 : decode cX10_sumOf 71 = .ok (.iload 7, 2) := by decide +kernel
theorem dX10_sumOf_73 : decode cX10_sumOf 73 = .ok (.aload_n 0, 1) := by decide +kernel
theorem dX10_sumOf_74 : decode cX10_sumOf 74 = .ok (.getfield 163, 3) := by decide +kernel
theorem dX10_sumOf_77 : decode cX10_sumOf 77 = .ok (.if_icmp .ge 79, 3) := by decide +kernel
theorem dX10_sumOf_80 : decode cX10_sumOf 80 = .ok (.iload 4, 2) := by decide +kernel
theorem dX10_sumOf_82 : decode cX10_sumOf 82 = .ok (.aload_n 0, 1) := by decide +kernel
theorem dX10_sumOf_83 : decode cX10_sumOf 83 = .ok (.aload_n 0, 1) := by decide +kernel
theorem dX10_sumOf_84 : decode cX10_sumOf 84 = .ok (.iload 7, 2) := by decide +kernel
theorem dX10_sumOf_86 : decode cX10_sumOf 86 = .ok (.invokevirtual 213, 3) := by decide +kernel
theorem dX10_sumOf_89 : decode cX10_sumOf 89 = .ok (.invokevirtual 216, 3) := by decide +kernel
theorem dX10_sumOf_92 : decode cX10_sumOf 92 = .ok (.iadd, 1) := by decide +kernel
theorem dX10_sumOf_93 : decode cX10_sumOf 93 = .ok (.istore 4, 2) := by decide +kernel
theorem dX10_sumOf_95 : decode cX10_sumOf 95 = .ok (.iconst 0, 1) := by decide +kernel
theorem dX10_sumOf_96 : decode cX10_sumOf 96 = .ok (.istore 8, 2) := by decide +kernel
theorem dX10_sumOf_98 : decode cX10_sumOf 98 = .ok (.iload 8, 2) := by decide +kernel
theorem dX10_sumOf_100 : decode cX10_sumOf 100 = .ok (.aload_n 0, 1) := by decide +kernel
theorem dX10_sumOf_101 : decode cX10_sumOf 101 = .ok (.getfield 176, 3) := by decide +kernel
theorem dX10_sumOf_104 : decode cX10_sumOf 104 = .ok (.if_icmp .ge 46, 3) := by decide +kernel
theorem dX10_sumOf_107 : decode cX10_sumOf 107 = .ok (.iload 5, 2) := by decide +kernel
theorem dX10_sumOf_109 : decode cX10_sumOf 109 = .ok (.aload_n 0, 1) := by decide +kernel
theorem dX10_sumOf_110 : decode cX10_sumOf 110 = .ok (.iload 8, 2) := by decide +kernel
theorem dX10_sumOf_112 : decode cX10_sumOf 112 = .ok (.aload_n 0, 1) := by decide +kernel
theorem dX10_sumOf_113 : decode cX10_sumOf 113 = .ok (.getfield 112, 3) := by decide +kernel
theorem dX10_sumOf_116 : decode cX10_sumOf 116 = .ok (.bipush 8, 2) := by decide +kernel
theorem dX10_sumOf_118 : decode cX10_sumOf 118 = .ok (.iload 8, 2) := by decide +kernel
theorem dX10_sumOf_120 : decode cX10_sumOf 120 = .ok (.imul, 1) := by decide +kernel
theorem dX10_sumOf_121 : decode cX10_sumOf 121 = .ok (.iload 7, 2) := by decide +kernel
theorem dX10_sumOf_123 : decode cX10_sumOf 123 = .ok (.iadd, 1) := by decide +kernel
theorem dX10_sumOf_124 : decode cX10_sumOf 124 = .ok (.iaload, 1) := by decide +kernel
theorem dX10_sumOf_125 : decode cX10_sumOf 125 = .ok (.invokevirtual 236, 3) := by decide +kernel
theorem dX10_sumOf_128 : decode cX10_sumOf 128 = .ok (.iadd, 1) := by decide +kernel
theorem dX10_sumOf_129 : decode cX10_sumOf 129 = .ok (.istore 5, 2) := by decide +kernel
theorem dX10_sumOf_131 : decode cX10_sumOf 131 = .ok (.iload 6, 2) := by decide +kernel
theorem dX10_sumOf_133 : decode cX10_sumOf 133 = .ok (.aload_n 0, 1) := by decide +kernel
theorem dX10_sumOf_134 : decode cX10_sumOf 134 = .ok (.iload 8, 2) := by decide +kernel
theorem dX10_sumOf_136 : decode cX10_sumOf 136 = .ok (.iload 7, 2) := by decide +kernel
theorem dX10_sumOf_138 : decode cX10_sumOf 138 = .ok (.invokevirtual 239, 3) := by decide +kernel
theorem dX10_sumOf_141 : decode cX10_sumOf 141 = .ok (.iadd, 1) := by decide +kernel
theorem dX10_sumOf_142 : decode cX10_sumOf 142 = .ok (.istore 6, 2) := by decide +kernel
theorem dX10_sumOf_144 : decode cX10_sumOf 144 = .ok (.iinc 8 1, 3) := by decide +kernel
theorem dX10_sumOf_147 : decode cX10_sumOf 147 = .ok (.goto (-49), 3) := by decide +kernel
theorem dX10_sumOf_150 : decode cX10_sumOf 150 = .ok (.iinc 7 1, 3) := by decide +kernel
theorem dX10_sumOf_153 : decode cX10_sumOf 153 = .ok (.goto (-82), 3) := by decide +kernel
theorem dX10_sumOf_156 : decode cX10_sumOf 156 = .ok (.iconst 0, 1) := by decide +kernel
theorem dX10_sumOf_157 : decode cX10_sumOf 157 = .ok (.istore 7, 2) := by decide +kernel
theorem dX10_sumOf_159 : decode cX10_sumOf 159 = .ok (.iconst 0, 1) := by decide +kernel
theorem dX10_sumOf_160 : decode cX10_sumOf 160 = .ok (.istore 8, 2) := by decide +kernel
theorem dX10_sumOf_162 : decode cX10_sumOf 162 = .ok (.iload 8, 2) := by decide +kernel
theorem dX10_sumOf_164 : decode cX10_sumOf 164 = .ok (.bipush 6, 2) := by decide +kernel
theorem dX10_sumOf_166 : decode cX10_sumOf 166 = .ok (.if_icmp .ge 22, 3) := by decide +kernel
theorem dX10_sumOf_169 : decode cX10_sumOf 169 = .ok (.iload 7, 2) := by decide +kernel
theorem dX10_sumOf_171 : decode cX10_sumOf 171 = .ok (.aload_n 0, 1) := by decide +kernel
theorem dX10_sumOf_172 : decode cX10_sumOf 172 = .ok (.getfield 121, 3) := by decide +kernel
theorem dX10_sumOf_175 : decode cX10_sumOf 175 = .ok (.iload 8, 2) := by decide +kernel
theorem dX10_sumOf_177 : decode cX10_sumOf 177 = .ok (.laload, 1) := by decide +kernel
theorem dX10_sumOf_178 : decode cX10_sumOf 178 = .ok (.l2i, 1) := by decide +kernel
theorem dX10_sumOf_179 : decode cX10_sumOf 179 = .ok (.iadd, 1) := by decide +kernel
theorem dX10_sumOf_180 : decode cX10_sumOf 180 = .ok (.istore 7, 2) := by decide +kernel
theorem dX10_sumOf_182 : decode cX10_sumOf 182 = .ok (.iinc 8 1, 3) := by decide +kernel
theorem dX10_sumOf_185 : decode cX10_sumOf 185 = .ok (.goto (-23), 3) := by decide +kernel
theorem dX10_sumOf_188 : decode cX10_sumOf 188 = .ok (.iload_n 1, 1) := by decide +kernel
theorem dX10_sumOf_189 : decode cX10_sumOf 189 = .ok (.tableswitch 73 0 6 #[43, 45, 47, 50, 53, 62, 65], 43) := by decide +kernel
theorem dX10_sumOf_232 : decode cX10_sumOf 232 = .ok (.iload_n 2, 1) := by decide +kernel
theorem dX10_sumOf_233 : decode cX10_sumOf 233 = .ok (.ireturn, 1) := by decide +kernel
theorem dX10_sumOf_234 : decode cX10_sumOf 234 = .ok (.iload_n 3, 1) := by decide +kernel
theorem dX10_sumOf_235 : decode cX10_sumOf 235 = .ok (.ireturn, 1) := by decide +kernel
theorem dX10_sumOf_236 : decode cX10_sumOf 236 = .ok (.iload 4, 2) := by decide +kernel
theorem dX10_sumOf_238 : decode cX10_sumOf 238 = .ok (.ireturn, 1) := by decide +kernel
theorem dX10_sumOf_239 : decode cX10_sumOf 239 = .ok (.iload 5, 2) := by decide +kernel
theorem dX10_sumOf_241 : decode cX10_sumOf 241 = .ok (.ireturn, 1) := by decide +kernel
theorem dX10_sumOf_242 : decode cX10_sumOf 242 = .ok (.iload 5, 2) := by decide +kernel
theorem dX10_sumOf_244 : decode cX10_sumOf 244 = .ok (.iload 7, 2) := by decide +kernel
theorem dX10_sumOf_246 : decode cX10_sumOf 246 = .ok (.iload 4, 2) := by decide +kernel
theorem dX10_sumOf_248 : decode cX10_sumOf 248 = .ok (.isub, 1) := by decide +kernel
theorem dX10_sumOf_249 : decode cX10_sumOf 249 = .ok (.isub, 1) := by decide +kernel
theorem dX10_sumOf_250 : decode cX10_sumOf 250 = .ok (.ireturn, 1) := by decide +kernel
theorem dX10_sumOf_251 : decode cX10_sumOf 251 = .ok (.iload 6, 2) := by decide +kernel
theorem dX10_sumOf_253 : decode cX10_sumOf 253 = .ok (.ireturn, 1) := by decide +kernel
theorem dX10_sumOf_254 : decode cX10_sumOf 254 = .ok (.iload_n 2, 1) := by decide +kernel
theorem dX10_sumOf_255 : decode cX10_sumOf 255 = .ok (.iload 7, 2) := by decide +kernel
theorem dX10_sumOf_257 : decode cX10_sumOf 257 = .ok (.isub, 1) := by decide +kernel
theorem dX10_sumOf_258 : decode cX10_sumOf 258 = .ok (.iload 6, 2) := by decide +kernel
theorem dX10_sumOf_260 : decode cX10_sumOf 260 = .ok (.iadd, 1) := by decide +kernel
theorem dX10_sumOf_261 : decode cX10_sumOf 261 = .ok (.ireturn, 1) := by decide +kernel
theorem dX10_sumOf_262 : decode cX10_sumOf 262 = .ok (.iload 7, 2) := by decide +kernel
theorem dX10_sumOf_264 : decode cX10_sumOf 264 = .ok (.ireturn, 1) := by decide +kernel
theorem dX10_sum_0 : decode cX10_sum 0 = .ok (.aload_n 0, 1) := by decide +kernel
theorem dX10_sum_1 : decode cX10_sum 1 = .ok (.iload_n 1, 1) := by decide +kernel
theorem dX10_sum_2 : decode cX10_sum 2 = .ok (.iconst 0, 1) := by decide +kernel
theorem dX10_sum_3 : decode cX10_sum 3 = .ok (.bipush 7, 2) := by decide +kernel
theorem dX10_sum_5 : decode cX10_sum 5 = .ok (.invokestatic 141, 3) := by decide +kernel
theorem dX10_sum_8 : decode cX10_sum 8 = .ok (.ifCond .eq 7, 3) := by decide +kernel
theorem dX10_sum_11 : decode cX10_sum 11 = .ok (.iconst 0, 1) := by decide +kernel
theorem dX10_sum_12 : decode cX10_sum 12 = .ok (.goto 4, 3) := by decide +kernel
theorem dX10_sum_15 : decode cX10_sum 15 = .ok (.iconst 1, 1) := by decide +kernel
theorem dX10_sum_16 : decode cX10_sum 16 = .ok (.invokevirtual 156, 3) := by decide +kernel
theorem dX10_sum_19 : decode cX10_sum 19 = .ok (.ifCond .eq 11, 3) := by decide +kernel
theorem dX10_sum_22 : decode cX10_sum 22 = .ok (.aload_n 0, 1) := by decide +kernel
theorem dX10_sum_23 : decode cX10_sum 23 = .ok (.iload_n 1, 1) := by decide +kernel
theorem dX10_sum_24 : decode cX10_sum 24 = .ok (.invokevirtual 248, 3) := by decide +kernel
theorem dX10_sum_27 : decode cX10_sum 27 = .ok (.goto 4, 3) := by decide +kernel
theorem dX10_sum_30 : decode cX10_sum 30 = .ok (.iconst 0, 1) := by decide +kernel
theorem dX10_sum_31 : decode cX10_sum 31 = .ok (.ireturn, 1) := by decide +kernel
theorem dX10_passed_0 : decode cX10_passed 0 = .ok (.aload_n 0, 1) := by decide +kernel
theorem dX10_passed_1 : decode cX10_passed 1 = .ok (.getfield 125, 3) := by decide +kernel
theorem dX10_passed_4 : decode cX10_passed 4 = .ok (.iload_n 1, 1) := by decide +kernel
theorem dX10_passed_5 : decode cX10_passed 5 = .ok (.laload, 1) := by decide +kernel
theorem dX10_passed_6 : decode cX10_passed 6 = .ok (.aload_n 0, 1) := by decide +kernel
theorem dX10_passed_7 : decode cX10_passed 7 = .ok (.getfield 52, 3) := by decide +kernel
theorem dX10_passed_10 : decode cX10_passed 10 = .ok (.iload_n 1, 1) := by decide +kernel
theorem dX10_passed_11 : decode cX10_passed 11 = .ok (.iaload, 1) := by decide +kernel
theorem dX10_passed_12 : decode cX10_passed 12 = .ok (.i2l, 1) := by decide +kernel
theorem dX10_passed_13 : decode cX10_passed 13 = .ok (.lcmp, 1) := by decide +kernel
theorem dX10_passed_14 : decode cX10_passed 14 = .ok (.ifCond .le 20, 3) := by decide +kernel
theorem dX10_passed_17 : decode cX10_passed 17 = .ok (.aload_n 0, 1) := by decide +kernel
theorem dX10_passed_18 : decode cX10_passed 18 = .ok (.getfield 125, 3) := by decide +kernel
theorem dX10_passed_21 : decode cX10_passed 21 = .ok (.iload_n 1, 1) := by decide +kernel
theorem dX10_passed_22 : decode cX10_passed 22 = .ok (.laload, 1) := by decide +kernel
theorem dX10_passed_23 : decode cX10_passed 23 = .ok (.aload_n 0, 1) := by decide +kernel
theorem dX10_passed_24 : decode cX10_passed 24 = .ok (.getfield 52, 3) := by decide +kernel
theorem dX10_passed_27 : decode cX10_passed 27 = .ok (.iload_n 1, 1) := by decide +kernel
theorem dX10_passed_28 : decode cX10_passed 28 = .ok (.iaload, 1) := by decide +kernel
theorem dX10_passed_29 : decode cX10_passed 29 = .ok (.i2l, 1) := by decide +kernel
theorem dX10_passed_30 : decode cX10_passed 30 = .ok (.lsub, 1) := by decide +kernel
theorem dX10_passed_31 : decode cX10_passed 31 = .ok (.goto 4, 3) := by decide +kernel
theorem dX10_passed_34 : decode cX10_passed 34 = .ok (.lconst 0, 1) := by decide +kernel
theorem dX10_passed_35 : decode cX10_passed 35 = .ok (.lstore_n 2, 1) := by decide +kernel
theorem dX10_passed_36 : decode cX10_passed 36 = .ok (.lload_n 2, 1) := by decide +kernel
theorem dX10_passed_37 : decode cX10_passed 37 = .ok (.aload_n 0, 1) := by decide +kernel
theorem dX10_passed_38 : decode cX10_passed 38 = .ok (.getfield 55, 3) := by decide +kernel
theorem dX10_passed_41 : decode cX10_passed 41 = .ok (.iload_n 1, 1) := by decide +kernel
theorem dX10_passed_42 : decode cX10_passed 42 = .ok (.iaload, 1) := by decide +kernel
theorem dX10_passed_43 : decode cX10_passed 43 = .ok (.i2l, 1) := by decide +kernel
theorem dX10_passed_44 : decode cX10_passed 44 = .ok (.lcmp, 1) := by decide +kernel
theorem dX10_passed_45 : decode cX10_passed 45 = .ok (.ifCond .le 13, 3) := by decide +kernel
theorem dX10_passed_48 : decode cX10_passed 48 = .ok (.aload_n 0, 1) := by decide +kernel
theorem dX10_passed_49 : decode cX10_passed 49 = .ok (.getfield 55, 3) := by decide +kernel
theorem dX10_passed_52 : decode cX10_passed 52 = .ok (.iload_n 1, 1) := by decide +kernel
theorem dX10_passed_53 : decode cX10_passed 53 = .ok (.iaload, 1) := by decide +kernel
theorem dX10_passed_54 : decode cX10_passed 54 = .ok (.i2l, 1) := by decide +kernel
theorem dX10_passed_55 : decode cX10_passed 55 = .ok (.goto 4, 3) := by decide +kernel
theorem dX10_passed_58 : decode cX10_passed 58 = .ok (.lload_n 2, 1) := by decide +kernel
theorem dX10_passed_59 : decode cX10_passed 59 = .ok (.lreturn, 1) := by decide +kernel
theorem dX10_spiral_0 : decode cX10_spiral 0 = .ok (.aload_n 0, 1) := by decide +kernel
theorem dX10_spiral_1 : decode cX10_spiral 1 = .ok (.invokevirtual 242, 3) := by decide +kernel
theorem dX10_spiral_4 : decode cX10_spiral 4 = .ok (.iconst 0, 1) := by decide +kernel
theorem dX10_spiral_5 : decode cX10_spiral 5 = .ok (.istore_n 1, 1) := by decide +kernel
theorem dX10_spiral_6 : decode cX10_spiral 6 = .ok (.iload_n 1, 1) := by decide +kernel
theorem dX10_spiral_7 : decode cX10_spiral 7 = .ok (.bipush 6, 2) := by decide +kernel
theorem dX10_spiral_9 : decode cX10_spiral 9 = .ok (.if_icmp .ge 21, 3) := by decide +kernel
theorem dX10_spiral_12 : decode cX10_spiral 12 = .ok (.aload_n 0, 1) := by decide +kernel
theorem dX10_spiral_13 : decode cX10_spiral 13 = .ok (.getfield 125, 3) := by decide +kernel
theorem dX10_spiral_16 : decode cX10_spiral 16 = .ok (.iload_n 1, 1) := by decide +kernel
theorem dX10_spiral_17 : decode cX10_spiral 17 = .ok (.aload_n 0, 1) := by decide +kernel
theorem dX10_spiral_18 : decode cX10_spiral 18 = .ok (.getfield 121, 3) := by decide +kernel
theorem dX10_spiral_21 : decode cX10_spiral 21 = .ok (.iload_n 1, 1) := by decide +kernel
theorem dX10_spiral_22 : decode cX10_spiral 22 = .ok (.laload, 1) := by decide +kernel
theorem dX10_spiral_23 : decode cX10_spiral 23 = .ok (.lastore, 1) := by decide +kernel
theorem dX10_spiral_24 : decode cX10_spiral 24 = .ok (.iinc 1 1, 3) := by decide +kernel
theorem dX10_spiral_27 : decode cX10_spiral 27 = .ok (.goto (-21), 3) := by decide +kernel
theorem dX10_spiral_30 : decode cX10_spiral 30 = .ok (.iconst 1, 1) := by decide +kernel
theorem dX10_spiral_31 : decode cX10_spiral 31 = .ok (.istore_n 1, 1) := by decide +kernel
theorem dX10_spiral_32 : decode cX10_spiral 32 = .ok (.iload_n 1, 1) := by decide +kernel
theorem dX10_spiral_33 : decode cX10_spiral 33 = .ok (.bipush 40, 2) := by decide +kernel
theorem dX10_spiral_35 : decode cX10_spiral 35 = .ok (.if_icmp .ge 18, 3) := by decide +kernel
theorem dX10_spiral_38 : decode cX10_spiral 38 = .ok (.aload_n 0, 1) := by decide +kernel
theorem dX10_spiral_39 : decode cX10_spiral 39 = .ok (.invokevirtual 251, 3) := by decide +kernel
theorem dX10_spiral_42 : decode cX10_spiral 42 = .ok (.ifCond .ne 5, 3) := by decide +kernel
theorem dX10_spiral_45 : decode cX10_spiral 45 = .ok (.iload_n 1, 1) := by decide +kernel
theorem dX10_spiral_46 : decode cX10_spiral 46 = .ok (.ireturn, 1) := by decide +kernel
theorem dX10_spiral_47 : decode cX10_spiral 47 = .ok (.iinc 1 1, 3) := by decide +kernel
theorem dX10_spiral_50 : decode cX10_spiral 50 = .ok (.goto (-18), 3) := by decide +kernel
theorem dX10_spiral_53 : decode cX10_spiral 53 = .ok (.aload_n 0, 1) := by decide +kernel
theorem dX10_spiral_54 : decode cX10_spiral 54 = .ok (.invokevirtual 251, 3) := by decide +kernel
theorem dX10_spiral_57 : decode cX10_spiral 57 = .ok (.pop, 1) := by decide +kernel
theorem dX10_spiral_58 : decode cX10_spiral 58 = .ok (.bipush 40, 2) := by decide +kernel
theorem dX10_spiral_60 : decode cX10_spiral 60 = .ok (.ireturn, 1) := by decide +kernel
theorem dX10_changes_0 : decode cX10_changes 0 = .ok (.iconst 0, 1) := by decide +kernel
theorem dX10_changes_1 : decode cX10_changes 1 = .ok (.istore_n 1, 1) := by decide +kernel
theorem dX10_changes_2 : decode cX10_changes 2 = .ok (.iload_n 1, 1) := by decide +kernel
theorem dX10_changes_3 : decode cX10_changes 3 = .ok (.bipush 6, 2) := by decide +kernel
theorem dX10_changes_5 : decode cX10_changes 5 = .ok (.if_icmp .ge 21, 3) := by decide +kernel
theorem dX10_changes_8 : decode cX10_changes 8 = .ok (.aload_n 0, 1) := by decide +kernel
theorem dX10_changes_9 : decode cX10_changes 9 = .ok (.getfield 128, 3) := by decide +kernel
theorem dX10_changes_12 : decode cX10_changes 12 = .ok (.iload_n 1, 1) := by decide +kernel
theorem dX10_changes_13 : decode cX10_changes 13 = .ok (.aload_n 0, 1) := by decide +kernel
theorem dX10_changes_14 : decode cX10_changes 14 = .ok (.getfield 121, 3) := by decide +kernel
theorem dX10_changes_17 : decode cX10_changes 17 = .ok (.iload_n 1, 1) := by decide +kernel
theorem dX10_changes_18 : decode cX10_changes 18 = .ok (.laload, 1) := by decide +kernel
theorem dX10_changes_19 : decode cX10_changes 19 = .ok (.lastore, 1) := by decide +kernel
theorem dX10_changes_20 : decode cX10_changes 20 = .ok (.iinc 1 1, 3) := by decide +kernel
theorem dX10_changes_23 : decode cX10_changes 23 = .ok (.goto (-21), 3) := by decide +kernel
theorem dX10_changes_26 : decode cX10_changes 26 = .ok (.iconst 0, 1) := by decide +kernel
theorem dX10_changes_27 : decode cX10_changes 27 = .ok (.istore_n 1, 1) := by decide +kernel
theorem dX10_changes_28 : decode cX10_changes 28 = .ok (.iload_n 1, 1) := by decide +kernel
theorem dX10_changes_29 : decode cX10_changes 29 = .ok (.bipush 6, 2) := by decide +kernel
theorem dX10_changes_31 : decode cX10_changes 31 = .ok (.if_icmp .ge 28, 3) := by decide +kernel
theorem dX10_changes_34 : decode cX10_changes 34 = .ok (.aload_n 0, 1) := by decide +kernel
theorem dX10_changes_35 : decode cX10_changes 35 = .ok (.getfield 128, 3) := by decide +kernel
theorem dX10_changes_38 : decode cX10_changes 38 = .ok (.aload_n 0, 1) := by decide +kernel
theorem dX10_changes_39 : decode cX10_changes 39 = .ok (.getfield 49, 3) := by decide +kernel
theorem dX10_changes_42 : decode cX10_changes 42 = .ok (.iload_n 1, 1) := by decide +kernel
theorem dX10_changes_43 : decode cX10_changes 43 = .ok (.iaload, 1) := by decide +kernel
theorem dX10_changes_44 : decode cX10_changes 44 = .ok (.dup2, 1) := by decide +kernel
theorem dX10_changes_45 : decode cX10_changes 45 = .ok (.laload, 1) := by decide +kernel
theorem dX10_changes_46 : decode cX10_changes 46 = .ok (.aload_n 0, 1) := by decide +kernel
theorem dX10_changes_47 : decode cX10_changes 47 = .ok (.iload_n 1, 1) := by decide +kernel
theorem dX10_changes_48 : decode cX10_changes 48 = .ok (.invokevirtual 255, 3) := by decide +kernel
theorem dX10_changes_51 : decode cX10_changes 51 = .ok (.ladd, 1) := by decide +kernel
theorem dX10_changes_52 : decode cX10_changes 52 = .ok (.lastore, 1) := by decide +kernel
theorem dX10_changes_53 : decode cX10_changes 53 = .ok (.iinc 1 1, 3) := by decide +kernel
theorem dX10_changes_56 : decode cX10_changes 56 = .ok (.goto (-28), 3) := by decide +kernel
theorem dX10_changes_59 : decode cX10_changes 59 = .ok (.iconst 0, 1) := by decide +kernel
theorem dX10_changes_60 : decode cX10_changes 60 = .ok (.istore_n 1, 1) := by decide +kernel
theorem dX10_changes_61 : decode cX10_changes 61 = .ok (.iconst 0, 1) := by decide +kernel
theorem dX10_changes_62 : decode cX10_changes 62 = .ok (.istore_n 2, 1) := by decide +kernel
theorem dX10_changes_63 : decode cX10_changes 63 = .ok (.iload_n 2, 1) := by decide +kernel
theorem dX10_changes_64 : decode cX10_changes 64 = .ok (.bipush 6, 2) := by decide +kernel
theorem dX10_changes_66 : decode cX10_changes 66 = .ok (.if_icmp .ge 47, 3) := by decide +kernel
theorem dX10_changes_69 : decode cX10_changes 69 = .ok (.iload_n 1, 1) := by decide +kernel
theorem dX10_changes_70 : decode cX10_changes 70 = .ok (.ifCond .ne 19, 3) := by decide +kernel
theorem dX10_changes_73 : decode cX10_changes 73 = .ok (.aload_n 0, 1) := by decide +kernel
theorem dX10_changes_74 : decode cX10_changes 74 = .ok (.getfield 128, 3) := by decide +kernel
theorem dX10_changes_77 : decode cX10_changes 77 = .ok (.iload_n 2, 1) := by decide +kernel
theorem dX10_changes_78 : decode cX10_changes 78 = .ok (.laload, 1) := by decide +kernel
theorem dX10_changes_79 : decode cX10_changes 79 = .ok (.aload_n 0, 1) := by decide +kernel
theorem dX10_changes_80 : decode cX10_changes 80 = .ok (.getfield 125, 3) := by decide +kernel
theorem dX10_changes_83 : decode cX10_changes 83 = .ok (.iload_n 2, 1) := by decide +kernel
theorem dX10_changes_84 : decode cX10_changes 84 = .ok (.laload, 1) := by decide +kernel
theorem dX10_changes_85 : decode cX10_changes 85 = .ok (.lcmp, 1) := by decide +kernel
theorem dX10_changes_86 : decode cX10_changes 86 = .ok (.ifCond .eq 7, 3) := by decide +kernel
theorem dX10_changes_89 : decode cX10_changes 89 = .ok (.iconst 1, 1) := by decide +kernel
theorem dX10_changes_90 : decode cX10_changes 90 = .ok (.goto 4, 3) := by decide +kernel
theorem dX10_changes_93 : decode cX10_changes 93 = .ok (.iconst 0, 1) := by decide +kernel
theorem dX10_changes_94 : decode cX10_changes 94 = .ok (.istore_n 1, 1) := by decide +kernel
theorem dX10_changes_95 : decode cX10_changes 95 = .ok (.aload_n 0, 1) := by decide +kernel
theorem dX10_changes_96 : decode cX10_changes 96 = .ok (.getfield 125, 3) := by decide +kernel
theorem dX10_changes_99 : decode cX10_changes 99 = .ok (.iload_n 2, 1) := by decide +kernel
theorem dX10_changes_100 : decode cX10_changes 100 = .ok (.aload_n 0, 1) := by decide +kernel
theorem dX10_changes_101 : decode cX10_changes 101 = .ok (.getfield 128, 3) := by decide +kernel
theorem dX10_changes_104 : decode cX10_changes 104 = .ok (.iload_n 2, 1) := by decide +kernel
theorem dX10_changes_105 : decode cX10_changes 105 = .ok (.laload, 1) := by decide +kernel
theorem dX10_changes_106 : decode cX10_changes 106 = .ok (.lastore, 1) := by decide +kernel
theorem dX10_changes_107 : decode cX10_changes 107 = .ok (.iinc 2 1, 3) := by decide +kernel
theorem dX10_changes_110 : decode cX10_changes 110 = .ok (.goto (-47), 3) := by decide +kernel
theorem dX10_changes_113 : decode cX10_changes 113 = .ok (.iload_n 1, 1) := by decide +kernel
theorem dX10_changes_114 : decode cX10_changes 114 = .ok (.ireturn, 1) := by decide +kernel
theorem dX10_reinsurer_0 : decode cX10_reinsurer 0 = .ok (.iload_n 1, 1) := by decide +kernel
theorem dX10_reinsurer_1 : decode cX10_reinsurer 1 = .ok (.invokestatic 182, 3) := by decide +kernel
theorem dX10_reinsurer_4 : decode cX10_reinsurer 4 = .ok (.istore_n 3, 1) := by decide +kernel
theorem dX10_reinsurer_5 : decode cX10_reinsurer 5 = .ok (.aload_n 0, 1) := by decide +kernel
theorem dX10_reinsurer_6 : decode cX10_reinsurer 6 = .ok (.iload_n 3, 1) := by decide +kernel
theorem dX10_reinsurer_7 : decode cX10_reinsurer 7 = .ok (.ifCond .ne 7, 3) := by decide +kernel
theorem dX10_reinsurer_10 : decode cX10_reinsurer 10 = .ok (.iconst 1, 1) := by decide +kernel
theorem dX10_reinsurer_11 : decode cX10_reinsurer 11 = .ok (.goto 17, 3) := by decide +kernel
theorem dX10_reinsurer_14 : decode cX10_reinsurer 14 = .ok (.iload_n 2, 1) := by decide +kernel
theorem dX10_reinsurer_15 : decode cX10_reinsurer 15 = .ok (.iconst 0, 1) := by decide +kernel
theorem dX10_reinsurer_16 : decode cX10_reinsurer 16 = .ok (.iconst 2, 1) := by decide +kernel
theorem dX10_reinsurer_17 : decode cX10_reinsurer 17 = .ok (.invokestatic 141, 3) := by decide +kernel
theorem dX10_reinsurer_20 : decode cX10_reinsurer 20 = .ok (.ifCond .eq 7, 3) := by decide +kernel
theorem dX10_reinsurer_23 : decode cX10_reinsurer 23 = .ok (.iconst 0, 1) := by decide +kernel
theorem dX10_reinsurer_24 : decode cX10_reinsurer 24 = .ok (.goto 4, 3) := by decide +kernel
theorem dX10_reinsurer_27 : decode cX10_reinsurer 27 = .ok (.iconst 2, 1) := by decide +kernel
theorem dX10_reinsurer_28 : decode cX10_reinsurer 28 = .ok (.invokevirtual 156, 3) := by decide +kernel
theorem dX10_reinsurer_31 : decode cX10_reinsurer 31 = .ok (.ifCond .ne 5, 3) := by decide +kernel
theorem dX10_reinsurer_34 : decode cX10_reinsurer 34 = .ok (.iconst 0, 1) := by decide +kernel
theorem dX10_reinsurer_35 : decode cX10_reinsurer 35 = .ok (.ireturn, 1) := by decide +kernel
theorem dX10_reinsurer_36 : decode cX10_reinsurer 36 = .ok (.aload_n 0, 1) := by decide +kernel
theorem dX10_reinsurer_37 : decode cX10_reinsurer 37 = .ok (.invokevirtual 259, 3) := by decide +kernel
theorem dX10_reinsurer_40 : decode cX10_reinsurer 40 = .ok (.pop, 1) := by decide +kernel
theorem dX10_reinsurer_41 : decode cX10_reinsurer 41 = .ok (.iload_n 2, 1) := by decide +kernel
theorem dX10_reinsurer_42 : decode cX10_reinsurer 42 = .ok (.ifCond .ne 12, 3) := by decide +kernel
theorem dX10_reinsurer_45 : decode cX10_reinsurer 45 = .ok (.aload_n 0, 1) := by decide +kernel
theorem dX10_reinsurer_46 : decode cX10_reinsurer 46 = .ok (.getfield 121, 3) := by decide +kernel
theorem dX10_reinsurer_49 : decode cX10_reinsurer 49 = .ok (.iload_n 1, 1) := by decide +kernel
theorem dX10_reinsurer_50 : decode cX10_reinsurer 50 = .ok (.laload, 1) := by decide +kernel
theorem dX10_reinsurer_51 : decode cX10_reinsurer 51 = .ok (.goto 29, 3) := by decide +kernel
theorem dX10_reinsurer_54 : decode cX10_reinsurer 54 = .ok (.iload_n 2, 1) := by decide +kernel
theorem dX10_reinsurer_55 : decode cX10_reinsurer 55 = .ok (.iconst 1, 1) := by decide +kernel
theorem dX10_reinsurer_56 : decode cX10_reinsurer 56 = .ok (.if_icmp .ne 12, 3) := by decide +kernel
theorem dX10_reinsurer_59 : decode cX10_reinsurer 59 = .ok (.aload_n 0, 1) := by decide +kernel
theorem dX10_reinsurer_60 : decode cX10_reinsurer 60 = .ok (.getfield 125, 3) := by decide +kernel
theorem dX10_reinsurer_63 : decode cX10_reinsurer 63 = .ok (.iload_n 1, 1) := by decide +kernel
theorem dX10_reinsurer_64 : decode cX10_reinsurer 64 = .ok (.laload, 1) := by decide +kernel
theorem dX10_reinsurer_65 : decode cX10_reinsurer 65 = .ok (.goto 15, 3) := by decide +kernel
theorem dX10_reinsurer_68 : decode cX10_reinsurer 68 = .ok (.aload_n 0, 1) := by decide +kernel
theorem dX10_reinsurer_69 : decode cX10_reinsurer 69 = .ok (.getfield 125, 3) := by decide +kernel
theorem dX10_reinsurer_72 : decode cX10_reinsurer 72 = .ok (.iload_n 1, 1) := by decide +kernel
theorem dX10_reinsurer_73 : decode cX10_reinsurer 73 = .ok (.laload, 1) := by decide +kernel
theorem dX10_reinsurer_74 : decode cX10_reinsurer 74 = .ok (.aload_n 0, 1) := by decide +kernel
theorem dX10_reinsurer_75 : decode cX10_reinsurer 75 = .ok (.iload_n 1, 1) := by decide +kernel
theorem dX10_reinsurer_76 : decode cX10_reinsurer 76 = .ok (.invokevirtual 255, 3) := by decide +kernel
theorem dX10_reinsurer_79 : decode cX10_reinsurer 79 = .ok (.lsub, 1) := by decide +kernel
theorem dX10_reinsurer_80 : decode cX10_reinsurer 80 = .ok (.l2i, 1) := by decide +kernel
theorem dX10_reinsurer_81 : decode cX10_reinsurer 81 = .ok (.ireturn, 1) := by decide +kernel
theorem dX10_rounds_0 : decode cX10_rounds 0 = .ok (.aload_n 0, 1) := by decide +kernel
theorem dX10_rounds_1 : decode cX10_rounds 1 = .ok (.iconst 0, 1) := by decide +kernel
theorem dX10_rounds_2 : decode cX10_rounds 2 = .ok (.putfield 137, 3) := by decide +kernel
theorem dX10_rounds_5 : decode cX10_rounds 5 = .ok (.aload_n 0, 1) := by decide +kernel
theorem dX10_rounds_6 : decode cX10_rounds 6 = .ok (.invokevirtual 259, 3) := by decide +kernel
theorem dX10_rounds_9 : decode cX10_rounds 9 = .ok (.ireturn, 1) := by decide +kernel
theorem dX10_layHours_0 : decode cX10_layHours 0 = .ok (.iconst 0, 1) := by decide +kernel
theorem dX10_layHours_1 : decode cX10_layHours 1 = .ok (.istore_n 2, 1) := by decide +kernel
theorem dX10_layHours_2 : decode cX10_layHours 2 = .ok (.iconst 0, 1) := by decide +kernel
theorem dX10_layHours_3 : decode cX10_layHours 3 = .ok (.istore_n 3, 1) := by decide +kernel
theorem dX10_layHours_4 : decode cX10_layHours 4 = .ok (.iload_n 3, 1) := by decide +kernel
theorem dX10_layHours_5 : decode cX10_layHours 5 = .ok (.sipush 2199, 3) := by decide +kernel
theorem dX10_layHours_8 : decode cX10_layHours 8 = .ok (.if_icmp .gt 79, 3) := by decide +kernel
theorem dX10_layHours_11 : decode cX10_layHours 11 = .ok (.iconst 0, 1) := by decide +kernel
theorem dX10_layHours_12 : decode cX10_layHours 12 = .ok (.istore 4, 2) := by decide +kernel
theorem dX10_layHours_14 : decode cX10_layHours 14 = .ok (.iconst 0, 1) := by decide +kernel
theorem dX10_layHours_15 : decode cX10_layHours 15 = .ok (.istore 5, 2) := by decide +kernel
theorem dX10_layHours_17 : decode cX10_layHours 17 = .ok (.iload 5, 2) := by decide +kernel
theorem dX10_layHours_19 : decode cX10_layHours 19 = .ok (.aload_n 0, 1) := by decide +kernel
theorem dX10_layHours_20 : decode cX10_layHours 20 = .ok (.getfield 153, 3) := by decide +kernel
theorem dX10_layHours_23 : decode cX10_layHours 23 = .ok (.if_icmp .ge 43, 3) := by decide +kernel
theorem dX10_layHours_26 : decode cX10_layHours 26 = .ok (.iload 4, 2) := by decide +kernel
theorem dX10_layHours_28 : decode cX10_layHours 28 = .ok (.ifCond .ne 25, 3) := by decide +kernel
theorem dX10_layHours_31 : decode cX10_layHours 31 = .ok (.aload_n 0, 1) := by decide +kernel
theorem dX10_layHours_32 : decode cX10_layHours 32 = .ok (.getfield 7, 3) := by decide +kernel
theorem dX10_layHours_35 : decode cX10_layHours 35 = .ok (.iload 5, 2) := by decide +kernel
theorem dX10_layHours_37 : decode cX10_layHours 37 = .ok (.iaload, 1) := by decide +kernel
theorem dX10_layHours_38 : decode cX10_layHours 38 = .ok (.iload_n 1, 1) := by decide +kernel
theorem dX10_layHours_39 : decode cX10_layHours 39 = .ok (.if_icmp .ne 18, 3) := by decide +kernel
theorem dX10_layHours_42 : decode cX10_layHours 42 = .ok (.aload_n 0, 1) := by decide +kernel
theorem dX10_layHours_43 : decode cX10_layHours 43 = .ok (.getfield 13, 3) := by decide +kernel
theorem dX10_layHours_46 : decode cX10_layHours 46 = .ok (.iload 5, 2) := by decide +kernel
theorem dX10_layHours_48 : decode cX10_layHours 48 = .ok (.iaload, 1) := by decide +kernel
theorem dX10_layHours_49 : decode cX10_layHours 49 = .ok (.iload_n 3, 1) := by decide +kernel
theorem dX10_layHours_50 : decode cX10_layHours 50 = .ok (.if_icmp .ne 7, 3) := by decide +kernel
theorem dX10_layHours_53 : decode cX10_layHours 53 = .ok (.iconst 1, 1) := by decide +kernel
theorem dX10_layHours_54 : decode cX10_layHours 54 = .ok (.goto 4, 3) := by decide +kernel
theorem dX10_layHours_57 : decode cX10_layHours 57 = .ok (.iconst 0, 1) := by decide +kernel
theorem dX10_layHours_58 : decode cX10_layHours 58 = .ok (.istore 4, 2) := by decide +kernel
theorem dX10_layHours_60 : decode cX10_layHours 60 = .ok (.iinc 5 1, 3) := by decide +kernel
theorem dX10_layHours_63 : decode cX10_layHours 63 = .ok (.goto (-46), 3) := by decide +kernel
theorem dX10_layHours_66 : decode cX10_layHours 66 = .ok (.iload 4, 2) := by decide +kernel
theorem dX10_layHours_68 : decode cX10_layHours 68 = .ok (.ifCond .eq 13, 3) := by decide +kernel
theorem dX10_layHours_71 : decode cX10_layHours 71 = .ok (.aload_n 0, 1) := by decide +kernel
theorem dX10_layHours_72 : decode cX10_layHours 72 = .ok (.getfield 131, 3) := by decide +kernel
theorem dX10_layHours_75 : decode cX10_layHours 75 = .ok (.iload_n 2, 1) := by decide +kernel
theorem dX10_layHours_76 : decode cX10_layHours 76 = .ok (.iload_n 3, 1) := by decide +kernel
theorem dX10_layHours_77 : decode cX10_layHours 77 = .ok (.iastore, 1) := by decide +kernel
theorem dX10_layHours_78 : decode cX10_layHours 78 = .ok (.iinc 2 1, 3) := by decide +kernel
theorem dX10_layHours_81 : decode cX10_layHours 81 = .ok (.iinc 3 1, 3) := by decide +kernel
theorem dX10_layHours_84 : decode cX10_layHours 84 = .ok (.goto (-80), 3) := by decide +kernel
theorem dX10_layHours_87 : decode cX10_layHours 87 = .ok (.iload_n 2, 1) := by decide +kernel
theorem dX10_layHours_88 : decode cX10_layHours 88 = .ok (.ireturn, 1) := by decide +kernel
theorem dX10_paidFor_0 : decode cX10_paidFor 0 = .ok (.iconst 0, 1) := by decide +kernel
theorem dX10_paidFor_1 : decode cX10_paidFor 1 = .ok (.istore 4, 2) := by decide +kernel
theorem dX10_paidFor_3 : decode cX10_paidFor 3 = .ok (.iconst 0, 1) := by decide +kernel
theorem dX10_paidFor_4 : decode cX10_paidFor 4 = .ok (.istore 5, 2) := by decide +kernel
theorem dX10_paidFor_6 : decode cX10_paidFor 6 = .ok (.iload 5, 2) := by decide +kernel
theorem dX10_paidFor_8 : decode cX10_paidFor 8 = .ok (.aload_n 0, 1) := by decide +kernel
theorem dX10_paidFor_9 : decode cX10_paidFor 9 = .ok (.getfield 153, 3) := by decide +kernel
theorem dX10_paidFor_12 : decode cX10_paidFor 12 = .ok (.if_icmp .ge 51, 3) := by decide +kernel
theorem dX10_paidFor_15 : decode cX10_paidFor 15 = .ok (.iload 4, 2) := by decide +kernel
theorem dX10_paidFor_17 : decode cX10_paidFor 17 = .ok (.aload_n 0, 1) := by decide +kernel
theorem dX10_paidFor_18 : decode cX10_paidFor 18 = .ok (.getfield 7, 3) := by decide +kernel
theorem dX10_paidFor_21 : decode cX10_paidFor 21 = .ok (.iload 5, 2) := by decide +kernel
theorem dX10_paidFor_23 : decode cX10_paidFor 23 = .ok (.iaload, 1) := by decide +kernel
theorem dX10_paidFor_24 : decode cX10_paidFor 24 = .ok (.iload_n 1, 1) := by decide +kernel
theorem dX10_paidFor_25 : decode cX10_paidFor 25 = .ok (.if_icmp .ne 28, 3) := by decide +kernel
theorem dX10_paidFor_28 : decode cX10_paidFor 28 = .ok (.aload_n 0, 1) := by decide +kernel
theorem dX10_paidFor_29 : decode cX10_paidFor 29 = .ok (.getfield 13, 3) := by decide +kernel
theorem dX10_paidFor_32 : decode cX10_paidFor 32 = .ok (.iload 5, 2) := by decide +kernel
theorem dX10_paidFor_34 : decode cX10_paidFor 34 = .ok (.iaload, 1) := by decide +kernel
theorem dX10_paidFor_35 : decode cX10_paidFor 35 = .ok (.iload_n 2, 1) := by decide +kernel
theorem dX10_paidFor_36 : decode cX10_paidFor 36 = .ok (.iload_n 3, 1) := by decide +kernel
theorem dX10_paidFor_37 : decode cX10_paidFor 37 = .ok (.invokestatic 141, 3) := by decide +kernel
theorem dX10_paidFor_40 : decode cX10_paidFor 40 = .ok (.ifCond .eq 13, 3) := by decide +kernel
theorem dX10_paidFor_43 : decode cX10_paidFor 43 = .ok (.aload_n 0, 1) := by decide +kernel
theorem dX10_paidFor_44 : decode cX10_paidFor 44 = .ok (.getfield 16, 3) := by decide +kernel
theorem dX10_paidFor_47 : decode cX10_paidFor 47 = .ok (.iload 5, 2) := by decide +kernel
theorem dX10_paidFor_49 : decode cX10_paidFor 49 = .ok (.iaload, 1) := by decide +kernel
theorem dX10_paidFor_50 : decode cX10_paidFor 50 = .ok (.goto 4, 3) := by decide +kernel
theorem dX10_paidFor_53 : decode cX10_paidFor 53 = .ok (.iconst 0, 1) := by decide +kernel
theorem dX10_paidFor_54 : decode cX10_paidFor 54 = .ok (.iadd, 1) := by decide +kernel
theorem dX10_paidFor_55 : decode cX10_paidFor 55 = .ok (.istore 4, 2) := by decide +kernel
theorem dX10_paidFor_57 : decode cX10_paidFor 57 = .ok (.iinc 5 1, 3) := by decide +kernel
theorem dX10_paidFor_60 : decode cX10_paidFor 60 = .ok (.goto (-54), 3) := by decide +kernel
theorem dX10_paidFor_63 : decode cX10_paidFor 63 = .ok (.lconst 0, 1) := by decide +kernel
theorem dX10_paidFor_64 : decode cX10_paidFor 64 = .ok (.lstore 5, 2) := by decide +kernel
theorem dX10_paidFor_66 : decode cX10_paidFor 66 = .ok (.iconst 0, 1) := by decide +kernel
theorem dX10_paidFor_67 : decode cX10_paidFor 67 = .ok (.istore 7, 2) := by decide +kernel
theorem dX10_paidFor_69 : decode cX10_paidFor 69 = .ok (.iload 7, 2) := by decide +kernel
theorem dX10_paidFor_71 : decode cX10_paidFor 71 = .ok (.aload_n 0, 1) := by decide +kernel
theorem dX10_paidFor_72 : decode cX10_paidFor 72 = .ok (.getfield 176, 3) := by decide +kernel
theorem dX10_paidFor_75 : decode cX10_paidFor 75 = .ok (.if_icmp .ge 36, 3) := by decide +kernel
theorem dX10_paidFor_78 : decode cX10_paidFor 78 = .ok (.lload 5, 2) := by decide +kernel
theorem dX10_paidFor_80 : decode cX10_paidFor 80 = .ok (.aload_n 0, 1) := by decide +kernel
theorem dX10_paidFor_81 : decode cX10_paidFor 81 = .ok (.iload 7, 2) := by decide +kernel
theorem dX10_paidFor_83 : decode cX10_paidFor 83 = .ok (.aload_n 0, 1) := by decide +kernel
theorem dX10_paidFor_84 : decode cX10_paidFor 84 = .ok (.iload 7, 2) := by decide +kernel
theorem dX10_paidFor_86 : decode cX10_paidFor 86 = .ok (.iload 4, 2) := by decide +kernel
theorem dX10_paidFor_88 : decode cX10_paidFor 88 = .ok (.aload_n 0, 1) := by decide +kernel
theorem dX10_paidFor_89 : decode cX10_paidFor 89 = .ok (.iload 4, 2) := by decide +kernel
theorem dX10_paidFor_91 : decode cX10_paidFor 91 = .ok (.invokevirtual 216, 3) := by decide +kernel
theorem dX10_paidFor_94 : decode cX10_paidFor 94 = .ok (.isub, 1) := by decide +kernel
theorem dX10_paidFor_95 : decode cX10_paidFor 95 = .ok (.invokevirtual 219, 3) := by decide +kernel
theorem dX10_paidFor_98 : decode cX10_paidFor 98 = .ok (.invokevirtual 236, 3) := by decide +kernel
theorem dX10_paidFor_101 : decode cX10_paidFor 101 = .ok (.i2l, 1) := by decide +kernel
theorem dX10_paidFor_102 : decode cX10_paidFor 102 = .ok (.ladd, 1) := by decide +kernel
theorem dX10_paidFor_103 : decode cX10_paidFor 103 = .ok (.lstore 5, 2) := by decide +kernel
theorem dX10_paidFor_105 : decode cX10_paidFor 105 = .ok (.iinc 7 1, 3) := by decide +kernel
theorem dX10_paidFor_108 : decode cX10_paidFor 108 = .ok (.goto (-39), 3) := by decide +kernel
theorem dX10_paidFor_111 : decode cX10_paidFor 111 = .ok (.lload 5, 2) := by decide +kernel
theorem dX10_paidFor_113 : decode cX10_paidFor 113 = .ok (.lreturn, 1) := by decide +kernel
theorem dX10_bestOf_0 : decode cX10_bestOf 0 = .ok (.aload_n 0, 1) := by decide +kernel
theorem dX10_bestOf_1 : decode cX10_bestOf 1 = .ok (.getfield 134, 3) := by decide +kernel
theorem dX10_bestOf_4 : decode cX10_bestOf 4 = .ok (.iload_n 2, 1) := by decide +kernel
theorem dX10_bestOf_5 : decode cX10_bestOf 5 = .ok (.lconst 0, 1) := by decide +kernel
theorem dX10_bestOf_6 : decode cX10_bestOf 6 = .ok (.lastore, 1) := by decide +kernel
theorem dX10_bestOf_7 : decode cX10_bestOf 7 = .ok (.iload_n 2, 1) := by decide +kernel
theorem dX10_bestOf_8 : decode cX10_bestOf 8 = .ok (.iconst 1, 1) := by decide +kernel
theorem dX10_bestOf_9 : decode cX10_bestOf 9 = .ok (.isub, 1) := by decide +kernel
theorem dX10_bestOf_10 : decode cX10_bestOf 10 = .ok (.istore_n 3, 1) := by decide +kernel
theorem dX10_bestOf_11 : decode cX10_bestOf 11 = .ok (.iload_n 3, 1) := by decide +kernel
theorem dX10_bestOf_12 : decode cX10_bestOf 12 = .ok (.ifCond .lt 118, 3) := by decide +kernel
theorem dX10_bestOf_15 : decode cX10_bestOf 15 = .ok (.aload_n 0, 1) := by decide +kernel
theorem dX10_bestOf_16 : decode cX10_bestOf 16 = .ok (.getfield 134, 3) := by decide +kernel
theorem dX10_bestOf_19 : decode cX10_bestOf 19 = .ok (.iload_n 3, 1) := by decide +kernel
theorem dX10_bestOf_20 : decode cX10_bestOf 20 = .ok (.aload_n 0, 1) := by decide +kernel
theorem dX10_bestOf_21 : decode cX10_bestOf 21 = .ok (.getfield 134, 3) := by decide +kernel
theorem dX10_bestOf_24 : decode cX10_bestOf 24 = .ok (.iload_n 3, 1) := by decide +kernel
theorem dX10_bestOf_25 : decode cX10_bestOf 25 = .ok (.iconst 1, 1) := by decide +kernel
theorem dX10_bestOf_26 : decode cX10_bestOf 26 = .ok (.iadd, 1) := by decide +kernel
theorem dX10_bestOf_27 : decode cX10_bestOf 27 = .ok (.laload, 1) := by decide +kernel
theorem dX10_bestOf_28 : decode cX10_bestOf 28 = .ok (.lastore, 1) := by decide +kernel
theorem dX10_bestOf_29 : decode cX10_bestOf 29 = .ok (.iload_n 3, 1) := by decide +kernel
theorem dX10_bestOf_30 : decode cX10_bestOf 30 = .ok (.istore 4, 2) := by decide +kernel
theorem dX10_bestOf_32 : decode cX10_bestOf 32 = .ok (.iload 4, 2) := by decide +kernel
theorem dX10_bestOf_34 : decode cX10_bestOf 34 = .ok (.iload_n 2, 1) := by decide +kernel
theorem dX10_bestOf_35 : decode cX10_bestOf 35 = .ok (.if_icmp .ge 89, 3) := by decide +kernel
theorem dX10_bestOf_38 : decode cX10_bestOf 38 = .ok (.aload_n 0, 1) := by decide +kernel
theorem dX10_bestOf_39 : decode cX10_bestOf 39 = .ok (.getfield 131, 3) := by decide +kernel
theorem dX10_bestOf_42 : decode cX10_bestOf 42 = .ok (.iload 4, 2) := by decide +kernel
theorem dX10_bestOf_44 : decode cX10_bestOf 44 = .ok (.iaload, 1) := by decide +kernel
theorem dX10_bestOf_45 : decode cX10_bestOf 45 = .ok (.aload_n 0, 1) := by decide +kernel
theorem dX10_bestOf_46 : decode cX10_bestOf 46 = .ok (.getfield 131, 3) := by decide +kernel
theorem dX10_bestOf_49 : decode cX10_bestOf 49 = .ok (.iload_n 3, 1) := by decide +kernel
theorem dX10_bestOf_50 : decode cX10_bestOf 50 = .ok (.iaload, 1) := by decide +kernel
theorem dX10_bestOf_51 : decode cX10_bestOf 51 = .ok (.isub, 1) := by decide +kernel
theorem dX10_bestOf_52 : decode cX10_bestOf 52 = .ok (.iload_n 1, 1) := by decide +kernel
theorem dX10_bestOf_53 : decode cX10_bestOf 53 = .ok (.invokestatic 159, 3) := by decide +kernel
theorem dX10_bestOf_56 : decode cX10_bestOf 56 = .ok (.if_icmp .ge 68, 3) := by decide +kernel
theorem dX10_bestOf_59 : decode cX10_bestOf 59 = .ok (.aload_n 0, 1) := by decide +kernel
theorem dX10_bestOf_60 : decode cX10_bestOf 60 = .ok (.iload_n 1, 1) := by decide +kernel
theorem dX10_bestOf_61 : decode cX10_bestOf 61 = .ok (.aload_n 0, 1) := by decide +kernel
theorem dX10_bestOf_62 : decode cX10_bestOf 62 = .ok (.getfield 131, 3) := by decide +kernel
theorem dX10_bestOf_65 : decode cX10_bestOf 65 = .ok (.iload_n 3, 1) := by decide +kernel
theorem dX10_bestOf_66 : decode cX10_bestOf 66 = .ok (.iaload, 1) := by decide +kernel
theorem dX10_bestOf_67 : decode cX10_bestOf 67 = .ok (.aload_n 0, 1) := by decide +kernel
theorem dX10_bestOf_68 : decode cX10_bestOf 68 = .ok (.getfield 131, 3) := by decide +kernel
theorem dX10_bestOf_71 : decode cX10_bestOf 71 = .ok (.iload 4, 2) := by decide +kernel
theorem dX10_bestOf_73 : decode cX10_bestOf 73 = .ok (.iaload, 1) := by decide +kernel
theorem dX10_bestOf_74 : decode cX10_bestOf 74 = .ok (.invokevirtual 263, 3) := by decide +kernel
theorem dX10_bestOf_77 : decode cX10_bestOf 77 = .ok (.aload_n 0, 1) := by decide +kernel
theorem dX10_bestOf_78 : decode cX10_bestOf 78 = .ok (.getfield 134, 3) := by decide +kernel
theorem dX10_bestOf_81 : decode cX10_bestOf 81 = .ok (.iload 4, 2) := by decide +kernel
theorem dX10_bestOf_83 : decode cX10_bestOf 83 = .ok (.iconst 1, 1) := by decide +kernel
theorem dX10_bestOf_84 : decode cX10_bestOf 84 = .ok (.iadd, 1) := by decide +kernel
theorem dX10_bestOf_85 : decode cX10_bestOf 85 = .ok (.laload, 1) := by decide +kernel
theorem dX10_bestOf_86 : decode cX10_bestOf 86 = .ok (.ladd, 1) := by decide +kernel
theorem dX10_bestOf_87 : decode cX10_bestOf 87 = .ok (.lstore 5, 2) := by decide +kernel
theorem dX10_bestOf_89 : decode cX10_bestOf 89 = .ok (.aload_n 0, 1) := by decide +kernel
theorem dX10_bestOf_90 : decode cX10_bestOf 90 = .ok (.getfield 134, 3) := by decide +kernel
theorem dX10_bestOf_93 : decode cX10_bestOf 93 = .ok (.iload_n 3, 1) := by decide +kernel
theorem dX10_bestOf_94 : decode cX10_bestOf 94 = .ok (.lload 5, 2) := by decide +kernel
theorem dX10_bestOf_96 : decode cX10_bestOf 96 = .ok (.aload_n 0, 1) := by decide +kernel
theorem dX10_bestOf_97 : decode cX10_bestOf 97 = .ok (.getfield 134, 3) := by decide +kernel
theorem dX10_bestOf_100 : decode cX10_bestOf 100 = .ok (.iload_n 3, 1) := by decide +kernel
theorem dX10_bestOf_101 : decode cX10_bestOf 101 = .ok (.laload, 1) := by decide +kernel
theorem dX10_bestOf_102 : decode cX10_bestOf 102 = .ok (.lcmp, 1) := by decide +kernel
theorem dX10_bestOf_103 : decode cX10_bestOf 103 = .ok (.ifCond .le 8, 3) := by decide +kernel
theorem dX10_bestOf_106 : decode cX10_bestOf 106 = .ok (.lload 5, 2) := by decide +kernel
theorem dX10_bestOf_108 : decode cX10_bestOf 108 = .ok (.goto 9, 3) := by decide +kernel
theorem dX10_bestOf_111 : decode cX10_bestOf 111 = .ok (.aload_n 0, 1) := by decide +kernel
theorem dX10_bestOf_112 : decode cX10_bestOf 112 = .ok (.getfield 134, 3) := by decide +kernel
theorem dX10_bestOf_115 : decode cX10_bestOf 115 = .ok (.iload_n 3, 1) := by decide +kernel
theorem dX10_bestOf_116 : decode cX10_bestOf 116 = .ok (.laload, 1) := by decide +kernel
theorem dX10_bestOf_117 : decode cX10_bestOf 117 = .ok (.lastore, 1) := by decide +kernel
theorem dX10_bestOf_118 : decode cX10_bestOf 118 = .ok (.iinc 4 1, 3) := by decide +kernel
theorem dX10_bestOf_121 : decode cX10_bestOf 121 = .ok (.goto (-89), 3) := by decide +kernel
theorem dX10_bestOf_124 : decode cX10_bestOf 124 = .ok (.iinc 3 (-1), 3) := by decide +kernel
theorem dX10_bestOf_127 : decode cX10_bestOf 127 = .ok (.goto (-116), 3) := by decide +kernel
theorem dX10_bestOf_130 : decode cX10_bestOf 130 = .ok (.aload_n 0, 1) := by decide +kernel
theorem dX10_bestOf_131 : decode cX10_bestOf 131 = .ok (.getfield 134, 3) := by decide +kernel
theorem dX10_bestOf_134 : decode cX10_bestOf 134 = .ok (.iconst 0, 1) := by decide +kernel
theorem dX10_bestOf_135 : decode cX10_bestOf 135 = .ok (.laload, 1) := by decide +kernel
theorem dX10_bestOf_136 : decode cX10_bestOf 136 = .ok (.l2i, 1) := by decide +kernel
theorem dX10_bestOf_137 : decode cX10_bestOf 137 = .ok (.ireturn, 1) := by decide +kernel
theorem dX10_best_0 : decode cX10_best 0 = .ok (.aload_n 0, 1) := by decide +kernel
theorem dX10_best_1 : decode cX10_best 1 = .ok (.iload_n 1, 1) := by decide +kernel
theorem dX10_best_2 : decode cX10_best 2 = .ok (.invokestatic 145, 3) := by decide +kernel
theorem dX10_best_5 : decode cX10_best 5 = .ok (.ifCond .eq 7, 3) := by decide +kernel
theorem dX10_best_8 : decode cX10_best 8 = .ok (.iconst 0, 1) := by decide +kernel
theorem dX10_best_9 : decode cX10_best 9 = .ok (.goto 4, 3) := by decide +kernel
theorem dX10_best_12 : decode cX10_best 12 = .ok (.iconst 1, 1) := by decide +kernel
theorem dX10_best_13 : decode cX10_best 13 = .ok (.invokevirtual 156, 3) := by decide +kernel
theorem dX10_best_16 : decode cX10_best 16 = .ok (.ifCond .eq 16, 3) := by decide +kernel
theorem dX10_best_19 : decode cX10_best 19 = .ok (.aload_n 0, 1) := by decide +kernel
theorem dX10_best_20 : decode cX10_best 20 = .ok (.iload_n 1, 1) := by decide +kernel
theorem dX10_best_21 : decode cX10_best 21 = .ok (.aload_n 0, 1) := by decide +kernel
theorem dX10_best_22 : decode cX10_best 22 = .ok (.iload_n 1, 1) := by decide +kernel
theorem dX10_best_23 : decode cX10_best 23 = .ok (.invokevirtual 267, 3) := by decide +kernel
theorem dX10_best_26 : decode cX10_best 26 = .ok (.invokevirtual 270, 3) := by decide +kernel
theorem dX10_best_29 : decode cX10_best 29 = .ok (.goto 4, 3) := by decide +kernel
theorem dX10_best_32 : decode cX10_best 32 = .ok (.iconst 0, 1) := by decide +kernel
theorem dX10_best_33 : decode cX10_best 33 = .ok (.ireturn, 1) := by decide +kernel
theorem dX10_bestAnew_0 : decode cX10_bestAnew 0 = .ok (.iload_n 1, 1) := by decide +kernel
theorem dX10_bestAnew_1 : decode cX10_bestAnew 1 = .ok (.invokestatic 145, 3) := by decide +kernel
theorem dX10_bestAnew_4 : decode cX10_bestAnew 4 = .ok (.istore_n 2, 1) := by decide +kernel
theorem dX10_bestAnew_5 : decode cX10_bestAnew 5 = .ok (.iload_n 2, 1) := by decide +kernel
theorem dX10_bestAnew_6 : decode cX10_bestAnew 6 = .ok (.ifCond .eq 11, 3) := by decide +kernel
theorem dX10_bestAnew_9 : decode cX10_bestAnew 9 = .ok (.aload_n 0, 1) := by decide +kernel
theorem dX10_bestAnew_10 : decode cX10_bestAnew 10 = .ok (.iload_n 1, 1) := by decide +kernel
theorem dX10_bestAnew_11 : decode cX10_bestAnew 11 = .ok (.invokevirtual 267, 3) := by decide +kernel
theorem dX10_bestAnew_14 : decode cX10_bestAnew 14 = .ok (.goto 4, 3) := by decide +kernel
theorem dX10_bestAnew_17 : decode cX10_bestAnew 17 = .ok (.iconst 0, 1) := by decide +kernel
theorem dX10_bestAnew_18 : decode cX10_bestAnew 18 = .ok (.istore_n 3, 1) := by decide +kernel
theorem dX10_bestAnew_19 : decode cX10_bestAnew 19 = .ok (.aload_n 0, 1) := by decide +kernel
theorem dX10_bestAnew_20 : decode cX10_bestAnew 20 = .ok (.iload_n 2, 1) := by decide +kernel
theorem dX10_bestAnew_21 : decode cX10_bestAnew 21 = .ok (.ifCond .ne 7, 3) := by decide +kernel
theorem dX10_bestAnew_24 : decode cX10_bestAnew 24 = .ok (.iconst 1, 1) := by decide +kernel
theorem dX10_bestAnew_25 : decode cX10_bestAnew 25 = .ok (.goto 14, 3) := by decide +kernel
theorem dX10_bestAnew_28 : decode cX10_bestAnew 28 = .ok (.iload_n 3, 1) := by decide +kernel
theorem dX10_bestAnew_29 : decode cX10_bestAnew 29 = .ok (.bipush 7, 2) := by decide +kernel
theorem dX10_bestAnew_31 : decode cX10_bestAnew 31 = .ok (.if_icmp .le 7, 3) := by decide +kernel
theorem dX10_bestAnew_34 : decode cX10_bestAnew 34 = .ok (.iconst 2, 1) := by decide +kernel
theorem dX10_bestAnew_35 : decode cX10_bestAnew 35 = .ok (.goto 4, 3) := by decide +kernel
theorem dX10_bestAnew_38 : decode cX10_bestAnew 38 = .ok (.iconst 0, 1) := by decide +kernel
theorem dX10_bestAnew_39 : decode cX10_bestAnew 39 = .ok (.invokevirtual 156, 3) := by decide +kernel
theorem dX10_bestAnew_42 : decode cX10_bestAnew 42 = .ok (.ifCond .eq 12, 3) := by decide +kernel
theorem dX10_bestAnew_45 : decode cX10_bestAnew 45 = .ok (.aload_n 0, 1) := by decide +kernel
theorem dX10_bestAnew_46 : decode cX10_bestAnew 46 = .ok (.iload_n 1, 1) := by decide +kernel
theorem dX10_bestAnew_47 : decode cX10_bestAnew 47 = .ok (.iload_n 3, 1) := by decide +kernel
theorem dX10_bestAnew_48 : decode cX10_bestAnew 48 = .ok (.invokevirtual 270, 3) := by decide +kernel
theorem dX10_bestAnew_51 : decode cX10_bestAnew 51 = .ok (.goto 4, 3) := by decide +kernel
theorem dX10_bestAnew_54 : decode cX10_bestAnew 54 = .ok (.iconst 0, 1) := by decide +kernel
theorem dX10_bestAnew_55 : decode cX10_bestAnew 55 = .ok (.ireturn, 1) := by decide +kernel
theorem dX10_isInBox_0 : decode cX10_isInBox 0 = .ok (.aload_n 0, 1) := by decide +kernel
theorem dX10_isInBox_1 : decode cX10_isInBox 1 = .ok (.getfield 82, 3) := by decide +kernel
theorem dX10_isInBox_4 : decode cX10_isInBox 4 = .ok (.iload_n 2, 1) := by decide +kernel
theorem dX10_isInBox_5 : decode cX10_isInBox 5 = .ok (.iaload, 1) := by decide +kernel
theorem dX10_isInBox_6 : decode cX10_isInBox 6 = .ok (.aload_n 0, 1) := by decide +kernel
theorem dX10_isInBox_7 : decode cX10_isInBox 7 = .ok (.getfield 58, 3) := by decide +kernel
theorem dX10_isInBox_10 : decode cX10_isInBox 10 = .ok (.iload_n 1, 1) := by decide +kernel
theorem dX10_isInBox_11 : decode cX10_isInBox 11 = .ok (.iaload, 1) := by decide +kernel
theorem dX10_isInBox_12 : decode cX10_isInBox 12 = .ok (.ishr, 1) := by decide +kernel
theorem dX10_isInBox_13 : decode cX10_isInBox 13 = .ok (.iconst 1, 1) := by decide +kernel
theorem dX10_isInBox_14 : decode cX10_isInBox 14 = .ok (.iand, 1) := by decide +kernel
theorem dX10_isInBox_15 : decode cX10_isInBox 15 = .ok (.iconst 1, 1) := by decide +kernel
theorem dX10_isInBox_16 : decode cX10_isInBox 16 = .ok (.if_icmp .ne 7, 3) := by decide +kernel
theorem dX10_isInBox_19 : decode cX10_isInBox 19 = .ok (.iconst 1, 1) := by decide +kernel
theorem dX10_isInBox_20 : decode cX10_isInBox 20 = .ok (.goto 4, 3) := by decide +kernel
theorem dX10_isInBox_23 : decode cX10_isInBox 23 = .ok (.iconst 0, 1) := by decide +kernel
theorem dX10_isInBox_24 : decode cX10_isInBox 24 = .ok (.ireturn, 1) := by decide +kernel
theorem dX10_lasts_0 : decode cX10_lasts 0 = .ok (.aload_n 0, 1) := by decide +kernel
theorem dX10_lasts_1 : decode cX10_lasts 1 = .ok (.getfield 61, 3) := by decide +kernel
theorem dX10_lasts_4 : decode cX10_lasts 4 = .ok (.iload_n 1, 1) := by decide +kernel
theorem dX10_lasts_5 : decode cX10_lasts 5 = .ok (.iaload, 1) := by decide +kernel
theorem dX10_lasts_6 : decode cX10_lasts 6 = .ok (.aload_n 0, 1) := by decide +kernel
theorem dX10_lasts_7 : decode cX10_lasts 7 = .ok (.getfield 88, 3) := by decide +kernel
theorem dX10_lasts_10 : decode cX10_lasts 10 = .ok (.iload_n 2, 1) := by decide +kernel
theorem dX10_lasts_11 : decode cX10_lasts 11 = .ok (.iaload, 1) := by decide +kernel
theorem dX10_lasts_12 : decode cX10_lasts 12 = .ok (.if_icmp .le 7, 3) := by decide +kernel
theorem dX10_lasts_15 : decode cX10_lasts 15 = .ok (.iconst 1, 1) := by decide +kernel
theorem dX10_lasts_16 : decode cX10_lasts 16 = .ok (.goto 4, 3) := by decide +kernel
theorem dX10_lasts_19 : decode cX10_lasts 19 = .ok (.iconst 0, 1) := by decide +kernel
theorem dX10_lasts_20 : decode cX10_lasts 20 = .ok (.ireturn, 1) := by decide +kernel
theorem dX10_far_0 : decode cX10_far 0 = .ok (.bipush 16, 2) := by decide +kernel
theorem dX10_far_2 : decode cX10_far 2 = .ok (.istore_n 3, 1) := by decide +kernel
theorem dX10_far_3 : decode cX10_far 3 = .ok (.iconst 0, 1) := by decide +kernel
theorem dX10_far_4 : decode cX10_far 4 = .ok (.istore 4, 2) := by decide +kernel
theorem dX10_far_6 : decode cX10_far 6 = .ok (.iload 4, 2) := by decide +kernel
theorem dX10_far_8 : decode cX10_far 8 = .ok (.bipush 16, 2) := by decide +kernel
theorem dX10_far_10 : decode cX10_far 10 = .ok (.if_icmp .ge 96, 3) := by decide +kernel
theorem dX10_far_13 : decode cX10_far 13 = .ok (.aload_n 0, 1) := by decide +kernel
theorem dX10_far_14 : decode cX10_far 14 = .ok (.getfield 58, 3) := by decide +kernel
theorem dX10_far_17 : decode cX10_far 17 = .ok (.iload_n 1, 1) := by decide +kernel
theorem dX10_far_18 : decode cX10_far 18 = .ok (.iaload, 1) := by decide +kernel
theorem dX10_far_19 : decode cX10_far 19 = .ok (.iconst 4, 1) := by decide +kernel
theorem dX10_far_20 : decode cX10_far 20 = .ok (.idiv, 1) := by decide +kernel
theorem dX10_far_21 : decode cX10_far 21 = .ok (.iload 4, 2) := by decide +kernel
theorem dX10_far_23 : decode cX10_far 23 = .ok (.iconst 4, 1) := by decide +kernel
theorem dX10_far_24 : decode cX10_far 24 = .ok (.idiv, 1) := by decide +kernel
theorem dX10_far_25 : decode cX10_far 25 = .ok (.isub, 1) := by decide +kernel
theorem dX10_far_26 : decode cX10_far 26 = .ok (.istore 5, 2) := by decide +kernel
theorem dX10_far_28 : decode cX10_far 28 = .ok (.aload_n 0, 1) := by decide +kernel
theorem dX10_far_29 : decode cX10_far 29 = .ok (.getfield 58, 3) := by decide +kernel
theorem dX10_far_32 : decode cX10_far 32 = .ok (.iload_n 1, 1) := by decide +kernel
theorem dX10_far_33 : decode cX10_far 33 = .ok (.iaload, 1) := by decide +kernel
theorem dX10_far_34 : decode cX10_far 34 = .ok (.iconst 4, 1) := by decide +kernel
theorem dX10_far_35 : decode cX10_far 35 = .ok (.irem, 1) := by decide +kernel
theorem dX10_far_36 : decode cX10_far 36 = .ok (.iload 4, 2) := by decide +kernel
theorem dX10_far_38 : decode cX10_far 38 = .ok (.iconst 4, 1) := by decide +kernel
theorem dX10_far_39 : decode cX10_far 39 = .ok (.irem, 1) := by decide +kernel
theorem dX10_far_40 : decode cX10_far 40 = .ok (.isub, 1) := by decide +kernel
theorem dX10_far_41 : decode cX10_far 41 = .ok (.istore 6, 2) := by decide +kernel
theorem dX10_far_43 : decode cX10_far 43 = .ok (.iload 5, 2) := by decide +kernel
theorem dX10_far_45 : decode cX10_far 45 = .ok (.ifCond .ge 9, 3) := by decide +kernel
theorem dX10_far_48 : decode cX10_far 48 = .ok (.iload 5, 2) := by decide +kernel
theorem dX10_far_50 : decode cX10_far 50 = .ok (.ineg, 1) := by decide +kernel
theorem dX10_far_51 : decode cX10_far 51 = .ok (.goto 5, 3) := by decide +kernel
theorem dX10_far_54 : decode cX10_far 54 = .ok (.iload 5, 2) := by decide +kernel
theorem dX10_far_56 : decode cX10_far 56 = .ok (.iload 6, 2) := by decide +kernel
theorem dX10_far_58 : decode cX10_far 58 = .ok (.ifCond .ge 9, 3) := by decide +kernel
theorem dX10_far_61 : decode cX10_far 61 = .ok (.iload 6, 2) := by decide +kernel
theorem dX10_far_63 : decode cX10_far 63 = .ok (.ineg, 1) := by decide +kernel
theorem dX10_far_64 : decode cX10_far 64 = .ok (.goto 5, 3) := by decide +kernel
theorem dX10_far_67 : decode cX10_far 67 = .ok (.iload 6, 2) := by decide +kernel
theorem dX10_far_69 : decode cX10_far 69 = .ok (.iadd, 1) := by decide +kernel
theorem dX10_far_70 : decode cX10_far 70 = .ok (.istore 7, 2) := by decide +kernel
theorem dX10_far_72 : decode cX10_far 72 = .ok (.aload_n 0, 1) := by decide +kernel
theorem dX10_far_73 : decode cX10_far 73 = .ok (.getfield 82, 3) := by decide +kernel
theorem dX10_far_76 : decode cX10_far 76 = .ok (.iload_n 2, 1) := by decide +kernel
theorem dX10_far_77 : decode cX10_far 77 = .ok (.iaload, 1) := by decide +kernel
theorem dX10_far_78 : decode cX10_far 78 = .ok (.iload 4, 2) := by decide +kernel
theorem dX10_far_80 : decode cX10_far 80 = .ok (.ishr, 1) := by decide +kernel
theorem dX10_far_81 : decode cX10_far 81 = .ok (.iconst 1, 1) := by decide +kernel
theorem dX10_far_82 : decode cX10_far 82 = .ok (.iand, 1) := by decide +kernel
theorem dX10_far_83 : decode cX10_far 83 = .ok (.iconst 1, 1) := by decide +kernel
theorem dX10_far_84 : decode cX10_far 84 = .ok (.if_icmp .ne 14, 3) := by decide +kernel
theorem dX10_far_87 : decode cX10_far 87 = .ok (.iload 7, 2) := by decide +kernel
theorem dX10_far_89 : decode cX10_far 89 = .ok (.iload_n 3, 1) := by decide +kernel
theorem dX10_far_90 : decode cX10_far 90 = .ok (.if_icmp .ge 8, 3) := by decide +kernel
theorem dX10_far_93 : decode cX10_far 93 = .ok (.iload 7, 2) := by decide +kernel
theorem dX10_far_95 : decode cX10_far 95 = .ok (.goto 4, 3) := by decide +kernel
theorem dX10_far_98 : decode cX10_far 98 = .ok (.iload_n 3, 1) := by decide +kernel
theorem dX10_far_99 : decode cX10_far 99 = .ok (.istore_n 3, 1) := by decide +kernel
theorem dX10_far_100 : decode cX10_far 100 = .ok (.iinc 4 1, 3) := by decide +kernel
theorem dX10_far_103 : decode cX10_far 103 = .ok (.goto (-97), 3) := by decide +kernel
theorem dX10_far_106 : decode cX10_far 106 = .ok (.iload_n 3, 1) := by decide +kernel
theorem dX10_far_107 : decode cX10_far 107 = .ok (.ireturn, 1) := by decide +kernel
theorem dX10_instead_0 : decode cX10_instead 0 = .ok (.iconst (-1), 1) := by decide +kernel
theorem dX10_instead_1 : decode cX10_instead 1 = .ok (.istore_n 2, 1) := by decide +kernel
theorem dX10_instead_2 : decode cX10_instead 2 = .ok (.iconst 0, 1) := by decide +kernel
theorem dX10_instead_3 : decode cX10_instead 3 = .ok (.istore_n 3, 1) := by decide +kernel
theorem dX10_instead_4 : decode cX10_instead 4 = .ok (.iload_n 3, 1) := by decide +kernel
theorem dX10_instead_5 : decode cX10_instead 5 = .ok (.aload_n 0, 1) := by decide +kernel
theorem dX10_instead_6 : decode cX10_instead 6 = .ok (.getfield 188, 3) := by decide +kernel
theorem dX10_instead_9 : decode cX10_instead 9 = .ok (.if_icmp .ge 64, 3) := by decide +kernel
theorem dX10_instead_12 : decode cX10_instead 12 = .ok (.aload_n 0, 1) := by decide +kernel
theorem dX10_instead_13 : decode cX10_instead 13 = .ok (.iload_n 3, 1) := by decide +kernel
theorem dX10_instead_14 : decode cX10_instead 14 = .ok (.iload_n 1, 1) := by decide +kernel
theorem dX10_instead_15 : decode cX10_instead 15 = .ok (.invokevirtual 273, 3) := by decide +kernel
theorem dX10_instead_18 : decode cX10_instead 18 = .ok (.ifCond .eq 14, 3) := by decide +kernel
theorem dX10_instead_21 : decode cX10_instead 21 = .ok (.aload_n 0, 1) := by decide +kernel
theorem dX10_instead_22 : decode cX10_instead 22 = .ok (.iload_n 3, 1) := by decide +kernel
theorem dX10_instead_23 : decode cX10_instead 23 = .ok (.iload_n 1, 1) := by decide +kernel
theorem dX10_instead_24 : decode cX10_instead 24 = .ok (.invokevirtual 276, 3) := by decide +kernel
theorem dX10_instead_27 : decode cX10_instead 27 = .ok (.ifCond .eq 5, 3) := by decide +kernel
theorem dX10_instead_30 : decode cX10_instead 30 = .ok (.iconst (-1), 1) := by decide +kernel
theorem dX10_instead_31 : decode cX10_instead 31 = .ok (.ireturn, 1) := by decide +kernel
theorem dX10_instead_32 : decode cX10_instead 32 = .ok (.aload_n 0, 1) := by decide +kernel
theorem dX10_instead_33 : decode cX10_instead 33 = .ok (.iload_n 3, 1) := by decide +kernel
theorem dX10_instead_34 : decode cX10_instead 34 = .ok (.iload_n 1, 1) := by decide +kernel
theorem dX10_instead_35 : decode cX10_instead 35 = .ok (.invokevirtual 276, 3) := by decide +kernel
theorem dX10_instead_38 : decode cX10_instead 38 = .ok (.ifCond .eq 27, 3) := by decide +kernel
theorem dX10_instead_41 : decode cX10_instead 41 = .ok (.iload_n 2, 1) := by decide +kernel
theorem dX10_instead_42 : decode cX10_instead 42 = .ok (.iconst (-1), 1) := by decide +kernel
theorem dX10_instead_43 : decode cX10_instead 43 = .ok (.if_icmp .eq 18, 3) := by decide +kernel
theorem dX10_instead_46 : decode cX10_instead 46 = .ok (.aload_n 0, 1) := by decide +kernel
theorem dX10_instead_47 : decode cX10_instead 47 = .ok (.iload_n 3, 1) := by decide +kernel
theorem dX10_instead_48 : decode cX10_instead 48 = .ok (.iload_n 1, 1) := by decide +kernel
theorem dX10_instead_49 : decode cX10_instead 49 = .ok (.invokevirtual 279, 3) := by decide +kernel
theorem dX10_instead_52 : decode cX10_instead 52 = .ok (.aload_n 0, 1) := by decide +kernel
theorem dX10_instead_53 : decode cX10_instead 53 = .ok (.iload_n 2, 1) := by decide +kernel
theorem dX10_instead_54 : decode cX10_instead 54 = .ok (.iload_n 1, 1) := by decide +kernel
theorem dX10_instead_55 : decode cX10_instead 55 = .ok (.invokevirtual 279, 3) := by decide +kernel
theorem dX10_instead_58 : decode cX10_instead 58 = .ok (.if_icmp .ge 7, 3) := by decide +kernel
theorem dX10_instead_61 : decode cX10_instead 61 = .ok (.iload_n 3, 1) := by decide +kernel
theorem dX10_instead_62 : decode cX10_instead 62 = .ok (.goto 4, 3) := by decide +kernel
theorem dX10_instead_65 : decode cX10_instead 65 = .ok (.iload_n 2, 1) := by decide +kernel
theorem dX10_instead_66 : decode cX10_instead 66 = .ok (.istore_n 2, 1) := by decide +kernel
theorem dX10_instead_67 : decode cX10_instead 67 = .ok (.iinc 3 1, 3) := by decide +kernel
theorem dX10_instead_70 : decode cX10_instead 70 = .ok (.goto (-66), 3) := by decide +kernel
theorem dX10_instead_73 : decode cX10_instead 73 = .ok (.iload_n 2, 1) := by decide +kernel
theorem dX10_instead_74 : decode cX10_instead 74 = .ok (.ireturn, 1) := by decide +kernel
theorem dX10_index_0 : decode cX10_index 0 = .ok (.aload_n 0, 1) := by decide +kernel
theorem dX10_index_1 : decode cX10_index 1 = .ok (.iload_n 1, 1) := by decide +kernel
theorem dX10_index_2 : decode cX10_index 2 = .ok (.invokevirtual 282, 3) := by decide +kernel
theorem dX10_index_5 : decode cX10_index 5 = .ok (.istore_n 2, 1) := by decide +kernel
theorem dX10_index_6 : decode cX10_index 6 = .ok (.iconst 0, 1) := by decide +kernel
theorem dX10_index_7 : decode cX10_index 7 = .ok (.istore_n 3, 1) := by decide +kernel
theorem dX10_index_8 : decode cX10_index 8 = .ok (.iconst 0, 1) := by decide +kernel
theorem dX10_index_9 : decode cX10_index 9 = .ok (.istore 4, 2) := by decide +kernel
theorem dX10_index_11 : decode cX10_index 11 = .ok (.iload 4, 2) := by decide +kernel
theorem dX10_index_13 : decode cX10_index 13 = .ok (.aload_n 0, 1) := by decide +kernel
theorem dX10_index_14 : decode cX10_index 14 = .ok (.getfield 194, 3) := by decide +kernel
theorem dX10_index_17 : decode cX10_index 17 = .ok (.if_icmp .ge 144, 3) := by decide +kernel
theorem dX10_index_20 : decode cX10_index 20 = .ok (.aload_n 0, 1) := by decide +kernel
theorem dX10_index_21 : decode cX10_index 21 = .ok (.getfield 64, 3) := by decide +kernel
theorem dX10_index_24 : decode cX10_index 24 = .ok (.iload 4, 2) := by decide +kernel
theorem dX10_index_26 : decode cX10_index 26 = .ok (.iaload, 1) := by decide +kernel
theorem dX10_index_27 : decode cX10_index 27 = .ok (.istore 5, 2) := by decide +kernel
theorem dX10_index_29 : decode cX10_index 29 = .ok (.iload_n 2, 1) := by decide +kernel
theorem dX10_index_30 : decode cX10_index 30 = .ok (.iconst (-1), 1) := by decide +kernel
theorem dX10_index_31 : decode cX10_index 31 = .ok (.if_icmp .ne 13, 3) := by decide +kernel
theorem dX10_index_34 : decode cX10_index 34 = .ok (.aload_n 0, 1) := by decide +kernel
theorem dX10_index_35 : decode cX10_index 35 = .ok (.iload 5, 2) := by decide +kernel
theorem dX10_index_37 : decode cX10_index 37 = .ok (.iload_n 1, 1) := by decide +kernel
theorem dX10_index_38 : decode cX10_index 38 = .ok (.invokevirtual 273, 3) := by decide +kernel
theorem dX10_index_41 : decode cX10_index 41 = .ok (.goto 14, 3) := by decide +kernel
theorem dX10_index_44 : decode cX10_index 44 = .ok (.iload 5, 2) := by decide +kernel
theorem dX10_index_46 : decode cX10_index 46 = .ok (.iload_n 2, 1) := by decide +kernel
theorem dX10_index_47 : decode cX10_index 47 = .ok (.if_icmp .ne 7, 3) := by decide +kernel
theorem dX10_index_50 : decode cX10_index 50 = .ok (.iconst 1, 1) := by decide +kernel
theorem dX10_index_51 : decode cX10_index 51 = .ok (.goto 4, 3) := by decide +kernel
theorem dX10_index_54 : decode cX10_index 54 = .ok (.iconst 0, 1) := by decide +kernel
theorem dX10_index_55 : decode cX10_index 55 = .ok (.istore 6, 2) := by decide +kernel
theorem dX10_index_57 : decode cX10_index 57 = .ok (.iload 6, 2) := by decide +kernel
theorem dX10_index_59 : decode cX10_index 59 = .ok (.ifCond .eq 65, 3) := by decide +kernel
theorem dX10_index_62 : decode cX10_index 62 = .ok (.aload_n 0, 1) := by decide +kernel
theorem dX10_index_63 : decode cX10_index 63 = .ok (.getfield 70, 3) := by decide +kernel
theorem dX10_index_66 : decode cX10_index 66 = .ok (.iload 4, 2) := by decide +kernel
theorem dX10_index_68 : decode cX10_index 68 = .ok (.iaload, 1) := by decide +kernel
theorem dX10_index_69 : decode cX10_index 69 = .ok (.aload_n 0, 1) := by decide +kernel
theorem dX10_index_70 : decode cX10_index 70 = .ok (.getfield 79, 3) := by decide +kernel
theorem dX10_index_73 : decode cX10_index 73 = .ok (.iload_n 1, 1) := by decide +kernel
theorem dX10_index_74 : decode cX10_index 74 = .ok (.iaload, 1) := by decide +kernel
theorem dX10_index_75 : decode cX10_index 75 = .ok (.if_icmp .ne 49, 3) := by decide +kernel
theorem dX10_index_78 : decode cX10_index 78 = .ok (.aload_n 0, 1) := by decide +kernel
theorem dX10_index_79 : decode cX10_index 79 = .ok (.getfield 67, 3) := by decide +kernel
theorem dX10_index_82 : decode cX10_index 82 = .ok (.iload 4, 2) := by decide +kernel
theorem dX10_index_84 : decode cX10_index 84 = .ok (.iaload, 1) := by decide +kernel
theorem dX10_index_85 : decode cX10_index 85 = .ok (.aload_n 0, 1) := by decide +kernel
theorem dX10_index_86 : decode cX10_index 86 = .ok (.getfield 85, 3) := by decide +kernel
theorem dX10_index_89 : decode cX10_index 89 = .ok (.iload_n 1, 1) := by decide +kernel
theorem dX10_index_90 : decode cX10_index 90 = .ok (.iaload, 1) := by decide +kernel
theorem dX10_index_91 : decode cX10_index 91 = .ok (.aload_n 0, 1) := by decide +kernel
theorem dX10_index_92 : decode cX10_index 92 = .ok (.getfield 88, 3) := by decide +kernel
theorem dX10_index_95 : decode cX10_index 95 = .ok (.iload_n 1, 1) := by decide +kernel
theorem dX10_index_96 : decode cX10_index 96 = .ok (.iaload, 1) := by decide +kernel
theorem dX10_index_97 : decode cX10_index 97 = .ok (.invokestatic 141, 3) := by decide +kernel
theorem dX10_index_100 : decode cX10_index 100 = .ok (.ifCond .eq 24, 3) := by decide +kernel
theorem dX10_index_103 : decode cX10_index 103 = .ok (.aload_n 0, 1) := by decide +kernel
theorem dX10_index_104 : decode cX10_index 104 = .ok (.getfield 67, 3) := by decide +kernel
theorem dX10_index_107 : decode cX10_index 107 = .ok (.iload 4, 2) := by decide +kernel
theorem dX10_index_109 : decode cX10_index 109 = .ok (.iaload, 1) := by decide +kernel
theorem dX10_index_110 : decode cX10_index 110 = .ok (.aload_n 0, 1) := by decide +kernel
theorem dX10_index_111 : decode cX10_index 111 = .ok (.getfield 61, 3) := by decide +kernel
theorem dX10_index_114 : decode cX10_index 114 = .ok (.iload 5, 2) := by decide +kernel
theorem dX10_index_116 : decode cX10_index 116 = .ok (.iaload, 1) := by decide +kernel
theorem dX10_index_117 : decode cX10_index 117 = .ok (.if_icmp .ge 7, 3) := by decide +kernel
theorem dX10_index_120 : decode cX10_index 120 = .ok (.iconst 1, 1) := by decide +kernel
theorem dX10_index_121 : decode cX10_index 121 = .ok (.goto 4, 3) := by decide +kernel
theorem dX10_index_124 : decode cX10_index 124 = .ok (.iconst 0, 1) := by decide +kernel
theorem dX10_index_125 : decode cX10_index 125 = .ok (.istore 7, 2) := by decide +kernel
theorem dX10_index_127 : decode cX10_index 127 = .ok (.iload 7, 2) := by decide +kernel
theorem dX10_index_129 : decode cX10_index 129 = .ok (.ifCond .eq 24, 3) := by decide +kernel
theorem dX10_index_132 : decode cX10_index 132 = .ok (.aload_n 0, 1) := by decide +kernel
theorem dX10_index_133 : decode cX10_index 133 = .ok (.getfield 73, 3) := by decide +kernel
theorem dX10_index_136 : decode cX10_index 136 = .ok (.iload 4, 2) := by decide +kernel
theorem dX10_index_138 : decode cX10_index 138 = .ok (.iaload, 1) := by decide +kernel
theorem dX10_index_139 : decode cX10_index 139 = .ok (.iload_n 3, 1) := by decide +kernel
theorem dX10_index_140 : decode cX10_index 140 = .ok (.if_icmp .le 13, 3) := by decide +kernel
theorem dX10_index_143 : decode cX10_index 143 = .ok (.aload_n 0, 1) := by decide +kernel
theorem dX10_index_144 : decode cX10_index 144 = .ok (.getfield 73, 3) := by decide +kernel
theorem dX10_index_147 : decode cX10_index 147 = .ok (.iload 4, 2) := by decide +kernel
theorem dX10_index_149 : decode cX10_index 149 = .ok (.iaload, 1) := by decide +kernel
theorem dX10_index_150 : decode cX10_index 150 = .ok (.goto 4, 3) := by decide +kernel
theorem dX10_index_153 : decode cX10_index 153 = .ok (.iload_n 3, 1) := by decide +kernel
theorem dX10_index_154 : decode cX10_index 154 = .ok (.istore_n 3, 1) := by decide +kernel
theorem dX10_index_155 : decode cX10_index 155 = .ok (.iinc 4 1, 3) := by decide +kernel
theorem dX10_index_158 : decode cX10_index 158 = .ok (.goto (-147), 3) := by decide +kernel
theorem dX10_index_161 : decode cX10_index 161 = .ok (.iload_n 3, 1) := by decide +kernel
theorem dX10_index_162 : decode cX10_index 162 = .ok (.ireturn, 1) := by decide +kernel
theorem dX10_payout_0 : decode cX10_payout 0 = .ok (.aload_n 0, 1) := by decide +kernel
theorem dX10_payout_1 : decode cX10_payout 1 = .ok (.iload_n 1, 1) := by decide +kernel
theorem dX10_payout_2 : decode cX10_payout 2 = .ok (.invokevirtual 285, 3) := by decide +kernel
theorem dX10_payout_5 : decode cX10_payout 5 = .ok (.aload_n 0, 1) := by decide +kernel
theorem dX10_payout_6 : decode cX10_payout 6 = .ok (.getfield 91, 3) := by decide +kernel
theorem dX10_payout_9 : decode cX10_payout 9 = .ok (.iload_n 1, 1) := by decide +kernel
theorem dX10_payout_10 : decode cX10_payout 10 = .ok (.iaload, 1) := by decide +kernel
theorem dX10_payout_11 : decode cX10_payout 11 = .ok (.isub, 1) := by decide +kernel
theorem dX10_payout_12 : decode cX10_payout 12 = .ok (.istore_n 2, 1) := by decide +kernel
theorem dX10_payout_13 : decode cX10_payout 13 = .ok (.iload_n 2, 1) := by decide +kernel
theorem dX10_payout_14 : decode cX10_payout 14 = .ok (.ifCond .ge 5, 3) := by decide +kernel
theorem dX10_payout_17 : decode cX10_payout 17 = .ok (.iconst 0, 1) := by decide +kernel
theorem dX10_payout_18 : decode cX10_payout 18 = .ok (.ireturn, 1) := by decide +kernel
theorem dX10_payout_19 : decode cX10_payout 19 = .ok (.aload_n 0, 1) := by decide +kernel
theorem dX10_payout_20 : decode cX10_payout 20 = .ok (.getfield 94, 3) := by decide +kernel
theorem dX10_payout_23 : decode cX10_payout 23 = .ok (.iload_n 1, 1) := by decide +kernel
theorem dX10_payout_24 : decode cX10_payout 24 = .ok (.iaload, 1) := by decide +kernel
theorem dX10_payout_25 : decode cX10_payout 25 = .ok (.i2l, 1) := by decide +kernel
theorem dX10_payout_26 : decode cX10_payout 26 = .ok (.aload_n 0, 1) := by decide +kernel
theorem dX10_payout_27 : decode cX10_payout 27 = .ok (.getfield 76, 3) := by decide +kernel
theorem dX10_payout_30 : decode cX10_payout 30 = .ok (.iload_n 1, 1) := by decide +kernel
theorem dX10_payout_31 : decode cX10_payout 31 = .ok (.iaload, 1) := by decide +kernel
theorem dX10_payout_32 : decode cX10_payout 32 = .ok (.i2l, 1) := by decide +kernel
theorem dX10_payout_33 : decode cX10_payout 33 = .ok (.lmul, 1) := by decide +kernel
theorem dX10_payout_34 : decode cX10_payout 34 = .ok (.ldc2_w 173, 3) := by decide +kernel
theorem dX10_payout_37 : decode cX10_payout 37 = .ok (.ldiv, 1) := by decide +kernel
theorem dX10_payout_38 : decode cX10_payout 38 = .ok (.l2i, 1) := by decide +kernel
theorem dX10_payout_39 : decode cX10_payout 39 = .ok (.istore_n 3, 1) := by decide +kernel
theorem dX10_payout_40 : decode cX10_payout 40 = .ok (.iconst 0, 1) := by decide +kernel
theorem dX10_payout_41 : decode cX10_payout 41 = .ok (.istore 4, 2) := by decide +kernel
theorem dX10_payout_43 : decode cX10_payout 43 = .ok (.iload 4, 2) := by decide +kernel
theorem dX10_payout_45 : decode cX10_payout 45 = .ok (.iload_n 2, 1) := by decide +kernel
theorem dX10_payout_46 : decode cX10_payout 46 = .ok (.if_icmp .ge 22, 3) := by decide +kernel
theorem dX10_payout_49 : decode cX10_payout 49 = .ok (.iload_n 3, 1) := by decide +kernel
theorem dX10_payout_50 : decode cX10_payout 50 = .ok (.aload_n 0, 1) := by decide +kernel
theorem dX10_payout_51 : decode cX10_payout 51 = .ok (.getfield 76, 3) := by decide +kernel
theorem dX10_payout_54 : decode cX10_payout 54 = .ok (.iload_n 1, 1) := by decide +kernel
theorem dX10_payout_55 : decode cX10_payout 55 = .ok (.iaload, 1) := by decide +kernel
theorem dX10_payout_56 : decode cX10_payout 56 = .ok (.iload_n 3, 1) := by decide +kernel
theorem dX10_payout_57 : decode cX10_payout 57 = .ok (.isub, 1) := by decide +kernel
theorem dX10_payout_58 : decode cX10_payout 58 = .ok (.iconst 2, 1) := by decide +kernel
theorem dX10_payout_59 : decode cX10_payout 59 = .ok (.idiv, 1) := by decide +kernel
theorem dX10_payout_60 : decode cX10_payout 60 = .ok (.iadd, 1) := by decide +kernel
theorem dX10_payout_61 : decode cX10_payout 61 = .ok (.istore_n 3, 1) := by decide +kernel
theorem dX10_payout_62 : decode cX10_payout 62 = .ok (.iinc 4 1, 3) := by decide +kernel
theorem dX10_payout_65 : decode cX10_payout 65 = .ok (.goto (-22), 3) := by decide +kernel
theorem dX10_payout_68 : decode cX10_payout 68 = .ok (.iload_n 3, 1) := by decide +kernel
theorem dX10_payout_69 : decode cX10_payout 69 = .ok (.ireturn, 1) := by decide +kernel
theorem dX10_ofBond_0 : decode cX10_ofBond 0 = .ok (.aload_n 0, 1) := by decide +kernel
theorem dX10_ofBond_1 : decode cX10_ofBond 1 = .ok (.iload_n 1, 1) := by decide +kernel
theorem dX10_ofBond_2 : decode cX10_ofBond 2 = .ok (.invokevirtual 204, 3) := by decide +kernel
theorem dX10_ofBond_5 : decode cX10_ofBond 5 = .ok (.istore_n 3, 1) := by decide +kernel
theorem dX10_ofBond_6 : decode cX10_ofBond 6 = .ok (.aload_n 0, 1) := by decide +kernel
theorem dX10_ofBond_7 : decode cX10_ofBond 7 = .ok (.iload_n 3, 1) := by decide +kernel
theorem dX10_ofBond_8 : decode cX10_ofBond 8 = .ok (.ifCond .ne 7, 3) := by decide +kernel
theorem dX10_ofBond_11 : decode cX10_ofBond 11 = .ok (.iconst 1, 1) := by decide +kernel
theorem dX10_ofBond_12 : decode cX10_ofBond 12 = .ok (.goto 17, 3) := by decide +kernel
theorem dX10_ofBond_15 : decode cX10_ofBond 15 = .ok (.iload_n 2, 1) := by decide +kernel
theorem dX10_ofBond_16 : decode cX10_ofBond 16 = .ok (.iconst 0, 1) := by decide +kernel
theorem dX10_ofBond_17 : decode cX10_ofBond 17 = .ok (.iconst 5, 1) := by decide +kernel
theorem dX10_ofBond_18 : decode cX10_ofBond 18 = .ok (.invokestatic 141, 3) := by decide +kernel
theorem dX10_ofBond_21 : decode cX10_ofBond 21 = .ok (.ifCond .eq 7, 3) := by decide +kernel
theorem dX10_ofBond_24 : decode cX10_ofBond 24 = .ok (.iconst 0, 1) := by decide +kernel
theorem dX10_ofBond_25 : decode cX10_ofBond 25 = .ok (.goto 4, 3) := by decide +kernel
theorem dX10_ofBond_28 : decode cX10_ofBond 28 = .ok (.iconst 2, 1) := by decide +kernel
theorem dX10_ofBond_29 : decode cX10_ofBond 29 = .ok (.invokevirtual 156, 3) := by decide +kernel
theorem dX10_ofBond_32 : decode cX10_ofBond 32 = .ok (.ifCond .ne 5, 3) := by decide +kernel
theorem dX10_ofBond_35 : decode cX10_ofBond 35 = .ok (.iconst 0, 1) := by decide +kernel
theorem dX10_ofBond_36 : decode cX10_ofBond 36 = .ok (.ireturn, 1) := by decide +kernel
theorem dX10_ofBond_37 : decode cX10_ofBond 37 = .ok (.aload_n 0, 1) := by decide +kernel
theorem dX10_ofBond_38 : decode cX10_ofBond 38 = .ok (.iload_n 1, 1) := by decide +kernel
theorem dX10_ofBond_39 : decode cX10_ofBond 39 = .ok (.invokevirtual 207, 3) := by decide +kernel
theorem dX10_ofBond_42 : decode cX10_ofBond 42 = .ok (.istore 4, 2) := by decide +kernel
theorem dX10_ofBond_44 : decode cX10_ofBond 44 = .ok (.iload_n 2, 1) := by decide +kernel
theorem dX10_ofBond_45 : decode cX10_ofBond 45 = .ok (.tableswitch 95 0 4 #[35, 41, 47, 58, 73], 35) := by decide +kernel
theorem dX10_ofBond_80 : decode cX10_ofBond 80 = .ok (.aload_n 0, 1) := by decide +kernel
theorem dX10_ofBond_81 : decode cX10_ofBond 81 = .ok (.iload_n 1, 1) := by decide +kernel
theorem dX10_ofBond_82 : decode cX10_ofBond 82 = .ok (.invokevirtual 285, 3) := by decide +kernel
theorem dX10_ofBond_85 : decode cX10_ofBond 85 = .ok (.ireturn, 1) := by decide +kernel
theorem dX10_ofBond_86 : decode cX10_ofBond 86 = .ok (.aload_n 0, 1) := by decide +kernel
theorem dX10_ofBond_87 : decode cX10_ofBond 87 = .ok (.iload_n 1, 1) := by decide +kernel
theorem dX10_ofBond_88 : decode cX10_ofBond 88 = .ok (.invokevirtual 288, 3) := by decide +kernel
theorem dX10_ofBond_91 : decode cX10_ofBond 91 = .ok (.ireturn, 1) := by decide +kernel
theorem dX10_ofBond_92 : decode cX10_ofBond 92 = .ok (.iload 4, 2) := by decide +kernel
theorem dX10_ofBond_94 : decode cX10_ofBond 94 = .ok (.ifCond .eq 7, 3) := by decide +kernel
theorem dX10_ofBond_97 : decode cX10_ofBond 97 = .ok (.iconst 1, 1) := by decide +kernel
theorem dX10_ofBond_98 : decode cX10_ofBond 98 = .ok (.goto 4, 3) := by decide +kernel
theorem dX10_ofBond_101 : decode cX10_ofBond 101 = .ok (.iconst 0, 1) := by decide +kernel
theorem dX10_ofBond_102 : decode cX10_ofBond 102 = .ok (.ireturn, 1) := by decide +kernel
theorem dX10_ofBond_103 : decode cX10_ofBond 103 = .ok (.iload 4, 2) := by decide +kernel
theorem dX10_ofBond_105 : decode cX10_ofBond 105 = .ok (.ifCond .eq 7, 3) := by decide +kernel
theorem dX10_ofBond_108 : decode cX10_ofBond 108 = .ok (.iconst 0, 1) := by decide +kernel
theorem dX10_ofBond_109 : decode cX10_ofBond 109 = .ok (.goto 8, 3) := by decide +kernel
theorem dX10_ofBond_112 : decode cX10_ofBond 112 = .ok (.aload_n 0, 1) := by decide +kernel
theorem dX10_ofBond_113 : decode cX10_ofBond 113 = .ok (.iload_n 1, 1) := by decide +kernel
theorem dX10_ofBond_114 : decode cX10_ofBond 114 = .ok (.invokevirtual 288, 3) := by decide +kernel
theorem dX10_ofBond_117 : decode cX10_ofBond 117 = .ok (.ireturn, 1) := by decide +kernel
theorem dX10_ofBond_118 : decode cX10_ofBond 118 = .ok (.iload 4, 2) := by decide +kernel
theorem dX10_ofBond_120 : decode cX10_ofBond 120 = .ok (.ifCond .eq 7, 3) := by decide +kernel
theorem dX10_ofBond_123 : decode cX10_ofBond 123 = .ok (.iconst 0, 1) := by decide +kernel
theorem dX10_ofBond_124 : decode cX10_ofBond 124 = .ok (.goto 15, 3) := by decide +kernel
theorem dX10_ofBond_127 : decode cX10_ofBond 127 = .ok (.aload_n 0, 1) := by decide +kernel
theorem dX10_ofBond_128 : decode cX10_ofBond 128 = .ok (.getfield 76, 3) := by decide +kernel
theorem dX10_ofBond_131 : decode cX10_ofBond 131 = .ok (.iload_n 1, 1) := by decide +kernel
theorem dX10_ofBond_132 : decode cX10_ofBond 132 = .ok (.iaload, 1) := by decide +kernel
theorem dX10_ofBond_133 : decode cX10_ofBond 133 = .ok (.aload_n 0, 1) := by decide +kernel
theorem dX10_ofBond_134 : decode cX10_ofBond 134 = .ok (.iload_n 1, 1) := by decide +kernel
theorem dX10_ofBond_135 : decode cX10_ofBond 135 = .ok (.invokevirtual 288, 3) := by decide +kernel
theorem dX10_ofBond_138 : decode cX10_ofBond 138 = .ok (.isub, 1) := by decide +kernel
theorem dX10_ofBond_139 : decode cX10_ofBond 139 = .ok (.ireturn, 1) := by decide +kernel
theorem dX10_ofBond_140 : decode cX10_ofBond 140 = .ok (.aload_n 0, 1) := by decide +kernel
theorem dX10_ofBond_141 : decode cX10_ofBond 141 = .ok (.iload_n 1, 1) := by decide +kernel
theorem dX10_ofBond_142 : decode cX10_ofBond 142 = .ok (.invokevirtual 282, 3) := by decide +kernel
theorem dX10_ofBond_145 : decode cX10_ofBond 145 = .ok (.ireturn, 1) := by decide +kernel
theorem dX10_basis_0 : decode cX10_basis 0 = .ok (.aload_n 0, 1) := by decide +kernel
theorem dX10_basis_1 : decode cX10_basis 1 = .ok (.iconst 0, 1) := by decide +kernel
theorem dX10_basis_2 : decode cX10_basis 2 = .ok (.putfield 137, 3) := by decide +kernel
theorem dX10_basis_5 : decode cX10_basis 5 = .ok (.iconst 0, 1) := by decide +kernel
theorem dX10_basis_6 : decode cX10_basis 6 = .ok (.istore_n 1, 1) := by decide +kernel
theorem dX10_basis_7 : decode cX10_basis 7 = .ok (.iconst 0, 1) := by decide +kernel
theorem dX10_basis_8 : decode cX10_basis 8 = .ok (.istore_n 2, 1) := by decide +kernel
theorem dX10_basis_9 : decode cX10_basis 9 = .ok (.iload_n 2, 1) := by decide +kernel
theorem dX10_basis_10 : decode cX10_basis 10 = .ok (.aload_n 0, 1) := by decide +kernel
theorem dX10_basis_11 : decode cX10_basis 11 = .ok (.getfield 198, 3) := by decide +kernel
theorem dX10_basis_14 : decode cX10_basis 14 = .ok (.if_icmp .ge 17, 3) := by decide +kernel
theorem dX10_basis_17 : decode cX10_basis 17 = .ok (.iload_n 1, 1) := by decide +kernel
theorem dX10_basis_18 : decode cX10_basis 18 = .ok (.aload_n 0, 1) := by decide +kernel
theorem dX10_basis_19 : decode cX10_basis 19 = .ok (.iload_n 2, 1) := by decide +kernel
theorem dX10_basis_20 : decode cX10_basis 20 = .ok (.invokevirtual 288, 3) := by decide +kernel
theorem dX10_basis_23 : decode cX10_basis 23 = .ok (.iadd, 1) := by decide +kernel
theorem dX10_basis_24 : decode cX10_basis 24 = .ok (.istore_n 1, 1) := by decide +kernel
theorem dX10_basis_25 : decode cX10_basis 25 = .ok (.iinc 2 1, 3) := by decide +kernel
theorem dX10_basis_28 : decode cX10_basis 28 = .ok (.goto (-19), 3) := by decide +kernel
theorem dX10_basis_31 : decode cX10_basis 31 = .ok (.iload_n 1, 1) := by decide +kernel
theorem dX10_basis_32 : decode cX10_basis 32 = .ok (.aload_n 0, 1) := by decide +kernel
theorem dX10_basis_33 : decode cX10_basis 33 = .ok (.bipush 6, 2) := by decide +kernel
theorem dX10_basis_35 : decode cX10_basis 35 = .ok (.invokevirtual 248, 3) := by decide +kernel
theorem dX10_basis_38 : decode cX10_basis 38 = .ok (.isub, 1) := by decide +kernel
theorem dX10_basis_39 : decode cX10_basis 39 = .ok (.ireturn, 1) := by decide +kernel
theorem dX10_paysFor_0 : decode cX10_paysFor 0 = .ok (.aload_n 0, 1) := by decide +kernel
theorem dX10_paysFor_1 : decode cX10_paysFor 1 = .ok (.getfield 106, 3) := by decide +kernel
theorem dX10_paysFor_4 : decode cX10_paysFor 4 = .ok (.bipush 12, 2) := by decide +kernel
theorem dX10_paysFor_6 : decode cX10_paysFor 6 = .ok (.iload_n 2, 1) := by decide +kernel
theorem dX10_paysFor_7 : decode cX10_paysFor 7 = .ok (.imul, 1) := by decide +kernel
theorem dX10_paysFor_8 : decode cX10_paysFor 8 = .ok (.iload_n 3, 1) := by decide +kernel
theorem dX10_paysFor_9 : decode cX10_paysFor 9 = .ok (.iadd, 1) := by decide +kernel
theorem dX10_paysFor_10 : decode cX10_paysFor 10 = .ok (.iaload, 1) := by decide +kernel
theorem dX10_paysFor_11 : decode cX10_paysFor 11 = .ok (.istore 4, 2) := by decide +kernel
theorem dX10_paysFor_13 : decode cX10_paysFor 13 = .ok (.aload_n 0, 1) := by decide +kernel
theorem dX10_paysFor_14 : decode cX10_paysFor 14 = .ok (.iload_n 1, 1) := by decide +kernel
theorem dX10_paysFor_15 : decode cX10_paysFor 15 = .ok (.aload_n 0, 1) := by decide +kernel
theorem dX10_paysFor_16 : decode cX10_paysFor 16 = .ok (.iload_n 1, 1) := by decide +kernel
theorem dX10_paysFor_17 : decode cX10_paysFor 17 = .ok (.iload 4, 2) := by decide +kernel
theorem dX10_paysFor_19 : decode cX10_paysFor 19 = .ok (.aload_n 0, 1) := by decide +kernel
theorem dX10_paysFor_20 : decode cX10_paysFor 20 = .ok (.iload 4, 2) := by decide +kernel
theorem dX10_paysFor_22 : decode cX10_paysFor 22 = .ok (.invokevirtual 216, 3) := by decide +kernel
theorem dX10_paysFor_25 : decode cX10_paysFor 25 = .ok (.isub, 1) := by decide +kernel
theorem dX10_paysFor_26 : decode cX10_paysFor 26 = .ok (.invokevirtual 219, 3) := by decide +kernel
theorem dX10_paysFor_29 : decode cX10_paysFor 29 = .ok (.invokevirtual 236, 3) := by decide +kernel
theorem dX10_paysFor_32 : decode cX10_paysFor 32 = .ok (.ireturn, 1) := by decide +kernel
theorem dX10_weights_0 : decode cX10_weights 0 = .ok (.lconst 0, 1) := by decide +kernel
theorem dX10_weights_1 : decode cX10_weights 1 = .ok (.lstore_n 2, 1) := by decide +kernel
theorem dX10_weights_2 : decode cX10_weights 2 = .ok (.iconst 0, 1) := by decide +kernel
theorem dX10_weights_3 : decode cX10_weights 3 = .ok (.istore 4, 2) := by decide +kernel
theorem dX10_weights_5 : decode cX10_weights 5 = .ok (.iload 4, 2) := by decide +kernel
theorem dX10_weights_7 : decode cX10_weights 7 = .ok (.aload_n 0, 1) := by decide +kernel
theorem dX10_weights_8 : decode cX10_weights 8 = .ok (.getfield 100, 3) := by decide +kernel
theorem dX10_weights_11 : decode cX10_weights 11 = .ok (.iload_n 1, 1) := by decide +kernel
theorem dX10_weights_12 : decode cX10_weights 12 = .ok (.iaload, 1) := by decide +kernel
theorem dX10_weights_13 : decode cX10_weights 13 = .ok (.if_icmp .ge 25, 3) := by decide +kernel
theorem dX10_weights_16 : decode cX10_weights 16 = .ok (.lload_n 2, 1) := by decide +kernel
theorem dX10_weights_17 : decode cX10_weights 17 = .ok (.aload_n 0, 1) := by decide +kernel
theorem dX10_weights_18 : decode cX10_weights 18 = .ok (.getfield 103, 3) := by decide +kernel
theorem dX10_weights_21 : decode cX10_weights 21 = .ok (.bipush 12, 2) := by decide +kernel
theorem dX10_weights_23 : decode cX10_weights 23 = .ok (.iload_n 1, 1) := by decide +kernel
theorem dX10_weights_24 : decode cX10_weights 24 = .ok (.imul, 1) := by decide +kernel
theorem dX10_weights_25 : decode cX10_weights 25 = .ok (.iload 4, 2) := by decide +kernel
theorem dX10_weights_27 : decode cX10_weights 27 = .ok (.iadd, 1) := by decide +kernel
theorem dX10_weights_28 : decode cX10_weights 28 = .ok (.iaload, 1) := by decide +kernel
theorem dX10_weights_29 : decode cX10_weights 29 = .ok (.i2l, 1) := by decide +kernel
theorem dX10_weights_30 : decode cX10_weights 30 = .ok (.ladd, 1) := by decide +kernel
theorem dX10_weights_31 : decode cX10_weights 31 = .ok (.lstore_n 2, 1) := by decide +kernel
theorem dX10_weights_32 : decode cX10_weights 32 = .ok (.iinc 4 1, 3) := by decide +kernel
theorem dX10_weights_35 : decode cX10_weights 35 = .ok (.goto (-30), 3) := by decide +kernel
theorem dX10_weights_38 : decode cX10_weights 38 = .ok (.lload_n 2, 1) := by decide +kernel
theorem dX10_weights_39 : decode cX10_weights 39 = .ok (.lreturn, 1) := by decide +kernel
theorem dX10_weighed_0 : decode cX10_weighed 0 = .ok (.lconst 0, 1) := by decide +kernel
theorem dX10_weighed_1 : decode cX10_weighed 1 = .ok (.lstore_n 3, 1) := by decide +kernel
theorem dX10_weighed_2 : decode cX10_weighed 2 = .ok (.iconst 0, 1) := by decide +kernel
theorem dX10_weighed_3 : decode cX10_weighed 3 = .ok (.istore 5, 2) := by decide +kernel
theorem dX10_weighed_5 : decode cX10_weighed 5 = .ok (.iload 5, 2) := by decide +kernel
theorem dX10_weighed_7 : decode cX10_weighed 7 = .ok (.aload_n 0, 1) := by decide +kernel
theorem dX10_weighed_8 : decode cX10_weighed 8 = .ok (.getfield 100, 3) := by decide +kernel
theorem dX10_weighed_11 : decode cX10_weighed 11 = .ok (.iload_n 2, 1) := by decide +kernel
theorem dX10_weighed_12 : decode cX10_weighed 12 = .ok (.iaload, 1) := by decide +kernel
theorem dX10_weighed_13 : decode cX10_weighed 13 = .ok (.if_icmp .ge 35, 3) := by decide +kernel
theorem dX10_weighed_16 : decode cX10_weighed 16 = .ok (.lload_n 3, 1) := by decide +kernel
theorem dX10_weighed_17 : decode cX10_weighed 17 = .ok (.aload_n 0, 1) := by decide +kernel
theorem dX10_weighed_18 : decode cX10_weighed 18 = .ok (.getfield 103, 3) := by decide +kernel
theorem dX10_weighed_21 : decode cX10_weighed 21 = .ok (.bipush 12, 2) := by decide +kernel
theorem dX10_weighed_23 : decode cX10_weighed 23 = .ok (.iload_n 2, 1) := by decide +kernel
theorem dX10_weighed_24 : decode cX10_weighed 24 = .ok (.imul, 1) := by decide +kernel
theorem dX10_weighed_25 : decode cX10_weighed 25 = .ok (.iload 5, 2) := by decide +kernel
theorem dX10_weighed_27 : decode cX10_weighed 27 = .ok (.iadd, 1) := by decide +kernel
theorem dX10_weighed_28 : decode cX10_weighed 28 = .ok (.iaload, 1) := by decide +kernel
theorem dX10_weighed_29 : decode cX10_weighed 29 = .ok (.i2l, 1) := by decide +kernel
theorem dX10_weighed_30 : decode cX10_weighed 30 = .ok (.aload_n 0, 1) := by decide +kernel
theorem dX10_weighed_31 : decode cX10_weighed 31 = .ok (.iload_n 1, 1) := by decide +kernel
theorem dX10_weighed_32 : decode cX10_weighed 32 = .ok (.iload_n 2, 1) := by decide +kernel
theorem dX10_weighed_33 : decode cX10_weighed 33 = .ok (.iload 5, 2) := by decide +kernel
theorem dX10_weighed_35 : decode cX10_weighed 35 = .ok (.invokevirtual 291, 3) := by decide +kernel
theorem dX10_weighed_38 : decode cX10_weighed 38 = .ok (.i2l, 1) := by decide +kernel
theorem dX10_weighed_39 : decode cX10_weighed 39 = .ok (.lmul, 1) := by decide +kernel
theorem dX10_weighed_40 : decode cX10_weighed 40 = .ok (.ladd, 1) := by decide +kernel
theorem dX10_weighed_41 : decode cX10_weighed 41 = .ok (.lstore_n 3, 1) := by decide +kernel
theorem dX10_weighed_42 : decode cX10_weighed 42 = .ok (.iinc 5 1, 3) := by decide +kernel
theorem dX10_weighed_45 : decode cX10_weighed 45 = .ok (.goto (-40), 3) := by decide +kernel
theorem dX10_weighed_48 : decode cX10_weighed 48 = .ok (.lload_n 3, 1) := by decide +kernel
theorem dX10_weighed_49 : decode cX10_weighed 49 = .ok (.lreturn, 1) := by decide +kernel
theorem dX10_price_0 : decode cX10_price 0 = .ok (.aload_n 0, 1) := by decide +kernel
theorem dX10_price_1 : decode cX10_price 1 = .ok (.iload_n 1, 1) := by decide +kernel
theorem dX10_price_2 : decode cX10_price 2 = .ok (.invokevirtual 179, 3) := by decide +kernel
theorem dX10_price_5 : decode cX10_price 5 = .ok (.ifCond .eq 14, 3) := by decide +kernel
theorem dX10_price_8 : decode cX10_price 8 = .ok (.iload_n 2, 1) := by decide +kernel
theorem dX10_price_9 : decode cX10_price 9 = .ok (.invokestatic 210, 3) := by decide +kernel
theorem dX10_price_12 : decode cX10_price 12 = .ok (.ifCond .eq 7, 3) := by decide +kernel
theorem dX10_price_15 : decode cX10_price 15 = .ok (.iconst 1, 1) := by decide +kernel
theorem dX10_price_16 : decode cX10_price 16 = .ok (.goto 4, 3) := by decide +kernel
theorem dX10_price_19 : decode cX10_price 19 = .ok (.iconst 0, 1) := by decide +kernel
theorem dX10_price_20 : decode cX10_price 20 = .ok (.istore_n 3, 1) := by decide +kernel
theorem dX10_price_21 : decode cX10_price 21 = .ok (.aload_n 0, 1) := by decide +kernel
theorem dX10_price_22 : decode cX10_price 22 = .ok (.iload_n 3, 1) := by decide +kernel
theorem dX10_price_23 : decode cX10_price 23 = .ok (.ifCond .ne 7, 3) := by decide +kernel
theorem dX10_price_26 : decode cX10_price 26 = .ok (.iconst 1, 1) := by decide +kernel
theorem dX10_price_27 : decode cX10_price 27 = .ok (.goto 17, 3) := by decide +kernel
theorem dX10_price_30 : decode cX10_price 30 = .ok (.aload_n 0, 1) := by decide +kernel
theorem dX10_price_31 : decode cX10_price 31 = .ok (.getfield 100, 3) := by decide +kernel
theorem dX10_price_34 : decode cX10_price 34 = .ok (.iload_n 2, 1) := by decide +kernel
theorem dX10_price_35 : decode cX10_price 35 = .ok (.iaload, 1) := by decide +kernel
theorem dX10_price_36 : decode cX10_price 36 = .ok (.ifCond .le 7, 3) := by decide +kernel
theorem dX10_price_39 : decode cX10_price 39 = .ok (.iconst 0, 1) := by decide +kernel
theorem dX10_price_40 : decode cX10_price 40 = .ok (.goto 4, 3) := by decide +kernel
theorem dX10_price_43 : decode cX10_price 43 = .ok (.iconst 2, 1) := by decide +kernel
theorem dX10_price_44 : decode cX10_price 44 = .ok (.invokevirtual 156, 3) := by decide +kernel
theorem dX10_price_47 : decode cX10_price 47 = .ok (.ifCond .ne 5, 3) := by decide +kernel
theorem dX10_price_50 : decode cX10_price 50 = .ok (.lconst 0, 1) := by decide +kernel
theorem dX10_price_51 : decode cX10_price 51 = .ok (.lreturn, 1) := by decide +kernel
theorem dX10_price_52 : decode cX10_price 52 = .ok (.ldc2_w 295, 3) := by decide +kernel
theorem dX10_price_55 : decode cX10_price 55 = .ok (.aload_n 0, 1) := by decide +kernel
theorem dX10_price_56 : decode cX10_price 56 = .ok (.iload_n 1, 1) := by decide +kernel
theorem dX10_price_57 : decode cX10_price 57 = .ok (.iload_n 2, 1) := by decide +kernel
theorem dX10_price_58 : decode cX10_price 58 = .ok (.invokevirtual 297, 3) := by decide +kernel
theorem dX10_price_61 : decode cX10_price 61 = .ok (.lmul, 1) := by decide +kernel
theorem dX10_price_62 : decode cX10_price 62 = .ok (.aload_n 0, 1) := by decide +kernel
theorem dX10_price_63 : decode cX10_price 63 = .ok (.iload_n 2, 1) := by decide +kernel
theorem dX10_price_64 : decode cX10_price 64 = .ok (.invokevirtual 301, 3) := by decide +kernel
theorem dX10_price_67 : decode cX10_price 67 = .ok (.ldiv, 1) := by decide +kernel
theorem dX10_price_68 : decode cX10_price 68 = .ok (.lreturn, 1) := by decide +kernel
theorem dX10_isTail_0 : decode cX10_isTail 0 = .ok (.lconst 0, 1) := by decide +kernel
theorem dX10_isTail_1 : decode cX10_isTail 1 = .ok (.lstore 5, 2) := by decide +kernel
theorem dX10_isTail_3 : decode cX10_isTail 3 = .ok (.iconst 0, 1) := by decide +kernel
theorem dX10_isTail_4 : decode cX10_isTail 4 = .ok (.istore 7, 2) := by decide +kernel
theorem dX10_isTail_6 : decode cX10_isTail 6 = .ok (.iload 7, 2) := by decide +kernel
theorem dX10_isTail_8 : decode cX10_isTail 8 = .ok (.aload_n 0, 1) := by decide +kernel
theorem dX10_isTail_9 : decode cX10_isTail 9 = .ok (.getfield 100, 3) := by decide +kernel
theorem dX10_isTail_12 : decode cX10_isTail 12 = .ok (.iload_n 2, 1) := by decide +kernel
theorem dX10_isTail_13 : decode cX10_isTail 13 = .ok (.iaload, 1) := by decide +kernel
theorem dX10_isTail_14 : decode cX10_isTail 14 = .ok (.if_icmp .ge 43, 3) := by decide +kernel
theorem dX10_isTail_17 : decode cX10_isTail 17 = .ok (.lload 5, 2) := by decide +kernel
theorem dX10_isTail_19 : decode cX10_isTail 19 = .ok (.aload_n 0, 1) := by decide +kernel
theorem dX10_isTail_20 : decode cX10_isTail 20 = .ok (.iload_n 1, 1) := by decide +kernel
theorem dX10_isTail_21 : decode cX10_isTail 21 = .ok (.iload_n 2, 1) := by decide +kernel
theorem dX10_isTail_22 : decode cX10_isTail 22 = .ok (.iload 7, 2) := by decide +kernel
theorem dX10_isTail_24 : decode cX10_isTail 24 = .ok (.invokevirtual 291, 3) := by decide +kernel
theorem dX10_isTail_27 : decode cX10_isTail 27 = .ok (.iload_n 3, 1) := by decide +kernel
theorem dX10_isTail_28 : decode cX10_isTail 28 = .ok (.if_icmp .le 19, 3) := by decide +kernel
theorem dX10_isTail_31 : decode cX10_isTail 31 = .ok (.aload_n 0, 1) := by decide +kernel
theorem dX10_isTail_32 : decode cX10_isTail 32 = .ok (.getfield 103, 3) := by decide +kernel
theorem dX10_isTail_35 : decode cX10_isTail 35 = .ok (.bipush 12, 2) := by decide +kernel
theorem dX10_isTail_37 : decode cX10_isTail 37 = .ok (.iload_n 2, 1) := by decide +kernel
theorem dX10_isTail_38 : decode cX10_isTail 38 = .ok (.imul, 1) := by decide +kernel
theorem dX10_isTail_39 : decode cX10_isTail 39 = .ok (.iload 7, 2) := by decide +kernel
theorem dX10_isTail_41 : decode cX10_isTail 41 = .ok (.iadd, 1) := by decide +kernel
theorem dX10_isTail_42 : decode cX10_isTail 42 = .ok (.iaload, 1) := by decide +kernel
theorem dX10_isTail_43 : decode cX10_isTail 43 = .ok (.i2l, 1) := by decide +kernel
theorem dX10_isTail_44 : decode cX10_isTail 44 = .ok (.goto 4, 3) := by decide +kernel
theorem dX10_isTail_47 : decode cX10_isTail 47 = .ok (.lconst 0, 1) := by decide +kernel
theorem dX10_isTail_48 : decode cX10_isTail 48 = .ok (.ladd, 1) := by decide +kernel
theorem dX10_isTail_49 : decode cX10_isTail 49 = .ok (.lstore 5, 2) := by decide +kernel
theorem dX10_isTail_51 : decode cX10_isTail 51 = .ok (.iinc 7 1, 3) := by decide +kernel
theorem dX10_isTail_54 : decode cX10_isTail 54 = .ok (.goto (-48), 3) := by decide +kernel
theorem dX10_isTail_57 : decode cX10_isTail 57 = .ok (.ldc2_w 173, 3) := by decide +kernel
theorem dX10_isTail_60 : decode cX10_isTail 60 = .ok (.lload 5, 2) := by decide +kernel
theorem dX10_isTail_62 : decode cX10_isTail 62 = .ok (.lmul, 1) := by decide +kernel
theorem dX10_isTail_63 : decode cX10_isTail 63 = .ok (.iload 4, 2) := by decide +kernel
theorem dX10_isTail_65 : decode cX10_isTail 65 = .ok (.i2l, 1) := by decide +kernel
theorem dX10_isTail_66 : decode cX10_isTail 66 = .ok (.aload_n 0, 1) := by decide +kernel
theorem dX10_isTail_67 : decode cX10_isTail 67 = .ok (.iload_n 2, 1) := by decide +kernel
theorem dX10_isTail_68 : decode cX10_isTail 68 = .ok (.invokevirtual 301, 3) := by decide +kernel
theorem dX10_isTail_71 : decode cX10_isTail 71 = .ok (.lmul, 1) := by decide +kernel
theorem dX10_isTail_72 : decode cX10_isTail 72 = .ok (.lcmp, 1) := by decide +kernel
theorem dX10_isTail_73 : decode cX10_isTail 73 = .ok (.ifCond .gt 7, 3) := by decide +kernel
theorem dX10_isTail_76 : decode cX10_isTail 76 = .ok (.iconst 1, 1) := by decide +kernel
theorem dX10_isTail_77 : decode cX10_isTail 77 = .ok (.goto 4, 3) := by decide +kernel
theorem dX10_isTail_80 : decode cX10_isTail 80 = .ok (.iconst 0, 1) := by decide +kernel
theorem dX10_isTail_81 : decode cX10_isTail 81 = .ok (.ireturn, 1) := by decide +kernel
theorem dX10_tail_0 : decode cX10_tail 0 = .ok (.aload_n 0, 1) := by decide +kernel
theorem dX10_tail_1 : decode cX10_tail 1 = .ok (.iload_n 1, 1) := by decide +kernel
theorem dX10_tail_2 : decode cX10_tail 2 = .ok (.invokevirtual 179, 3) := by decide +kernel
theorem dX10_tail_5 : decode cX10_tail 5 = .ok (.ifCond .eq 14, 3) := by decide +kernel
theorem dX10_tail_8 : decode cX10_tail 8 = .ok (.iload_n 2, 1) := by decide +kernel
theorem dX10_tail_9 : decode cX10_tail 9 = .ok (.invokestatic 210, 3) := by decide +kernel
theorem dX10_tail_12 : decode cX10_tail 12 = .ok (.ifCond .eq 7, 3) := by decide +kernel
theorem dX10_tail_15 : decode cX10_tail 15 = .ok (.iconst 1, 1) := by decide +kernel
theorem dX10_tail_16 : decode cX10_tail 16 = .ok (.goto 4, 3) := by decide +kernel
theorem dX10_tail_19 : decode cX10_tail 19 = .ok (.iconst 0, 1) := by decide +kernel
theorem dX10_tail_20 : decode cX10_tail 20 = .ok (.istore 4, 2) := by decide +kernel
theorem dX10_tail_22 : decode cX10_tail 22 = .ok (.iload_n 3, 1) := by decide +kernel
theorem dX10_tail_23 : decode cX10_tail 23 = .ok (.iconst 0, 1) := by decide +kernel
theorem dX10_tail_24 : decode cX10_tail 24 = .ok (.bipush 99, 2) := by decide +kernel
theorem dX10_tail_26 : decode cX10_tail 26 = .ok (.invokestatic 141, 3) := by decide +kernel
theorem dX10_tail_29 : decode cX10_tail 29 = .ok (.istore 5, 2) := by decide +kernel
theorem dX10_tail_31 : decode cX10_tail 31 = .ok (.aload_n 0, 1) := by decide +kernel
theorem dX10_tail_32 : decode cX10_tail 32 = .ok (.iload 4, 2) := by decide +kernel
theorem dX10_tail_34 : decode cX10_tail 34 = .ok (.ifCond .ne 7, 3) := by decide +kernel
theorem dX10_tail_37 : decode cX10_tail 37 = .ok (.iconst 1, 1) := by decide +kernel
theorem dX10_tail_38 : decode cX10_tail 38 = .ok (.goto 26, 3) := by decide +kernel
theorem dX10_tail_41 : decode cX10_tail 41 = .ok (.iload 5, 2) := by decide +kernel
theorem dX10_tail_43 : decode cX10_tail 43 = .ok (.ifCond .ne 7, 3) := by decide +kernel
theorem dX10_tail_46 : decode cX10_tail 46 = .ok (.iconst 2, 1) := by decide +kernel
theorem dX10_tail_47 : decode cX10_tail 47 = .ok (.goto 17, 3) := by decide +kernel
theorem dX10_tail_50 : decode cX10_tail 50 = .ok (.aload_n 0, 1) := by decide +kernel
theorem dX10_tail_51 : decode cX10_tail 51 = .ok (.getfield 100, 3) := by decide +kernel
theorem dX10_tail_54 : decode cX10_tail 54 = .ok (.iload_n 2, 1) := by decide +kernel
theorem dX10_tail_55 : decode cX10_tail 55 = .ok (.iaload, 1) := by decide +kernel
theorem dX10_tail_56 : decode cX10_tail 56 = .ok (.ifCond .le 7, 3) := by decide +kernel
theorem dX10_tail_59 : decode cX10_tail 59 = .ok (.iconst 0, 1) := by decide +kernel
theorem dX10_tail_60 : decode cX10_tail 60 = .ok (.goto 4, 3) := by decide +kernel
theorem dX10_tail_63 : decode cX10_tail 63 = .ok (.iconst 3, 1) := by decide +kernel
theorem dX10_tail_64 : decode cX10_tail 64 = .ok (.invokevirtual 156, 3) := by decide +kernel
theorem dX10_tail_67 : decode cX10_tail 67 = .ok (.ifCond .ne 5, 3) := by decide +kernel
theorem dX10_tail_70 : decode cX10_tail 70 = .ok (.iconst 0, 1) := by decide +kernel
theorem dX10_tail_71 : decode cX10_tail 71 = .ok (.ireturn, 1) := by decide +kernel
theorem dX10_tail_72 : decode cX10_tail 72 = .ok (.aload_n 0, 1) := by decide +kernel
theorem dX10_tail_73 : decode cX10_tail 73 = .ok (.iload_n 1, 1) := by decide +kernel
theorem dX10_tail_74 : decode cX10_tail 74 = .ok (.iload_n 2, 1) := by decide +kernel
theorem dX10_tail_75 : decode cX10_tail 75 = .ok (.iconst 0, 1) := by decide +kernel
theorem dX10_tail_76 : decode cX10_tail 76 = .ok (.iload_n 3, 1) := by decide +kernel
theorem dX10_tail_77 : decode cX10_tail 77 = .ok (.invokevirtual 304, 3) := by decide +kernel
theorem dX10_tail_80 : decode cX10_tail 80 = .ok (.ifCond .eq 7, 3) := by decide +kernel
theorem dX10_tail_83 : decode cX10_tail 83 = .ok (.iconst 0, 1) := by decide +kernel
theorem dX10_tail_84 : decode cX10_tail 84 = .ok (.goto 4, 3) := by decide +kernel
theorem dX10_tail_87 : decode cX10_tail 87 = .ok (.iconst (-1), 1) := by decide +kernel
theorem dX10_tail_88 : decode cX10_tail 88 = .ok (.istore 6, 2) := by decide +kernel
theorem dX10_tail_90 : decode cX10_tail 90 = .ok (.iconst 0, 1) := by decide +kernel
theorem dX10_tail_91 : decode cX10_tail 91 = .ok (.istore 7, 2) := by decide +kernel
theorem dX10_tail_93 : decode cX10_tail 93 = .ok (.iload 7, 2) := by decide +kernel
theorem dX10_tail_95 : decode cX10_tail 95 = .ok (.aload_n 0, 1) := by decide +kernel
theorem dX10_tail_96 : decode cX10_tail 96 = .ok (.getfield 100, 3) := by decide +kernel
theorem dX10_tail_99 : decode cX10_tail 99 = .ok (.iload_n 2, 1) := by decide +kernel
theorem dX10_tail_100 : decode cX10_tail 100 = .ok (.iaload, 1) := by decide +kernel
theorem dX10_tail_101 : decode cX10_tail 101 = .ok (.if_icmp .ge 53, 3) := by decide +kernel
theorem dX10_tail_104 : decode cX10_tail 104 = .ok (.aload_n 0, 1) := by decide +kernel
theorem dX10_tail_105 : decode cX10_tail 105 = .ok (.iload_n 1, 1) := by decide +kernel
theorem dX10_tail_106 : decode cX10_tail 106 = .ok (.iload_n 2, 1) := by decide +kernel
theorem dX10_tail_107 : decode cX10_tail 107 = .ok (.iload 7, 2) := by decide +kernel
theorem dX10_tail_109 : decode cX10_tail 109 = .ok (.invokevirtual 291, 3) := by decide +kernel
theorem dX10_tail_112 : decode cX10_tail 112 = .ok (.istore 8, 2) := by decide +kernel
theorem dX10_tail_114 : decode cX10_tail 114 = .ok (.aload_n 0, 1) := by decide +kernel
theorem dX10_tail_115 : decode cX10_tail 115 = .ok (.iload_n 1, 1) := by decide +kernel
theorem dX10_tail_116 : decode cX10_tail 116 = .ok (.iload_n 2, 1) := by decide +kernel
theorem dX10_tail_117 : decode cX10_tail 117 = .ok (.iload 8, 2) := by decide +kernel
theorem dX10_tail_119 : decode cX10_tail 119 = .ok (.iload_n 3, 1) := by decide +kernel
theorem dX10_tail_120 : decode cX10_tail 120 = .ok (.invokevirtual 304, 3) := by decide +kernel
theorem dX10_tail_123 : decode cX10_tail 123 = .ok (.ifCond .eq 21, 3) := by decide +kernel
theorem dX10_tail_126 : decode cX10_tail 126 = .ok (.iload 6, 2) := by decide +kernel
theorem dX10_tail_128 : decode cX10_tail 128 = .ok (.iconst (-1), 1) := by decide +kernel
theorem dX10_tail_129 : decode cX10_tail 129 = .ok (.if_icmp .eq 10, 3) := by decide +kernel
theorem dX10_tail_132 : decode cX10_tail 132 = .ok (.iload 8, 2) := by decide +kernel
theorem dX10_tail_134 : decode cX10_tail 134 = .ok (.iload 6, 2) := by decide +kernel
theorem dX10_tail_136 : decode cX10_tail 136 = .ok (.if_icmp .ge 8, 3) := by decide +kernel
theorem dX10_tail_139 : decode cX10_tail 139 = .ok (.iload 8, 2) := by decide +kernel
theorem dX10_tail_141 : decode cX10_tail 141 = .ok (.goto 5, 3) := by decide +kernel
theorem dX10_tail_144 : decode cX10_tail 144 = .ok (.iload 6, 2) := by decide +kernel
theorem dX10_tail_146 : decode cX10_tail 146 = .ok (.istore 6, 2) := by decide +kernel
theorem dX10_tail_148 : decode cX10_tail 148 = .ok (.iinc 7 1, 3) := by decide +kernel
theorem dX10_tail_151 : decode cX10_tail 151 = .ok (.goto (-58), 3) := by decide +kernel
theorem dX10_tail_154 : decode cX10_tail 154 = .ok (.iload 6, 2) := by decide +kernel
theorem dX10_tail_156 : decode cX10_tail 156 = .ok (.ireturn, 1) := by decide +kernel
theorem dX10_quotient_0 : decode cX10_quotient 0 = .ok (.aload_n 0, 1) := by decide +kernel
theorem dX10_quotient_1 : decode cX10_quotient 1 = .ok (.iload_n 1, 1) := by decide +kernel
theorem dX10_quotient_2 : decode cX10_quotient 2 = .ok (.iload_n 2, 1) := by decide +kernel
theorem dX10_quotient_3 : decode cX10_quotient 3 = .ok (.invokevirtual 297, 3) := by decide +kernel
theorem dX10_quotient_6 : decode cX10_quotient 6 = .ok (.l2d, 1) := by decide +kernel
theorem dX10_quotient_7 : decode cX10_quotient 7 = .ok (.aload_n 0, 1) := by decide +kernel
theorem dX10_quotient_8 : decode cX10_quotient 8 = .ok (.iload_n 2, 1) := by decide +kernel
theorem dX10_quotient_9 : decode cX10_quotient 9 = .ok (.invokevirtual 301, 3) := by decide +kernel
theorem dX10_quotient_12 : decode cX10_quotient 12 = .ok (.l2d, 1) := by decide +kernel
theorem dX10_quotient_13 : decode cX10_quotient 13 = .ok (.ddiv, 1) := by decide +kernel
theorem dX10_quotient_14 : decode cX10_quotient 14 = .ok (.dreturn, 1) := by decide +kernel
theorem dX10_bitsOf_0 : decode cX10_bitsOf 0 = .ok (.lload_n 0, 1) := by decide +kernel
theorem dX10_bitsOf_1 : decode cX10_bitsOf 1 = .ok (.lconst 0, 1) := by decide +kernel
theorem dX10_bitsOf_2 : decode cX10_bitsOf 2 = .ok (.lcmp, 1) := by decide +kernel
theorem dX10_bitsOf_3 : decode cX10_bitsOf 3 = .ok (.ifCond .ne 5, 3) := by decide +kernel
theorem dX10_bitsOf_6 : decode cX10_bitsOf 6 = .ok (.lconst 0, 1) := by decide +kernel
theorem dX10_bitsOf_7 : decode cX10_bitsOf 7 = .ok (.lreturn, 1) := by decide +kernel
theorem dX10_bitsOf_8 : decode cX10_bitsOf 8 = .ok (.lload_n 0, 1) := by decide +kernel
theorem dX10_bitsOf_9 : decode cX10_bitsOf 9 = .ok (.lload_n 2, 1) := by decide +kernel
theorem dX10_bitsOf_10 : decode cX10_bitsOf 10 = .ok (.ldiv, 1) := by decide +kernel
theorem dX10_bitsOf_11 : decode cX10_bitsOf 11 = .ok (.lstore 4, 2) := by decide +kernel
theorem dX10_bitsOf_13 : decode cX10_bitsOf 13 = .ok (.lload_n 0, 1) := by decide +kernel
theorem dX10_bitsOf_14 : decode cX10_bitsOf 14 = .ok (.lload_n 2, 1) := by decide +kernel
theorem dX10_bitsOf_15 : decode cX10_bitsOf 15 = .ok (.lrem, 1) := by decide +kernel
theorem dX10_bitsOf_16 : decode cX10_bitsOf 16 = .ok (.lstore 6, 2) := by decide +kernel
theorem dX10_bitsOf_18 : decode cX10_bitsOf 18 = .ok (.ldc2_w 308, 3) := by decide +kernel
theorem dX10_bitsOf_21 : decode cX10_bitsOf 21 = .ok (.lstore 8, 2) := by decide +kernel
theorem dX10_bitsOf_23 : decode cX10_bitsOf 23 = .ok (.lload 4, 2) := by decide +kernel
theorem dX10_bitsOf_25 : decode cX10_bitsOf 25 = .ok (.ldc2_w 310, 3) := by decide +kernel
theorem dX10_bitsOf_28 : decode cX10_bitsOf 28 = .ok (.lcmp, 1) := by decide +kernel
theorem dX10_bitsOf_29 : decode cX10_bitsOf 29 = .ok (.ifCond .ge 58, 3) := by decide +kernel
theorem dX10_bitsOf_32 : decode cX10_bitsOf 32 = .ok (.lload 6, 2) := by decide +kernel
theorem dX10_bitsOf_34 : decode cX10_bitsOf 34 = .ok (.ldc2_w 312, 3) := by decide +kernel
theorem dX10_bitsOf_37 : decode cX10_bitsOf 37 = .ok (.lmul, 1) := by decide +kernel
theorem dX10_bitsOf_38 : decode cX10_bitsOf 38 = .ok (.lstore 6, 2) := by decide +kernel
theorem dX10_bitsOf_40 : decode cX10_bitsOf 40 = .ok (.ldc2_w 312, 3) := by decide +kernel
theorem dX10_bitsOf_43 : decode cX10_bitsOf 43 = .ok (.lload 4, 2) := by decide +kernel
theorem dX10_bitsOf_45 : decode cX10_bitsOf 45 = .ok (.lmul, 1) := by decide +kernel
theorem dX10_bitsOf_46 : decode cX10_bitsOf 46 = .ok (.lload 6, 2) := by decide +kernel
theorem dX10_bitsOf_48 : decode cX10_bitsOf 48 = .ok (.lload_n 2, 1) := by decide +kernel
theorem dX10_bitsOf_49 : decode cX10_bitsOf 49 = .ok (.lcmp, 1) := by decide +kernel
theorem dX10_bitsOf_50 : decode cX10_bitsOf 50 = .ok (.ifCond .lt 7, 3) := by decide +kernel
theorem dX10_bitsOf_53 : decode cX10_bitsOf 53 = .ok (.lconst 1, 1) := by decide +kernel
theorem dX10_bitsOf_54 : decode cX10_bitsOf 54 = .ok (.goto 4, 3) := by decide +kernel
theorem dX10_bitsOf_57 : decode cX10_bitsOf 57 = .ok (.lconst 0, 1) := by decide +kernel
theorem dX10_bitsOf_58 : decode cX10_bitsOf 58 = .ok (.ladd, 1) := by decide +kernel
theorem dX10_bitsOf_59 : decode cX10_bitsOf 59 = .ok (.lstore 4, 2) := by decide +kernel
theorem dX10_bitsOf_61 : decode cX10_bitsOf 61 = .ok (.lload 6, 2) := by decide +kernel
theorem dX10_bitsOf_63 : decode cX10_bitsOf 63 = .ok (.lload 6, 2) := by decide +kernel
theorem dX10_bitsOf_65 : decode cX10_bitsOf 65 = .ok (.lload_n 2, 1) := by decide +kernel
theorem dX10_bitsOf_66 : decode cX10_bitsOf 66 = .ok (.lcmp, 1) := by decide +kernel
theorem dX10_bitsOf_67 : decode cX10_bitsOf 67 = .ok (.ifCond .lt 7, 3) := by decide +kernel
theorem dX10_bitsOf_70 : decode cX10_bitsOf 70 = .ok (.lload_n 2, 1) := by decide +kernel
theorem dX10_bitsOf_71 : decode cX10_bitsOf 71 = .ok (.goto 4, 3) := by decide +kernel
theorem dX10_bitsOf_74 : decode cX10_bitsOf 74 = .ok (.lconst 0, 1) := by decide +kernel
theorem dX10_bitsOf_75 : decode cX10_bitsOf 75 = .ok (.lsub, 1) := by decide +kernel
theorem dX10_bitsOf_76 : decode cX10_bitsOf 76 = .ok (.lstore 6, 2) := by decide +kernel
theorem dX10_bitsOf_78 : decode cX10_bitsOf 78 = .ok (.lload 8, 2) := by decide +kernel
theorem dX10_bitsOf_80 : decode cX10_bitsOf 80 = .ok (.lconst 1, 1) := by decide +kernel
theorem dX10_bitsOf_81 : decode cX10_bitsOf 81 = .ok (.lsub, 1) := by decide +kernel
theorem dX10_bitsOf_82 : decode cX10_bitsOf 82 = .ok (.lstore 8, 2) := by decide +kernel
theorem dX10_bitsOf_84 : decode cX10_bitsOf 84 = .ok (.goto (-61), 3) := by decide +kernel
theorem dX10_bitsOf_87 : decode cX10_bitsOf 87 = .ok (.ldc2_w 312, 3) := by decide +kernel
theorem dX10_bitsOf_90 : decode cX10_bitsOf 90 = .ok (.lload 6, 2) := by decide +kernel
theorem dX10_bitsOf_92 : decode cX10_bitsOf 92 = .ok (.lmul, 1) := by decide +kernel
theorem dX10_bitsOf_93 : decode cX10_bitsOf 93 = .ok (.lload_n 2, 1) := by decide +kernel
theorem dX10_bitsOf_94 : decode cX10_bitsOf 94 = .ok (.lcmp, 1) := by decide +kernel
theorem dX10_bitsOf_95 : decode cX10_bitsOf 95 = .ok (.ifCond .gt 25, 3) := by decide +kernel
theorem dX10_bitsOf_98 : decode cX10_bitsOf 98 = .ok (.ldc2_w 312, 3) := by decide +kernel
theorem dX10_bitsOf_101 : decode cX10_bitsOf 101 = .ok (.lload 6, 2) := by decide +kernel
theorem dX10_bitsOf_103 : decode cX10_bitsOf 103 = .ok (.lmul, 1) := by decide +kernel
theorem dX10_bitsOf_104 : decode cX10_bitsOf 104 = .ok (.lload_n 2, 1) := by decide +kernel
theorem dX10_bitsOf_105 : decode cX10_bitsOf 105 = .ok (.lcmp, 1) := by decide +kernel
theorem dX10_bitsOf_106 : decode cX10_bitsOf 106 = .ok (.ifCond .ne 18, 3) := by decide +kernel
theorem dX10_bitsOf_109 : decode cX10_bitsOf 109 = .ok (.lload 4, 2) := by decide +kernel
theorem dX10_bitsOf_111 : decode cX10_bitsOf 111 = .ok (.ldc2_w 312, 3) := by decide +kernel
theorem dX10_bitsOf_114 : decode cX10_bitsOf 114 = .ok (.lrem, 1) := by decide +kernel
theorem dX10_bitsOf_115 : decode cX10_bitsOf 115 = .ok (.lconst 1, 1) := by decide +kernel
theorem dX10_bitsOf_116 : decode cX10_bitsOf 116 = .ok (.lcmp, 1) := by decide +kernel
theorem dX10_bitsOf_117 : decode cX10_bitsOf 117 = .ok (.ifCond .ne 7, 3) := by decide +kernel
theorem dX10_bitsOf_120 : decode cX10_bitsOf 120 = .ok (.iconst 1, 1) := by decide +kernel
theorem dX10_bitsOf_121 : decode cX10_bitsOf 121 = .ok (.goto 4, 3) := by decide +kernel
theorem dX10_bitsOf_124 : decode cX10_bitsOf 124 = .ok (.iconst 0, 1) := by decide +kernel
theorem dX10_bitsOf_125 : decode cX10_bitsOf 125 = .ok (.istore 10, 2) := by decide +kernel
theorem dX10_bitsOf_127 : decode cX10_bitsOf 127 = .ok (.lload 4, 2) := by decide +kernel
theorem dX10_bitsOf_129 : decode cX10_bitsOf 129 = .ok (.iload 10, 2) := by decide +kernel
theorem dX10_bitsOf_131 : decode cX10_bitsOf 131 = .ok (.ifCond .eq 7, 3) := by decide +kernel
theorem dX10_bitsOf_134 : decode cX10_bitsOf 134 = .ok (.lconst 1, 1) := by decide +kernel
theorem dX10_bitsOf_135 : decode cX10_bitsOf 135 = .ok (.goto 4, 3) := by decide +kernel
theorem dX10_bitsOf_138 : decode cX10_bitsOf 138 = .ok (.lconst 0, 1) := by decide +kernel
theorem dX10_bitsOf_139 : decode cX10_bitsOf 139 = .ok (.ladd, 1) := by decide +kernel
theorem dX10_bitsOf_140 : decode cX10_bitsOf 140 = .ok (.lstore 4, 2) := by decide +kernel
theorem dX10_bitsOf_142 : decode cX10_bitsOf 142 = .ok (.lload 8, 2) := by decide +kernel
theorem dX10_bitsOf_144 : decode cX10_bitsOf 144 = .ok (.bipush 52, 2) := by decide +kernel
theorem dX10_bitsOf_146 : decode cX10_bitsOf 146 = .ok (.lshl, 1) := by decide +kernel
theorem dX10_bitsOf_147 : decode cX10_bitsOf 147 = .ok (.lload 4, 2) := by decide +kernel
theorem dX10_bitsOf_149 : decode cX10_bitsOf 149 = .ok (.ldc2_w 310, 3) := by decide +kernel
theorem dX10_bitsOf_152 : decode cX10_bitsOf 152 = .ok (.lsub, 1) := by decide +kernel
theorem dX10_bitsOf_153 : decode cX10_bitsOf 153 = .ok (.ladd, 1) := by decide +kernel
theorem dX10_bitsOf_154 : decode cX10_bitsOf 154 = .ok (.lreturn, 1) := by decide +kernel
theorem dX10_dearest_0 : decode cX10_dearest 0 = .ok (.aload_n 0, 1) := by decide +kernel
theorem dX10_dearest_1 : decode cX10_dearest 1 = .ok (.aload_n 0, 1) := by decide +kernel
theorem dX10_dearest_2 : decode cX10_dearest 2 = .ok (.iload_n 1, 1) := by decide +kernel
theorem dX10_dearest_3 : decode cX10_dearest 3 = .ok (.invokevirtual 179, 3) := by decide +kernel
theorem dX10_dearest_6 : decode cX10_dearest 6 = .ok (.ifCond .eq 7, 3) := by decide +kernel
theorem dX10_dearest_9 : decode cX10_dearest 9 = .ok (.iconst 0, 1) := by decide +kernel
theorem dX10_dearest_10 : decode cX10_dearest 10 = .ok (.goto 4, 3) := by decide +kernel
theorem dX10_dearest_13 : decode cX10_dearest 13 = .ok (.iconst 1, 1) := by decide +kernel
theorem dX10_dearest_14 : decode cX10_dearest 14 = .ok (.invokevirtual 156, 3) := by decide +kernel
theorem dX10_dearest_17 : decode cX10_dearest 17 = .ok (.ifCond .ne 5, 3) := by decide +kernel
theorem dX10_dearest_20 : decode cX10_dearest 20 = .ok (.lconst 0, 1) := by decide +kernel
theorem dX10_dearest_21 : decode cX10_dearest 21 = .ok (.lreturn, 1) := by decide +kernel
theorem dX10_dearest_22 : decode cX10_dearest 22 = .ok (.iconst (-1), 1) := by decide +kernel
theorem dX10_dearest_23 : decode cX10_dearest 23 = .ok (.istore_n 3, 1) := by decide +kernel
theorem dX10_dearest_24 : decode cX10_dearest 24 = .ok (.iconst 0, 1) := by decide +kernel
theorem dX10_dearest_25 : decode cX10_dearest 25 = .ok (.istore 4, 2) := by decide +kernel
theorem dX10_dearest_27 : decode cX10_dearest 27 = .ok (.iload 4, 2) := by decide +kernel
theorem dX10_dearest_29 : decode cX10_dearest 29 = .ok (.iconst 3, 1) := by decide +kernel
theorem dX10_dearest_30 : decode cX10_dearest 30 = .ok (.if_icmp .ge 48, 3) := by decide +kernel
theorem dX10_dearest_33 : decode cX10_dearest 33 = .ok (.aload_n 0, 1) := by decide +kernel
theorem dX10_dearest_34 : decode cX10_dearest 34 = .ok (.getfield 100, 3) := by decide +kernel
theorem dX10_dearest_37 : decode cX10_dearest 37 = .ok (.iload 4, 2) := by decide +kernel
theorem dX10_dearest_39 : decode cX10_dearest 39 = .ok (.iaload, 1) := by decide +kernel
theorem dX10_dearest_40 : decode cX10_dearest 40 = .ok (.ifCond .le 30, 3) := by decide +kernel
theorem dX10_dearest_43 : decode cX10_dearest 43 = .ok (.iload_n 3, 1) := by decide +kernel
theorem dX10_dearest_44 : decode cX10_dearest 44 = .ok (.iconst (-1), 1) := by decide +kernel
theorem dX10_dearest_45 : decode cX10_dearest 45 = .ok (.if_icmp .eq 20, 3) := by decide +kernel
theorem dX10_dearest_48 : decode cX10_dearest 48 = .ok (.aload_n 0, 1) := by decide +kernel
theorem dX10_dearest_49 : decode cX10_dearest 49 = .ok (.iload_n 1, 1) := by decide +kernel
theorem dX10_dearest_50 : decode cX10_dearest 50 = .ok (.iload 4, 2) := by decide +kernel
theorem dX10_dearest_52 : decode cX10_dearest 52 = .ok (.invokevirtual 314, 3) := by decide +kernel
theorem dX10_dearest_55 : decode cX10_dearest 55 = .ok (.aload_n 0, 1) := by decide +kernel
theorem dX10_dearest_56 : decode cX10_dearest 56 = .ok (.iload_n 1, 1) := by decide +kernel
theorem dX10_dearest_57 : decode cX10_dearest 57 = .ok (.iload_n 3, 1) := by decide +kernel
theorem dX10_dearest_58 : decode cX10_dearest 58 = .ok (.invokevirtual 314, 3) := by decide +kernel
theorem dX10_dearest_61 : decode cX10_dearest 61 = .ok (.dcmp .l, 1) := by decide +kernel
theorem dX10_dearest_62 : decode cX10_dearest 62 = .ok (.ifCond .le 8, 3) := by decide +kernel
theorem dX10_dearest_65 : decode cX10_dearest 65 = .ok (.iload 4, 2) := by decide +kernel
theorem dX10_dearest_67 : decode cX10_dearest 67 = .ok (.goto 4, 3) := by decide +kernel
theorem dX10_dearest_70 : decode cX10_dearest 70 = .ok (.iload_n 3, 1) := by decide +kernel
theorem dX10_dearest_71 : decode cX10_dearest 71 = .ok (.istore_n 3, 1) := by decide +kernel
theorem dX10_dearest_72 : decode cX10_dearest 72 = .ok (.iinc 4 1, 3) := by decide +kernel
theorem dX10_dearest_75 : decode cX10_dearest 75 = .ok (.goto (-48), 3) := by decide +kernel
theorem dX10_dearest_78 : decode cX10_dearest 78 = .ok (.iload_n 3, 1) := by decide +kernel
theorem dX10_dearest_79 : decode cX10_dearest 79 = .ok (.iconst (-1), 1) := by decide +kernel
theorem dX10_dearest_80 : decode cX10_dearest 80 = .ok (.if_icmp .ne 9, 3) := by decide +kernel
theorem dX10_dearest_83 : decode cX10_dearest 83 = .ok (.ldc2_w 318, 3) := by decide +kernel
theorem dX10_dearest_86 : decode cX10_dearest 86 = .ok (.goto 26, 3) := by decide +kernel
theorem dX10_dearest_89 : decode cX10_dearest 89 = .ok (.iload_n 2, 1) := by decide +kernel
theorem dX10_dearest_90 : decode cX10_dearest 90 = .ok (.ifCond .eq 20, 3) := by decide +kernel
theorem dX10_dearest_93 : decode cX10_dearest 93 = .ok (.aload_n 0, 1) := by decide +kernel
theorem dX10_dearest_94 : decode cX10_dearest 94 = .ok (.iload_n 1, 1) := by decide +kernel
theorem dX10_dearest_95 : decode cX10_dearest 95 = .ok (.iload_n 3, 1) := by decide +kernel
theorem dX10_dearest_96 : decode cX10_dearest 96 = .ok (.invokevirtual 297, 3) := by decide +kernel
theorem dX10_dearest_99 : decode cX10_dearest 99 = .ok (.aload_n 0, 1) := by decide +kernel
theorem dX10_dearest_100 : decode cX10_dearest 100 = .ok (.iload_n 3, 1) := by decide +kernel
theorem dX10_dearest_101 : decode cX10_dearest 101 = .ok (.invokevirtual 301, 3) := by decide +kernel
theorem dX10_dearest_104 : decode cX10_dearest 104 = .ok (.invokestatic 320, 3) := by decide +kernel
theorem dX10_dearest_107 : decode cX10_dearest 107 = .ok (.goto 5, 3) := by decide +kernel
theorem dX10_dearest_110 : decode cX10_dearest 110 = .ok (.iload_n 3, 1) := by decide +kernel
theorem dX10_dearest_111 : decode cX10_dearest 111 = .ok (.i2l, 1) := by decide +kernel
theorem dX10_dearest_112 : decode cX10_dearest 112 = .ok (.lreturn, 1) := by decide +kernel
theorem dX10_hour_0 : decode cX10_hour 0 = .ok (.aload_n 0, 1) := by decide +kernel
theorem dX10_hour_1 : decode cX10_hour 1 = .ok (.iconst 0, 1) := by decide +kernel
theorem dX10_hour_2 : decode cX10_hour 2 = .ok (.putfield 137, 3) := by decide +kernel
theorem dX10_hour_5 : decode cX10_hour 5 = .ok (.aload_n 0, 1) := by decide +kernel
theorem dX10_hour_6 : decode cX10_hour 6 = .ok (.getfield 201, 3) := by decide +kernel
theorem dX10_hour_9 : decode cX10_hour 9 = .ok (.ireturn, 1) := by decide +kernel
