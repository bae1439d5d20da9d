theorem dL_law_0 : decode cL_law 0 = .ok (.new 12, 3) := by decide +kernel
theorem dL_law_3 : decode cL_law 3 = .ok (.dup, 1) := by decide +kernel
theorem dL_law_4 : decode cL_law 4 = .ok (.invokespecial 105, 3) := by decide +kernel
theorem dL_law_7 : decode cL_law 7 = .ok (.astore_n 1, 1) := by decide +kernel
theorem dL_law_8 : decode cL_law 8 = .ok (.bipush 40, 2) := by decide +kernel
theorem dL_law_10 : decode cL_law 10 = .ok (.newarray .int, 2) := by decide +kernel
theorem dL_law_12 : decode cL_law 12 = .ok (.astore_n 2, 1) := by decide +kernel
theorem dL_law_13 : decode cL_law 13 = .ok (.sipush 256, 3) := by decide +kernel
theorem dL_law_16 : decode cL_law 16 = .ok (.newarray .int, 2) := by decide +kernel
theorem dL_law_18 : decode cL_law 18 = .ok (.astore_n 3, 1) := by decide +kernel
theorem dL_law_19 : decode cL_law 19 = .ok (.iconst 0, 1) := by decide +kernel
theorem dL_law_20 : decode cL_law 20 = .ok (.istore 4, 2) := by decide +kernel
theorem dL_law_22 : decode cL_law 22 = .ok (.aload_n 0, 1) := by decide +kernel
theorem dL_law_23 : decode cL_law 23 = .ok (.iconst 0, 1) := by decide +kernel
theorem dL_law_24 : decode cL_law 24 = .ok (.invokestatic 106, 3) := by decide +kernel
theorem dL_law_27 : decode cL_law 27 = .ok (.bipush 10, 2) := by decide +kernel
theorem dL_law_29 : decode cL_law 29 = .ok (.invokestatic 110, 3) := by decide +kernel
theorem dL_law_32 : decode cL_law 32 = .ok (.istore 5, 2) := by decide +kernel
theorem dL_law_34 : decode cL_law 34 = .ok (.bipush 40, 2) := by decide +kernel
theorem dL_law_36 : decode cL_law 36 = .ok (.aload_n 0, 1) := by decide +kernel
theorem dL_law_37 : decode cL_law 37 = .ok (.iconst 1, 1) := by decide +kernel
theorem dL_law_38 : decode cL_law 38 = .ok (.invokestatic 106, 3) := by decide +kernel
theorem dL_law_41 : decode cL_law 41 = .ok (.bipush 10, 2) := by decide +kernel
theorem dL_law_43 : decode cL_law 43 = .ok (.invokestatic 110, 3) := by decide +kernel
theorem dL_law_46 : decode cL_law 46 = .ok (.isub, 1) := by decide +kernel
theorem dL_law_47 : decode cL_law 47 = .ok (.istore 6, 2) := by decide +kernel
theorem dL_law_49 : decode cL_law 49 = .ok (.aload_n 1, 1) := by decide +kernel
theorem dL_law_50 : decode cL_law 50 = .ok (.iconst 0, 1) := by decide +kernel
theorem dL_law_51 : decode cL_law 51 = .ok (.bipush 40, 2) := by decide +kernel
theorem dL_law_53 : decode cL_law 53 = .ok (.invokestatic 113, 3) := by decide +kernel
theorem dL_law_56 : decode cL_law 56 = .ok (.pop2, 1) := by decide +kernel
theorem dL_law_57 : decode cL_law 57 = .ok (.aload_n 1, 1) := by decide +kernel
theorem dL_law_58 : decode cL_law 58 = .ok (.iconst 1, 1) := by decide +kernel
theorem dL_law_59 : decode cL_law 59 = .ok (.bipush 9, 2) := by decide +kernel
theorem dL_law_61 : decode cL_law 61 = .ok (.invokestatic 113, 3) := by decide +kernel
theorem dL_law_64 : decode cL_law 64 = .ok (.pop2, 1) := by decide +kernel
theorem dL_law_65 : decode cL_law 65 = .ok (.aload_n 1, 1) := by decide +kernel
theorem dL_law_66 : decode cL_law 66 = .ok (.iconst 0, 1) := by decide +kernel
theorem dL_law_67 : decode cL_law 67 = .ok (.iconst 0, 1) := by decide +kernel
theorem dL_law_68 : decode cL_law 68 = .ok (.iload 5, 2) := by decide +kernel
theorem dL_law_70 : decode cL_law 70 = .ok (.iload 6, 2) := by decide +kernel
theorem dL_law_72 : decode cL_law 72 = .ok (.iload 5, 2) := by decide +kernel
theorem dL_law_74 : decode cL_law 74 = .ok (.isub, 1) := by decide +kernel
theorem dL_law_75 : decode cL_law 75 = .ok (.invokestatic 116, 3) := by decide +kernel
theorem dL_law_78 : decode cL_law 78 = .ok (.iload 6, 2) := by decide +kernel
theorem dL_law_80 : decode cL_law 80 = .ok (.iload 5, 2) := by decide +kernel
theorem dL_law_82 : decode cL_law 82 = .ok (.isub, 1) := by decide +kernel
theorem dL_law_83 : decode cL_law 83 = .ok (.i2l, 1) := by decide +kernel
theorem dL_law_84 : decode cL_law 84 = .ok (.lcmp, 1) := by decide +kernel
theorem dL_law_85 : decode cL_law 85 = .ok (.ifCond .eq 5, 3) := by decide +kernel
theorem dL_law_88 : decode cL_law 88 = .ok (.iconst 0, 1) := by decide +kernel
theorem dL_law_89 : decode cL_law 89 = .ok (.ireturn, 1) := by decide +kernel
theorem dL_law_90 : decode cL_law 90 = .ok (.iload 5, 2) := by decide +kernel
theorem dL_law_92 : decode cL_law 92 = .ok (.istore 7, 2) := by decide +kernel
theorem dL_law_94 : decode cL_law 94 = .ok (.iload 5, 2) := by decide +kernel
theorem dL_law_96 : decode cL_law 96 = .ok (.istore 8, 2) := by decide +kernel
theorem dL_law_98 : decode cL_law 98 = .ok (.iconst 0, 1) := by decide +kernel
theorem dL_law_99 : decode cL_law 99 = .ok (.istore 9, 2) := by decide +kernel
theorem dL_law_101 : decode cL_law 101 = .ok (.iload 9, 2) := by decide +kernel
theorem dL_law_103 : decode cL_law 103 = .ok (.bipush 56, 2) := by decide +kernel
theorem dL_law_105 : decode cL_law 105 = .ok (.if_icmp .ge 506, 3) := by decide +kernel
theorem dL_law_108 : decode cL_law 108 = .ok (.aload_n 0, 1) := by decide +kernel
theorem dL_law_109 : decode cL_law 109 = .ok (.iconst 2, 1) := by decide +kernel
theorem dL_law_110 : decode cL_law 110 = .ok (.iload 9, 2) := by decide +kernel
theorem dL_law_112 : decode cL_law 112 = .ok (.iadd, 1) := by decide +kernel
theorem dL_law_113 : decode cL_law 113 = .ok (.invokestatic 106, 3) := by decide +kernel
theorem dL_law_116 : decode cL_law 116 = .ok (.sipush 7919, 3) := by decide +kernel
theorem dL_law_119 : decode cL_law 119 = .ok (.iload 9, 2) := by decide +kernel
theorem dL_law_121 : decode cL_law 121 = .ok (.imul, 1) := by decide +kernel
theorem dL_law_122 : decode cL_law 122 = .ok (.iadd, 1) := by decide +kernel
theorem dL_law_123 : decode cL_law 123 = .ok (.ldc 119, 2) := by decide +kernel
theorem dL_law_125 : decode cL_law 125 = .ok (.invokestatic 110, 3) := by decide +kernel
theorem dL_law_128 : decode cL_law 128 = .ok (.istore 10, 2) := by decide +kernel
theorem dL_law_130 : decode cL_law 130 = .ok (.iload 10, 2) := by decide +kernel
theorem dL_law_132 : decode cL_law 132 = .ok (.bipush 8, 2) := by decide +kernel
theorem dL_law_134 : decode cL_law 134 = .ok (.idiv, 1) := by decide +kernel
theorem dL_law_135 : decode cL_law 135 = .ok (.istore 11, 2) := by decide +kernel
theorem dL_law_137 : decode cL_law 137 = .ok (.iload 10, 2) := by decide +kernel
theorem dL_law_139 : decode cL_law 139 = .ok (.bipush 8, 2) := by decide +kernel
theorem dL_law_141 : decode cL_law 141 = .ok (.irem, 1) := by decide +kernel
theorem dL_law_142 : decode cL_law 142 = .ok (.tableswitch 231 0 5 #[38, 38, 88, 129, 181, 207], 38) := by decide +kernel
theorem dL_law_180 : decode cL_law 180 = .ok (.iload 11, 2) := by decide +kernel
theorem dL_law_182 : decode cL_law 182 = .ok (.bipush 40, 2) := by decide +kernel
theorem dL_law_184 : decode cL_law 184 = .ok (.irem, 1) := by decide +kernel
theorem dL_law_185 : decode cL_law 185 = .ok (.istore 12, 2) := by decide +kernel
theorem dL_law_187 : decode cL_law 187 = .ok (.aload_n 1, 1) := by decide +kernel
theorem dL_law_188 : decode cL_law 188 = .ok (.iconst 0, 1) := by decide +kernel
theorem dL_law_189 : decode cL_law 189 = .ok (.iload 12, 2) := by decide +kernel
theorem dL_law_191 : decode cL_law 191 = .ok (.iload 11, 2) := by decide +kernel
theorem dL_law_193 : decode cL_law 193 = .ok (.bipush 64, 2) := by decide +kernel
theorem dL_law_195 : decode cL_law 195 = .ok (.idiv, 1) := by decide +kernel
theorem dL_law_196 : decode cL_law 196 = .ok (.ldc 120, 2) := by decide +kernel
theorem dL_law_198 : decode cL_law 198 = .ok (.irem, 1) := by decide +kernel
theorem dL_law_199 : decode cL_law 199 = .ok (.i2c, 1) := by decide +kernel
theorem dL_law_200 : decode cL_law 200 = .ok (.invokestatic 121, 3) := by decide +kernel
theorem dL_law_203 : decode cL_law 203 = .ok (.aload_n 2, 1) := by decide +kernel
theorem dL_law_204 : decode cL_law 204 = .ok (.iload 12, 2) := by decide +kernel
theorem dL_law_206 : decode cL_law 206 = .ok (.iaload, 1) := by decide +kernel
theorem dL_law_207 : decode cL_law 207 = .ok (.i2l, 1) := by decide +kernel
theorem dL_law_208 : decode cL_law 208 = .ok (.lcmp, 1) := by decide +kernel
theorem dL_law_209 : decode cL_law 209 = .ok (.ifCond .eq 5, 3) := by decide +kernel
theorem dL_law_212 : decode cL_law 212 = .ok (.iconst 0, 1) := by decide +kernel
theorem dL_law_213 : decode cL_law 213 = .ok (.ireturn, 1) := by decide +kernel
theorem dL_law_214 : decode cL_law 214 = .ok (.aload_n 2, 1) := by decide +kernel
theorem dL_law_215 : decode cL_law 215 = .ok (.iload 12, 2) := by decide +kernel
theorem dL_law_217 : decode cL_law 217 = .ok (.iload 11, 2) := by decide +kernel
theorem dL_law_219 : decode cL_law 219 = .ok (.bipush 64, 2) := by decide +kernel
theorem dL_law_221 : decode cL_law 221 = .ok (.idiv, 1) := by decide +kernel
theorem dL_law_222 : decode cL_law 222 = .ok (.sipush 256, 3) := by decide +kernel
theorem dL_law_225 : decode cL_law 225 = .ok (.irem, 1) := by decide +kernel
theorem dL_law_226 : decode cL_law 226 = .ok (.iastore, 1) := by decide +kernel
theorem dL_law_227 : decode cL_law 227 = .ok (.goto 342, 3) := by decide +kernel
theorem dL_law_230 : decode cL_law 230 = .ok (.aload_n 1, 1) := by decide +kernel
theorem dL_law_231 : decode cL_law 231 = .ok (.iconst 0, 1) := by decide +kernel
theorem dL_law_232 : decode cL_law 232 = .ok (.invokestatic 124, 3) := by decide +kernel
theorem dL_law_235 : decode cL_law 235 = .ok (.iload 7, 2) := by decide +kernel
theorem dL_law_237 : decode cL_law 237 = .ok (.iload 6, 2) := by decide +kernel
theorem dL_law_239 : decode cL_law 239 = .ok (.if_icmp .ne 7, 3) := by decide +kernel
theorem dL_law_242 : decode cL_law 242 = .ok (.iconst (-1), 1) := by decide +kernel
theorem dL_law_243 : decode cL_law 243 = .ok (.goto 7, 3) := by decide +kernel
theorem dL_law_246 : decode cL_law 246 = .ok (.aload_n 2, 1) := by decide +kernel
theorem dL_law_247 : decode cL_law 247 = .ok (.iload 7, 2) := by decide +kernel
theorem dL_law_249 : decode cL_law 249 = .ok (.iaload, 1) := by decide +kernel
theorem dL_law_250 : decode cL_law 250 = .ok (.i2l, 1) := by decide +kernel
theorem dL_law_251 : decode cL_law 251 = .ok (.lcmp, 1) := by decide +kernel
theorem dL_law_252 : decode cL_law 252 = .ok (.ifCond .eq 5, 3) := by decide +kernel
theorem dL_law_255 : decode cL_law 255 = .ok (.iconst 0, 1) := by decide +kernel
theorem dL_law_256 : decode cL_law 256 = .ok (.ireturn, 1) := by decide +kernel
theorem dL_law_257 : decode cL_law 257 = .ok (.iload 6, 2) := by decide +kernel
theorem dL_law_259 : decode cL_law 259 = .ok (.iload 7, 2) := by decide +kernel
theorem dL_law_261 : decode cL_law 261 = .ok (.iconst 1, 1) := by decide +kernel
theorem dL_law_262 : decode cL_law 262 = .ok (.iadd, 1) := by decide +kernel
theorem dL_law_263 : decode cL_law 263 = .ok (.invokestatic 127, 3) := by decide +kernel
theorem dL_law_266 : decode cL_law 266 = .ok (.istore 7, 2) := by decide +kernel
theorem dL_law_268 : decode cL_law 268 = .ok (.goto 301, 3) := by decide +kernel
theorem dL_law_271 : decode cL_law 271 = .ok (.iload 11, 2) := by decide +kernel
theorem dL_law_273 : decode cL_law 273 = .ok (.bipush 12, 2) := by decide +kernel
theorem dL_law_275 : decode cL_law 275 = .ok (.irem, 1) := by decide +kernel
theorem dL_law_276 : decode cL_law 276 = .ok (.iconst 2, 1) := by decide +kernel
theorem dL_law_277 : decode cL_law 277 = .ok (.isub, 1) := by decide +kernel
theorem dL_law_278 : decode cL_law 278 = .ok (.istore 12, 2) := by decide +kernel
theorem dL_law_280 : decode cL_law 280 = .ok (.iconst 0, 1) := by decide +kernel
theorem dL_law_281 : decode cL_law 281 = .ok (.iload 12, 2) := by decide +kernel
theorem dL_law_283 : decode cL_law 283 = .ok (.iload 6, 2) := by decide +kernel
theorem dL_law_285 : decode cL_law 285 = .ok (.iload 7, 2) := by decide +kernel
theorem dL_law_287 : decode cL_law 287 = .ok (.isub, 1) := by decide +kernel
theorem dL_law_288 : decode cL_law 288 = .ok (.invokestatic 127, 3) := by decide +kernel
theorem dL_law_291 : decode cL_law 291 = .ok (.invokestatic 132, 3) := by decide +kernel
theorem dL_law_294 : decode cL_law 294 = .ok (.istore 13, 2) := by decide +kernel
theorem dL_law_296 : decode cL_law 296 = .ok (.aload_n 1, 1) := by decide +kernel
