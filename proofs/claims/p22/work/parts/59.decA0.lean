theorem dL_acts_0 : decode cL_acts 0 = .ok (.iload 6, 2) := by decide +kernel
theorem dL_acts_2 : decode cL_acts 2 = .ok (.bipush 24, 2) := by decide +kernel
theorem dL_acts_4 : decode cL_acts 4 = .ok (.invokestatic 123, 3) := by decide +kernel
theorem dL_acts_7 : decode cL_acts 7 = .ok (.istore 8, 2) := by decide +kernel
theorem dL_acts_9 : decode cL_acts 9 = .ok (.iload 8, 2) := by decide +kernel
theorem dL_acts_11 : decode cL_acts 11 = .ok (.iconst 2, 1) := by decide +kernel
theorem dL_acts_12 : decode cL_acts 12 = .ok (.if_icmp .lt 11, 3) := by decide +kernel
theorem dL_acts_15 : decode cL_acts 15 = .ok (.aload 5, 2) := by decide +kernel
theorem dL_acts_17 : decode cL_acts 17 = .ok (.iconst 0, 1) := by decide +kernel
theorem dL_acts_18 : decode cL_acts 18 = .ok (.iaload, 1) := by decide +kernel
theorem dL_acts_19 : decode cL_acts 19 = .ok (.iconst 2, 1) := by decide +kernel
theorem dL_acts_20 : decode cL_acts 20 = .ok (.if_icmp .ge 233, 3) := by decide +kernel
theorem dL_acts_23 : decode cL_acts 23 = .ok (.iload 7, 2) := by decide +kernel
theorem dL_acts_25 : decode cL_acts 25 = .ok (.iconst 2, 1) := by decide +kernel
theorem dL_acts_26 : decode cL_acts 26 = .ok (.invokestatic 123, 3) := by decide +kernel
theorem dL_acts_29 : decode cL_acts 29 = .ok (.ifCond .ne 7, 3) := by decide +kernel
theorem dL_acts_32 : decode cL_acts 32 = .ok (.iconst 1, 1) := by decide +kernel
theorem dL_acts_33 : decode cL_acts 33 = .ok (.goto 4, 3) := by decide +kernel
theorem dL_acts_36 : decode cL_acts 36 = .ok (.iconst 0, 1) := by decide +kernel
theorem dL_acts_37 : decode cL_acts 37 = .ok (.istore 9, 2) := by decide +kernel
theorem dL_acts_39 : decode cL_acts 39 = .ok (.iload 9, 2) := by decide +kernel
theorem dL_acts_41 : decode cL_acts 41 = .ok (.ifCond .eq 20, 3) := by decide +kernel
theorem dL_acts_44 : decode cL_acts 44 = .ok (.iload 7, 2) := by decide +kernel
theorem dL_acts_46 : decode cL_acts 46 = .ok (.iconst 2, 1) := by decide +kernel
theorem dL_acts_47 : decode cL_acts 47 = .ok (.ishr, 1) := by decide +kernel
theorem dL_acts_48 : decode cL_acts 48 = .ok (.sipush 2001, 3) := by decide +kernel
theorem dL_acts_51 : decode cL_acts 51 = .ok (.invokestatic 123, 3) := by decide +kernel
theorem dL_acts_54 : decode cL_acts 54 = .ok (.sipush 1000, 3) := by decide +kernel
theorem dL_acts_57 : decode cL_acts 57 = .ok (.isub, 1) := by decide +kernel
theorem dL_acts_58 : decode cL_acts 58 = .ok (.goto 11, 3) := by decide +kernel
theorem dL_acts_61 : decode cL_acts 61 = .ok (.iload 7, 2) := by decide +kernel
theorem dL_acts_63 : decode cL_acts 63 = .ok (.iconst 2, 1) := by decide +kernel
theorem dL_acts_64 : decode cL_acts 64 = .ok (.ishr, 1) := by decide +kernel
theorem dL_acts_65 : decode cL_acts 65 = .ok (.iconst 2, 1) := by decide +kernel
theorem dL_acts_66 : decode cL_acts 66 = .ok (.invokestatic 123, 3) := by decide +kernel
theorem dL_acts_69 : decode cL_acts 69 = .ok (.istore 10, 2) := by decide +kernel
theorem dL_acts_71 : decode cL_acts 71 = .ok (.iload 7, 2) := by decide +kernel
theorem dL_acts_73 : decode cL_acts 73 = .ok (.bipush 13, 2) := by decide +kernel
theorem dL_acts_75 : decode cL_acts 75 = .ok (.ishr, 1) := by decide +kernel
theorem dL_acts_76 : decode cL_acts 76 = .ok (.iload 6, 2) := by decide +kernel
theorem dL_acts_78 : decode cL_acts 78 = .ok (.iconst 5, 1) := by decide +kernel
theorem dL_acts_79 : decode cL_acts 79 = .ok (.ishr, 1) := by decide +kernel
theorem dL_acts_80 : decode cL_acts 80 = .ok (.iconst 3, 1) := by decide +kernel
theorem dL_acts_81 : decode cL_acts 81 = .ok (.invokestatic 123, 3) := by decide +kernel
theorem dL_acts_84 : decode cL_acts 84 = .ok (.ifCond .ne 9, 3) := by decide +kernel
theorem dL_acts_87 : decode cL_acts 87 = .ok (.sipush 1001, 3) := by decide +kernel
theorem dL_acts_90 : decode cL_acts 90 = .ok (.goto 5, 3) := by decide +kernel
theorem dL_acts_93 : decode cL_acts 93 = .ok (.bipush 12, 2) := by decide +kernel
theorem dL_acts_95 : decode cL_acts 95 = .ok (.invokestatic 123, 3) := by decide +kernel
theorem dL_acts_98 : decode cL_acts 98 = .ok (.istore 11, 2) := by decide +kernel
theorem dL_acts_100 : decode cL_acts 100 = .ok (.aload 5, 2) := by decide +kernel
theorem dL_acts_102 : decode cL_acts 102 = .ok (.iconst 0, 1) := by decide +kernel
theorem dL_acts_103 : decode cL_acts 103 = .ok (.iaload, 1) := by decide +kernel
theorem dL_acts_104 : decode cL_acts 104 = .ok (.bipush 16, 2) := by decide +kernel
theorem dL_acts_106 : decode cL_acts 106 = .ok (.if_icmp .ge 10, 3) := by decide +kernel
theorem dL_acts_109 : decode cL_acts 109 = .ok (.aload 5, 2) := by decide +kernel
theorem dL_acts_111 : decode cL_acts 111 = .ok (.iconst 0, 1) := by decide +kernel
theorem dL_acts_112 : decode cL_acts 112 = .ok (.iaload, 1) := by decide +kernel
theorem dL_acts_113 : decode cL_acts 113 = .ok (.goto 5, 3) := by decide +kernel
theorem dL_acts_116 : decode cL_acts 116 = .ok (.ldc 21, 2) := by decide +kernel
theorem dL_acts_118 : decode cL_acts 118 = .ok (.istore 12, 2) := by decide +kernel
theorem dL_acts_120 : decode cL_acts 120 = .ok (.iload 12, 2) := by decide +kernel
theorem dL_acts_122 : decode cL_acts 122 = .ok (.ifCond .lt 35, 3) := by decide +kernel
theorem dL_acts_125 : decode cL_acts 125 = .ok (.aload_n 2, 1) := by decide +kernel
theorem dL_acts_126 : decode cL_acts 126 = .ok (.iload 12, 2) := by decide +kernel
theorem dL_acts_128 : decode cL_acts 128 = .ok (.iload 10, 2) := by decide +kernel
theorem dL_acts_130 : decode cL_acts 130 = .ok (.iastore, 1) := by decide +kernel
theorem dL_acts_131 : decode cL_acts 131 = .ok (.aload_n 2, 1) := by decide +kernel
theorem dL_acts_132 : decode cL_acts 132 = .ok (.bipush 16, 2) := by decide +kernel
theorem dL_acts_134 : decode cL_acts 134 = .ok (.iload 12, 2) := by decide +kernel
theorem dL_acts_136 : decode cL_acts 136 = .ok (.iadd, 1) := by decide +kernel
theorem dL_acts_137 : decode cL_acts 137 = .ok (.iload 9, 2) := by decide +kernel
theorem dL_acts_139 : decode cL_acts 139 = .ok (.ifCond .eq 7, 3) := by decide +kernel
theorem dL_acts_142 : decode cL_acts 142 = .ok (.iconst (-1), 1) := by decide +kernel
theorem dL_acts_143 : decode cL_acts 143 = .ok (.goto 5, 3) := by decide +kernel
theorem dL_acts_146 : decode cL_acts 146 = .ok (.iload 11, 2) := by decide +kernel
theorem dL_acts_148 : decode cL_acts 148 = .ok (.iastore, 1) := by decide +kernel
theorem dL_acts_149 : decode cL_acts 149 = .ok (.aload 5, 2) := by decide +kernel
theorem dL_acts_151 : decode cL_acts 151 = .ok (.iconst 0, 1) := by decide +kernel
theorem dL_acts_152 : decode cL_acts 152 = .ok (.dup2, 1) := by decide +kernel
theorem dL_acts_153 : decode cL_acts 153 = .ok (.iaload, 1) := by decide +kernel
theorem dL_acts_154 : decode cL_acts 154 = .ok (.iconst 1, 1) := by decide +kernel
theorem dL_acts_155 : decode cL_acts 155 = .ok (.iadd, 1) := by decide +kernel
theorem dL_acts_156 : decode cL_acts 156 = .ok (.iastore, 1) := by decide +kernel
theorem dL_acts_157 : decode cL_acts 157 = .ok (.iload 9, 2) := by decide +kernel
theorem dL_acts_159 : decode cL_acts 159 = .ok (.ifCond .eq 12, 3) := by decide +kernel
theorem dL_acts_162 : decode cL_acts 162 = .ok (.aload_n 0, 1) := by decide +kernel
theorem dL_acts_163 : decode cL_acts 163 = .ok (.iload 10, 2) := by decide +kernel
theorem dL_acts_165 : decode cL_acts 165 = .ok (.invokestatic 126, 3) := by decide +kernel
theorem dL_acts_168 : decode cL_acts 168 = .ok (.goto 11, 3) := by decide +kernel
theorem dL_acts_171 : decode cL_acts 171 = .ok (.aload_n 0, 1) := by decide +kernel
theorem dL_acts_172 : decode cL_acts 172 = .ok (.iload 10, 2) := by decide +kernel
theorem dL_acts_174 : decode cL_acts 174 = .ok (.iload 11, 2) := by decide +kernel
theorem dL_acts_176 : decode cL_acts 176 = .ok (.invokestatic 128, 3) := by decide +kernel
theorem dL_acts_179 : decode cL_acts 179 = .ok (.iload 12, 2) := by decide +kernel
theorem dL_acts_181 : decode cL_acts 181 = .ok (.if_icmp .ne 70, 3) := by decide +kernel
theorem dL_acts_184 : decode cL_acts 184 = .ok (.iload 9, 2) := by decide +kernel
theorem dL_acts_186 : decode cL_acts 186 = .ok (.ifCond .eq 12, 3) := by decide +kernel
theorem dL_acts_189 : decode cL_acts 189 = .ok (.aload_n 1, 1) := by decide +kernel
theorem dL_acts_190 : decode cL_acts 190 = .ok (.iload 10, 2) := by decide +kernel
theorem dL_acts_192 : decode cL_acts 192 = .ok (.invokestatic 126, 3) := by decide +kernel
theorem dL_acts_195 : decode cL_acts 195 = .ok (.goto 11, 3) := by decide +kernel
theorem dL_acts_198 : decode cL_acts 198 = .ok (.aload_n 1, 1) := by decide +kernel
theorem dL_acts_199 : decode cL_acts 199 = .ok (.iload 10, 2) := by decide +kernel
theorem dL_acts_201 : decode cL_acts 201 = .ok (.iload 11, 2) := by decide +kernel
theorem dL_acts_203 : decode cL_acts 203 = .ok (.invokestatic 128, 3) := by decide +kernel
theorem dL_acts_206 : decode cL_acts 206 = .ok (.iload 12, 2) := by decide +kernel
theorem dL_acts_208 : decode cL_acts 208 = .ok (.if_icmp .ne 43, 3) := by decide +kernel
theorem dL_acts_211 : decode cL_acts 211 = .ok (.aload_n 0, 1) := by decide +kernel
theorem dL_acts_212 : decode cL_acts 212 = .ok (.sipush 1001, 3) := by decide +kernel
theorem dL_acts_215 : decode cL_acts 215 = .ok (.invokestatic 126, 3) := by decide +kernel
theorem dL_acts_218 : decode cL_acts 218 = .ok (.ldc 18, 2) := by decide +kernel
theorem dL_acts_220 : decode cL_acts 220 = .ok (.if_icmp .ne 31, 3) := by decide +kernel
theorem dL_acts_223 : decode cL_acts 223 = .ok (.aload_n 0, 1) := by decide +kernel
theorem dL_acts_224 : decode cL_acts 224 = .ok (.iconst 2, 1) := by decide +kernel
theorem dL_acts_225 : decode cL_acts 225 = .ok (.iconst 0, 1) := by decide +kernel
theorem dL_acts_226 : decode cL_acts 226 = .ok (.invokestatic 128, 3) := by decide +kernel
theorem dL_acts_229 : decode cL_acts 229 = .ok (.ldc 18, 2) := by decide +kernel
theorem dL_acts_231 : decode cL_acts 231 = .ok (.if_icmp .ne 20, 3) := by decide +kernel
theorem dL_acts_234 : decode cL_acts 234 = .ok (.aload_n 0, 1) := by decide +kernel
theorem dL_acts_235 : decode cL_acts 235 = .ok (.iconst 0, 1) := by decide +kernel
theorem dL_acts_236 : decode cL_acts 236 = .ok (.sipush 1001, 3) := by decide +kernel
theorem dL_acts_239 : decode cL_acts 239 = .ok (.invokestatic 128, 3) := by decide +kernel
theorem dL_acts_242 : decode cL_acts 242 = .ok (.ldc 18, 2) := by decide +kernel
theorem dL_acts_244 : decode cL_acts 244 = .ok (.if_icmp .ne 7, 3) := by decide +kernel
theorem dL_acts_247 : decode cL_acts 247 = .ok (.iconst 1, 1) := by decide +kernel
theorem dL_acts_248 : decode cL_acts 248 = .ok (.goto 4, 3) := by decide +kernel
theorem dL_acts_251 : decode cL_acts 251 = .ok (.iconst 0, 1) := by decide +kernel
theorem dL_acts_252 : decode cL_acts 252 = .ok (.ireturn, 1) := by decide +kernel
theorem dL_acts_253 : decode cL_acts 253 = .ok (.iload 6, 2) := by decide +kernel
theorem dL_acts_255 : decode cL_acts 255 = .ok (.iconst 5, 1) := by decide +kernel
theorem dL_acts_256 : decode cL_acts 256 = .ok (.ishr, 1) := by decide +kernel
theorem dL_acts_257 : decode cL_acts 257 = .ok (.aload 5, 2) := by decide +kernel
theorem dL_acts_259 : decode cL_acts 259 = .ok (.iconst 0, 1) := by decide +kernel
theorem dL_acts_260 : decode cL_acts 260 = .ok (.iaload, 1) := by decide +kernel
theorem dL_acts_261 : decode cL_acts 261 = .ok (.invokestatic 123, 3) := by decide +kernel
theorem dL_acts_264 : decode cL_acts 264 = .ok (.istore 9, 2) := by decide +kernel
theorem dL_acts_266 : decode cL_acts 266 = .ok (.aload_n 2, 1) := by decide +kernel
theorem dL_acts_267 : decode cL_acts 267 = .ok (.bipush 16, 2) := by decide +kernel
theorem dL_acts_269 : decode cL_acts 269 = .ok (.iload 9, 2) := by decide +kernel
theorem dL_acts_271 : decode cL_acts 271 = .ok (.iadd, 1) := by decide +kernel
theorem dL_acts_272 : decode cL_acts 272 = .ok (.iaload, 1) := by decide +kernel
theorem dL_acts_273 : decode cL_acts 273 = .ok (.ifCond .ge 7, 3) := by decide +kernel
theorem dL_acts_276 : decode cL_acts 276 = .ok (.iconst 1, 1) := by decide +kernel
theorem dL_acts_277 : decode cL_acts 277 = .ok (.goto 4, 3) := by decide +kernel
theorem dL_acts_280 : decode cL_acts 280 = .ok (.iconst 0, 1) := by decide +kernel
theorem dL_acts_281 : decode cL_acts 281 = .ok (.istore 10, 2) := by decide +kernel
theorem dL_acts_283 : decode cL_acts 283 = .ok (.iload 7, 2) := by decide +kernel
theorem dL_acts_285 : decode cL_acts 285 = .ok (.iconst 3, 1) := by decide +kernel
theorem dL_acts_286 : decode cL_acts 286 = .ok (.invokestatic 123, 3) := by decide +kernel
theorem dL_acts_289 : decode cL_acts 289 = .ok (.ifCond .ne 8, 3) := by decide +kernel
theorem dL_acts_292 : decode cL_acts 292 = .ok (.ldc 107, 2) := by decide +kernel
theorem dL_acts_294 : decode cL_acts 294 = .ok (.goto 67, 3) := by decide +kernel
theorem dL_acts_297 : decode cL_acts 297 = .ok (.iload 10, 2) := by decide +kernel
theorem dL_acts_299 : decode cL_acts 299 = .ok (.ifCond .eq 54, 3) := by decide +kernel
theorem dL_acts_302 : decode cL_acts 302 = .ok (.iload 7, 2) := by decide +kernel
theorem dL_acts_304 : decode cL_acts 304 = .ok (.iconst 2, 1) := by decide +kernel
theorem dL_acts_305 : decode cL_acts 305 = .ok (.ishr, 1) := by decide +kernel
theorem dL_acts_306 : decode cL_acts 306 = .ok (.iload 6, 2) := by decide +kernel
theorem dL_acts_308 : decode cL_acts 308 = .ok (.bipush 9, 2) := by decide +kernel
theorem dL_acts_310 : decode cL_acts 310 = .ok (.ishr, 1) := by decide +kernel
theorem dL_acts_311 : decode cL_acts 311 = .ok (.iconst 3, 1) := by decide +kernel
theorem dL_acts_312 : decode cL_acts 312 = .ok (.invokestatic 123, 3) := by decide +kernel
theorem dL_acts_315 : decode cL_acts 315 = .ok (.ifCond .ne 9, 3) := by decide +kernel
theorem dL_acts_318 : decode cL_acts 318 = .ok (.sipush 2001, 3) := by decide +kernel
theorem dL_acts_321 : decode cL_acts 321 = .ok (.goto 5, 3) := by decide +kernel
theorem dL_acts_324 : decode cL_acts 324 = .ok (.bipush 41, 2) := by decide +kernel
theorem dL_acts_326 : decode cL_acts 326 = .ok (.invokestatic 123, 3) := by decide +kernel
theorem dL_acts_329 : decode cL_acts 329 = .ok (.iload 6, 2) := by decide +kernel
theorem dL_acts_331 : decode cL_acts 331 = .ok (.bipush 9, 2) := by decide +kernel
