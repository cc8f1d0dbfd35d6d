theorem dL_cell_0 : decode cL_cell 0 = .ok (.iload_n 1, 1) := by decide +kernel
theorem dL_cell_1 : decode cL_cell 1 = .ok (.aload_n 0, 1) := by decide +kernel
theorem dL_cell_2 : decode cL_cell 2 = .ok (.arraylength, 1) := by decide +kernel
theorem dL_cell_3 : decode cL_cell 3 = .ok (.if_icmp .ge 9, 3) := by decide +kernel
theorem dL_cell_6 : decode cL_cell 6 = .ok (.aload_n 0, 1) := by decide +kernel
theorem dL_cell_7 : decode cL_cell 7 = .ok (.iload_n 1, 1) := by decide +kernel
theorem dL_cell_8 : decode cL_cell 8 = .ok (.iaload, 1) := by decide +kernel
theorem dL_cell_9 : decode cL_cell 9 = .ok (.goto 15, 3) := by decide +kernel
theorem dL_cell_12 : decode cL_cell 12 = .ok (.sipush 30403, 3) := by decide +kernel
theorem dL_cell_15 : decode cL_cell 15 = .ok (.iload_n 1, 1) := by decide +kernel
theorem dL_cell_16 : decode cL_cell 16 = .ok (.sipush 4096, 3) := by decide +kernel
theorem dL_cell_19 : decode cL_cell 19 = .ok (.irem, 1) := by decide +kernel
theorem dL_cell_20 : decode cL_cell 20 = .ok (.imul, 1) := by decide +kernel
theorem dL_cell_21 : decode cL_cell 21 = .ok (.bipush 127, 2) := by decide +kernel
theorem dL_cell_23 : decode cL_cell 23 = .ok (.iadd, 1) := by decide +kernel
theorem dL_cell_24 : decode cL_cell 24 = .ok (.ldc 7, 2) := by decide +kernel
theorem dL_cell_26 : decode cL_cell 26 = .ok (.iand, 1) := by decide +kernel
theorem dL_cell_27 : decode cL_cell 27 = .ok (.ireturn, 1) := by decide +kernel
theorem dL_hangs_0 : decode cL_hangs 0 = .ok (.aload_n 0, 1) := by decide +kernel
theorem dL_hangs_1 : decode cL_hangs 1 = .ok (.iload_n 1, 1) := by decide +kernel
theorem dL_hangs_2 : decode cL_hangs 2 = .ok (.iconst 5, 1) := by decide +kernel
theorem dL_hangs_3 : decode cL_hangs 3 = .ok (.invokevirtual 8, 3) := by decide +kernel
theorem dL_hangs_6 : decode cL_hangs 6 = .ok (.istore_n 2, 1) := by decide +kernel
theorem dL_hangs_7 : decode cL_hangs 7 = .ok (.aload_n 0, 1) := by decide +kernel
theorem dL_hangs_8 : decode cL_hangs 8 = .ok (.iload_n 1, 1) := by decide +kernel
theorem dL_hangs_9 : decode cL_hangs 9 = .ok (.bipush 6, 2) := by decide +kernel
theorem dL_hangs_11 : decode cL_hangs 11 = .ok (.invokevirtual 8, 3) := by decide +kernel
theorem dL_hangs_14 : decode cL_hangs 14 = .ok (.istore_n 3, 1) := by decide +kernel
theorem dL_hangs_15 : decode cL_hangs 15 = .ok (.aload_n 0, 1) := by decide +kernel
theorem dL_hangs_16 : decode cL_hangs 16 = .ok (.iload_n 1, 1) := by decide +kernel
theorem dL_hangs_17 : decode cL_hangs 17 = .ok (.bipush 7, 2) := by decide +kernel
theorem dL_hangs_19 : decode cL_hangs 19 = .ok (.invokevirtual 8, 3) := by decide +kernel
theorem dL_hangs_22 : decode cL_hangs 22 = .ok (.istore 4, 2) := by decide +kernel
theorem dL_hangs_24 : decode cL_hangs 24 = .ok (.iconst 0, 1) := by decide +kernel
theorem dL_hangs_25 : decode cL_hangs 25 = .ok (.istore 5, 2) := by decide +kernel
theorem dL_hangs_27 : decode cL_hangs 27 = .ok (.aload_n 0, 1) := by decide +kernel
theorem dL_hangs_28 : decode cL_hangs 28 = .ok (.iload_n 1, 1) := by decide +kernel
theorem dL_hangs_29 : decode cL_hangs 29 = .ok (.iload 4, 2) := by decide +kernel
theorem dL_hangs_31 : decode cL_hangs 31 = .ok (.iconst 0, 1) := by decide +kernel
theorem dL_hangs_32 : decode cL_hangs 32 = .ok (.invokevirtual 14, 3) := by decide +kernel
theorem dL_hangs_35 : decode cL_hangs 35 = .ok (.ldc 18, 2) := by decide +kernel
theorem dL_hangs_37 : decode cL_hangs 37 = .ok (.if_icmp .ne 7, 3) := by decide +kernel
theorem dL_hangs_40 : decode cL_hangs 40 = .ok (.iconst 1, 1) := by decide +kernel
theorem dL_hangs_41 : decode cL_hangs 41 = .ok (.goto 4, 3) := by decide +kernel
theorem dL_hangs_44 : decode cL_hangs 44 = .ok (.iconst 0, 1) := by decide +kernel
theorem dL_hangs_45 : decode cL_hangs 45 = .ok (.istore 6, 2) := by decide +kernel
theorem dL_hangs_47 : decode cL_hangs 47 = .ok (.iconst 0, 1) := by decide +kernel
theorem dL_hangs_48 : decode cL_hangs 48 = .ok (.istore 7, 2) := by decide +kernel
theorem dL_hangs_50 : decode cL_hangs 50 = .ok (.iload 7, 2) := by decide +kernel
theorem dL_hangs_52 : decode cL_hangs 52 = .ok (.iload 4, 2) := by decide +kernel
theorem dL_hangs_54 : decode cL_hangs 54 = .ok (.if_icmp .ge 300, 3) := by decide +kernel
theorem dL_hangs_57 : decode cL_hangs 57 = .ok (.iload 6, 2) := by decide +kernel
theorem dL_hangs_59 : decode cL_hangs 59 = .ok (.ifCond .eq 295, 3) := by decide +kernel
theorem dL_hangs_62 : decode cL_hangs 62 = .ok (.aload_n 0, 1) := by decide +kernel
theorem dL_hangs_63 : decode cL_hangs 63 = .ok (.iload_n 1, 1) := by decide +kernel
theorem dL_hangs_64 : decode cL_hangs 64 = .ok (.iload 7, 2) := by decide +kernel
theorem dL_hangs_66 : decode cL_hangs 66 = .ok (.iconst 0, 1) := by decide +kernel
theorem dL_hangs_67 : decode cL_hangs 67 = .ok (.invokevirtual 14, 3) := by decide +kernel
theorem dL_hangs_70 : decode cL_hangs 70 = .ok (.istore 8, 2) := by decide +kernel
theorem dL_hangs_72 : decode cL_hangs 72 = .ok (.bipush 24, 2) := by decide +kernel
theorem dL_hangs_74 : decode cL_hangs 74 = .ok (.aload_n 0, 1) := by decide +kernel
theorem dL_hangs_75 : decode cL_hangs 75 = .ok (.iload_n 1, 1) := by decide +kernel
theorem dL_hangs_76 : decode cL_hangs 76 = .ok (.iconst 1, 1) := by decide +kernel
theorem dL_hangs_77 : decode cL_hangs 77 = .ok (.invokevirtual 8, 3) := by decide +kernel
theorem dL_hangs_80 : decode cL_hangs 80 = .ok (.imul, 1) := by decide +kernel
theorem dL_hangs_81 : decode cL_hangs 81 = .ok (.istore 9, 2) := by decide +kernel
theorem dL_hangs_83 : decode cL_hangs 83 = .ok (.iload_n 3, 1) := by decide +kernel
theorem dL_hangs_84 : decode cL_hangs 84 = .ok (.aload_n 0, 1) := by decide +kernel
theorem dL_hangs_85 : decode cL_hangs 85 = .ok (.iload_n 2, 1) := by decide +kernel
theorem dL_hangs_86 : decode cL_hangs 86 = .ok (.aload_n 0, 1) := by decide +kernel
theorem dL_hangs_87 : decode cL_hangs 87 = .ok (.iload 8, 2) := by decide +kernel
theorem dL_hangs_89 : decode cL_hangs 89 = .ok (.iconst 1, 1) := by decide +kernel
theorem dL_hangs_90 : decode cL_hangs 90 = .ok (.invokevirtual 19, 3) := by decide +kernel
theorem dL_hangs_93 : decode cL_hangs 93 = .ok (.invokevirtual 22, 3) := by decide +kernel
theorem dL_hangs_96 : decode cL_hangs 96 = .ok (.iload 9, 2) := by decide +kernel
theorem dL_hangs_98 : decode cL_hangs 98 = .ok (.iadd, 1) := by decide +kernel
theorem dL_hangs_99 : decode cL_hangs 99 = .ok (.iconst 1, 1) := by decide +kernel
theorem dL_hangs_100 : decode cL_hangs 100 = .ok (.isub, 1) := by decide +kernel
theorem dL_hangs_101 : decode cL_hangs 101 = .ok (.iload 9, 2) := by decide +kernel
theorem dL_hangs_103 : decode cL_hangs 103 = .ok (.idiv, 1) := by decide +kernel
theorem dL_hangs_104 : decode cL_hangs 104 = .ok (.iadd, 1) := by decide +kernel
theorem dL_hangs_105 : decode cL_hangs 105 = .ok (.istore 10, 2) := by decide +kernel
theorem dL_hangs_107 : decode cL_hangs 107 = .ok (.iload 10, 2) := by decide +kernel
theorem dL_hangs_109 : decode cL_hangs 109 = .ok (.aload_n 0, 1) := by decide +kernel
theorem dL_hangs_110 : decode cL_hangs 110 = .ok (.iload 8, 2) := by decide +kernel
theorem dL_hangs_112 : decode cL_hangs 112 = .ok (.iconst 3, 1) := by decide +kernel
theorem dL_hangs_113 : decode cL_hangs 113 = .ok (.invokevirtual 19, 3) := by decide +kernel
theorem dL_hangs_116 : decode cL_hangs 116 = .ok (.if_icmp .ge 13, 3) := by decide +kernel
theorem dL_hangs_119 : decode cL_hangs 119 = .ok (.aload_n 0, 1) := by decide +kernel
theorem dL_hangs_120 : decode cL_hangs 120 = .ok (.iload 8, 2) := by decide +kernel
theorem dL_hangs_122 : decode cL_hangs 122 = .ok (.iconst 3, 1) := by decide +kernel
theorem dL_hangs_123 : decode cL_hangs 123 = .ok (.invokevirtual 19, 3) := by decide +kernel
theorem dL_hangs_126 : decode cL_hangs 126 = .ok (.goto 5, 3) := by decide +kernel
theorem dL_hangs_129 : decode cL_hangs 129 = .ok (.iload 10, 2) := by decide +kernel
theorem dL_hangs_131 : decode cL_hangs 131 = .ok (.istore 11, 2) := by decide +kernel
theorem dL_hangs_133 : decode cL_hangs 133 = .ok (.iload 11, 2) := by decide +kernel
theorem dL_hangs_135 : decode cL_hangs 135 = .ok (.iconst 4, 1) := by decide +kernel
theorem dL_hangs_136 : decode cL_hangs 136 = .ok (.iadd, 1) := by decide +kernel
theorem dL_hangs_137 : decode cL_hangs 137 = .ok (.aload_n 0, 1) := by decide +kernel
theorem dL_hangs_138 : decode cL_hangs 138 = .ok (.aload_n 0, 1) := by decide +kernel
theorem dL_hangs_139 : decode cL_hangs 139 = .ok (.iload 8, 2) := by decide +kernel
theorem dL_hangs_141 : decode cL_hangs 141 = .ok (.iconst 1, 1) := by decide +kernel
theorem dL_hangs_142 : decode cL_hangs 142 = .ok (.invokevirtual 19, 3) := by decide +kernel
theorem dL_hangs_145 : decode cL_hangs 145 = .ok (.aload_n 0, 1) := by decide +kernel
theorem dL_hangs_146 : decode cL_hangs 146 = .ok (.iload 8, 2) := by decide +kernel
theorem dL_hangs_148 : decode cL_hangs 148 = .ok (.iconst 2, 1) := by decide +kernel
theorem dL_hangs_149 : decode cL_hangs 149 = .ok (.invokevirtual 19, 3) := by decide +kernel
theorem dL_hangs_152 : decode cL_hangs 152 = .ok (.invokevirtual 22, 3) := by decide +kernel
theorem dL_hangs_155 : decode cL_hangs 155 = .ok (.iload 9, 2) := by decide +kernel
theorem dL_hangs_157 : decode cL_hangs 157 = .ok (.iadd, 1) := by decide +kernel
theorem dL_hangs_158 : decode cL_hangs 158 = .ok (.iconst 1, 1) := by decide +kernel
theorem dL_hangs_159 : decode cL_hangs 159 = .ok (.isub, 1) := by decide +kernel
theorem dL_hangs_160 : decode cL_hangs 160 = .ok (.iload 9, 2) := by decide +kernel
theorem dL_hangs_162 : decode cL_hangs 162 = .ok (.idiv, 1) := by decide +kernel
theorem dL_hangs_163 : decode cL_hangs 163 = .ok (.iadd, 1) := by decide +kernel
theorem dL_hangs_164 : decode cL_hangs 164 = .ok (.istore 12, 2) := by decide +kernel
theorem dL_hangs_166 : decode cL_hangs 166 = .ok (.aload_n 0, 1) := by decide +kernel
theorem dL_hangs_167 : decode cL_hangs 167 = .ok (.iload 8, 2) := by decide +kernel
theorem dL_hangs_169 : decode cL_hangs 169 = .ok (.iconst 0, 1) := by decide +kernel
theorem dL_hangs_170 : decode cL_hangs 170 = .ok (.invokevirtual 19, 3) := by decide +kernel
theorem dL_hangs_173 : decode cL_hangs 173 = .ok (.aload_n 0, 1) := by decide +kernel
theorem dL_hangs_174 : decode cL_hangs 174 = .ok (.iload 8, 2) := by decide +kernel
theorem dL_hangs_176 : decode cL_hangs 176 = .ok (.iconst 5, 1) := by decide +kernel
theorem dL_hangs_177 : decode cL_hangs 177 = .ok (.invokevirtual 19, 3) := by decide +kernel
theorem dL_hangs_180 : decode cL_hangs 180 = .ok (.imul, 1) := by decide +kernel
theorem dL_hangs_181 : decode cL_hangs 181 = .ok (.iload 12, 2) := by decide +kernel
theorem dL_hangs_183 : decode cL_hangs 183 = .ok (.iload_n 3, 1) := by decide +kernel
theorem dL_hangs_184 : decode cL_hangs 184 = .ok (.isub, 1) := by decide +kernel
theorem dL_hangs_185 : decode cL_hangs 185 = .ok (.aload_n 0, 1) := by decide +kernel
theorem dL_hangs_186 : decode cL_hangs 186 = .ok (.iload_n 1, 1) := by decide +kernel
theorem dL_hangs_187 : decode cL_hangs 187 = .ok (.iconst 2, 1) := by decide +kernel
theorem dL_hangs_188 : decode cL_hangs 188 = .ok (.invokevirtual 8, 3) := by decide +kernel
theorem dL_hangs_191 : decode cL_hangs 191 = .ok (.imul, 1) := by decide +kernel
theorem dL_hangs_192 : decode cL_hangs 192 = .ok (.isub, 1) := by decide +kernel
theorem dL_hangs_193 : decode cL_hangs 193 = .ok (.istore 13, 2) := by decide +kernel
theorem dL_hangs_195 : decode cL_hangs 195 = .ok (.aload_n 0, 1) := by decide +kernel
theorem dL_hangs_196 : decode cL_hangs 196 = .ok (.iload 8, 2) := by decide +kernel
theorem dL_hangs_198 : decode cL_hangs 198 = .ok (.bipush 6, 2) := by decide +kernel
theorem dL_hangs_200 : decode cL_hangs 200 = .ok (.invokevirtual 19, 3) := by decide +kernel
theorem dL_hangs_203 : decode cL_hangs 203 = .ok (.iconst 1, 1) := by decide +kernel
theorem dL_hangs_204 : decode cL_hangs 204 = .ok (.if_icmp .ne 123, 3) := by decide +kernel
theorem dL_hangs_207 : decode cL_hangs 207 = .ok (.aload_n 0, 1) := by decide +kernel
theorem dL_hangs_208 : decode cL_hangs 208 = .ok (.iload 8, 2) := by decide +kernel
theorem dL_hangs_210 : decode cL_hangs 210 = .ok (.bipush 7, 2) := by decide +kernel
theorem dL_hangs_212 : decode cL_hangs 212 = .ok (.invokevirtual 19, 3) := by decide +kernel
theorem dL_hangs_215 : decode cL_hangs 215 = .ok (.iload_n 1, 1) := by decide +kernel
theorem dL_hangs_216 : decode cL_hangs 216 = .ok (.if_icmp .ne 111, 3) := by decide +kernel
theorem dL_hangs_219 : decode cL_hangs 219 = .ok (.aload_n 0, 1) := by decide +kernel
theorem dL_hangs_220 : decode cL_hangs 220 = .ok (.iload 8, 2) := by decide +kernel
theorem dL_hangs_222 : decode cL_hangs 222 = .ok (.iconst 0, 1) := by decide +kernel
theorem dL_hangs_223 : decode cL_hangs 223 = .ok (.invokevirtual 19, 3) := by decide +kernel
theorem dL_hangs_226 : decode cL_hangs 226 = .ok (.aload_n 0, 1) := by decide +kernel
theorem dL_hangs_227 : decode cL_hangs 227 = .ok (.iload_n 1, 1) := by decide +kernel
theorem dL_hangs_228 : decode cL_hangs 228 = .ok (.iconst 0, 1) := by decide +kernel
theorem dL_hangs_229 : decode cL_hangs 229 = .ok (.invokevirtual 8, 3) := by decide +kernel
theorem dL_hangs_232 : decode cL_hangs 232 = .ok (.if_icmp .gt 95, 3) := by decide +kernel
theorem dL_hangs_235 : decode cL_hangs 235 = .ok (.iload 10, 2) := by decide +kernel
theorem dL_hangs_237 : decode cL_hangs 237 = .ok (.aload_n 0, 1) := by decide +kernel
theorem dL_hangs_238 : decode cL_hangs 238 = .ok (.iload 8, 2) := by decide +kernel
theorem dL_hangs_240 : decode cL_hangs 240 = .ok (.iconst 4, 1) := by decide +kernel
theorem dL_hangs_241 : decode cL_hangs 241 = .ok (.invokevirtual 19, 3) := by decide +kernel
theorem dL_hangs_244 : decode cL_hangs 244 = .ok (.if_icmp .gt 83, 3) := by decide +kernel
theorem dL_hangs_247 : decode cL_hangs 247 = .ok (.aload_n 0, 1) := by decide +kernel
theorem dL_hangs_248 : decode cL_hangs 248 = .ok (.iload_n 1, 1) := by decide +kernel
theorem dL_hangs_249 : decode cL_hangs 249 = .ok (.iload 7, 2) := by decide +kernel
theorem dL_hangs_251 : decode cL_hangs 251 = .ok (.iconst 1, 1) := by decide +kernel
theorem dL_hangs_252 : decode cL_hangs 252 = .ok (.invokevirtual 14, 3) := by decide +kernel
theorem dL_hangs_255 : decode cL_hangs 255 = .ok (.iload 10, 2) := by decide +kernel
theorem dL_hangs_257 : decode cL_hangs 257 = .ok (.if_icmp .ne 70, 3) := by decide +kernel
theorem dL_hangs_260 : decode cL_hangs 260 = .ok (.aload_n 0, 1) := by decide +kernel
theorem dL_hangs_261 : decode cL_hangs 261 = .ok (.iload_n 1, 1) := by decide +kernel
theorem dL_hangs_262 : decode cL_hangs 262 = .ok (.iload 7, 2) := by decide +kernel
theorem dL_hangs_264 : decode cL_hangs 264 = .ok (.iconst 2, 1) := by decide +kernel
theorem dL_hangs_265 : decode cL_hangs 265 = .ok (.invokevirtual 14, 3) := by decide +kernel
theorem dL_hangs_268 : decode cL_hangs 268 = .ok (.iload 11, 2) := by decide +kernel
theorem dL_hangs_270 : decode cL_hangs 270 = .ok (.if_icmp .ne 57, 3) := by decide +kernel
theorem dL_hangs_273 : decode cL_hangs 273 = .ok (.aload_n 0, 1) := by decide +kernel
theorem dL_hangs_274 : decode cL_hangs 274 = .ok (.iload_n 1, 1) := by decide +kernel
theorem dL_hangs_275 : decode cL_hangs 275 = .ok (.iload 7, 2) := by decide +kernel
theorem dL_hangs_277 : decode cL_hangs 277 = .ok (.iconst 3, 1) := by decide +kernel
theorem dL_hangs_278 : decode cL_hangs 278 = .ok (.invokevirtual 14, 3) := by decide +kernel
theorem dL_hangs_281 : decode cL_hangs 281 = .ok (.iload 12, 2) := by decide +kernel
theorem dL_hangs_283 : decode cL_hangs 283 = .ok (.if_icmp .ne 44, 3) := by decide +kernel
theorem dL_hangs_286 : decode cL_hangs 286 = .ok (.aload_n 0, 1) := by decide +kernel
theorem dL_hangs_287 : decode cL_hangs 287 = .ok (.iload_n 1, 1) := by decide +kernel
theorem dL_hangs_288 : decode cL_hangs 288 = .ok (.iload 7, 2) := by decide +kernel
theorem dL_hangs_290 : decode cL_hangs 290 = .ok (.iconst 4, 1) := by decide +kernel
theorem dL_hangs_291 : decode cL_hangs 291 = .ok (.invokevirtual 14, 3) := by decide +kernel
theorem dL_hangs_294 : decode cL_hangs 294 = .ok (.iload 13, 2) := by decide +kernel
theorem dL_hangs_296 : decode cL_hangs 296 = .ok (.ldc 25, 2) := by decide +kernel
theorem dL_hangs_298 : decode cL_hangs 298 = .ok (.iadd, 1) := by decide +kernel
theorem dL_hangs_299 : decode cL_hangs 299 = .ok (.if_icmp .ne 28, 3) := by decide +kernel
theorem dL_hangs_302 : decode cL_hangs 302 = .ok (.aload_n 0, 1) := by decide +kernel
theorem dL_hangs_303 : decode cL_hangs 303 = .ok (.iload_n 1, 1) := by decide +kernel
theorem dL_hangs_304 : decode cL_hangs 304 = .ok (.iload 7, 2) := by decide +kernel
theorem dL_hangs_306 : decode cL_hangs 306 = .ok (.iconst 5, 1) := by decide +kernel
theorem dL_hangs_307 : decode cL_hangs 307 = .ok (.invokevirtual 14, 3) := by decide +kernel
theorem dL_hangs_310 : decode cL_hangs 310 = .ok (.aload_n 0, 1) := by decide +kernel
theorem dL_hangs_311 : decode cL_hangs 311 = .ok (.iload 8, 2) := by decide +kernel
theorem dL_hangs_313 : decode cL_hangs 313 = .ok (.iconst 4, 1) := by decide +kernel
theorem dL_hangs_314 : decode cL_hangs 314 = .ok (.invokevirtual 19, 3) := by decide +kernel
theorem dL_hangs_317 : decode cL_hangs 317 = .ok (.iload 10, 2) := by decide +kernel
theorem dL_hangs_319 : decode cL_hangs 319 = .ok (.isub, 1) := by decide +kernel
theorem dL_hangs_320 : decode cL_hangs 320 = .ok (.if_icmp .ne 7, 3) := by decide +kernel
theorem dL_hangs_323 : decode cL_hangs 323 = .ok (.iconst 1, 1) := by decide +kernel
theorem dL_hangs_324 : decode cL_hangs 324 = .ok (.goto 4, 3) := by decide +kernel
theorem dL_hangs_327 : decode cL_hangs 327 = .ok (.iconst 0, 1) := by decide +kernel
theorem dL_hangs_328 : decode cL_hangs 328 = .ok (.istore 6, 2) := by decide +kernel
theorem dL_hangs_330 : decode cL_hangs 330 = .ok (.iload 5, 2) := by decide +kernel
theorem dL_hangs_332 : decode cL_hangs 332 = .ok (.iload 13, 2) := by decide +kernel
theorem dL_hangs_334 : decode cL_hangs 334 = .ok (.iadd, 1) := by decide +kernel
theorem dL_hangs_335 : decode cL_hangs 335 = .ok (.istore 5, 2) := by decide +kernel
theorem dL_hangs_337 : decode cL_hangs 337 = .ok (.aload_n 0, 1) := by decide +kernel
theorem dL_hangs_338 : decode cL_hangs 338 = .ok (.iload 8, 2) := by decide +kernel
theorem dL_hangs_340 : decode cL_hangs 340 = .ok (.iconst 2, 1) := by decide +kernel
theorem dL_hangs_341 : decode cL_hangs 341 = .ok (.invokevirtual 19, 3) := by decide +kernel
theorem dL_hangs_344 : decode cL_hangs 344 = .ok (.istore_n 2, 1) := by decide +kernel
theorem dL_hangs_345 : decode cL_hangs 345 = .ok (.iload 12, 2) := by decide +kernel
theorem dL_hangs_347 : decode cL_hangs 347 = .ok (.istore_n 3, 1) := by decide +kernel
theorem dL_hangs_348 : decode cL_hangs 348 = .ok (.iinc 7 1, 3) := by decide +kernel
theorem dL_hangs_351 : decode cL_hangs 351 = .ok (.goto (-301), 3) := by decide +kernel
theorem dL_hangs_354 : decode cL_hangs 354 = .ok (.iload 6, 2) := by decide +kernel
theorem dL_hangs_356 : decode cL_hangs 356 = .ok (.ifCond .eq 57, 3) := by decide +kernel
theorem dL_hangs_359 : decode cL_hangs 359 = .ok (.aload_n 0, 1) := by decide +kernel
theorem dL_hangs_360 : decode cL_hangs 360 = .ok (.iload_n 1, 1) := by decide +kernel
theorem dL_hangs_361 : decode cL_hangs 361 = .ok (.iconst 3, 1) := by decide +kernel
theorem dL_hangs_362 : decode cL_hangs 362 = .ok (.invokevirtual 8, 3) := by decide +kernel
theorem dL_hangs_365 : decode cL_hangs 365 = .ok (.iload_n 2, 1) := by decide +kernel
theorem dL_hangs_366 : decode cL_hangs 366 = .ok (.if_icmp .ne 47, 3) := by decide +kernel
theorem dL_hangs_369 : decode cL_hangs 369 = .ok (.aload_n 0, 1) := by decide +kernel
theorem dL_hangs_370 : decode cL_hangs 370 = .ok (.iload_n 1, 1) := by decide +kernel
theorem dL_hangs_371 : decode cL_hangs 371 = .ok (.iconst 4, 1) := by decide +kernel
theorem dL_hangs_372 : decode cL_hangs 372 = .ok (.invokevirtual 8, 3) := by decide +kernel
theorem dL_hangs_375 : decode cL_hangs 375 = .ok (.iload_n 3, 1) := by decide +kernel
theorem dL_hangs_376 : decode cL_hangs 376 = .ok (.if_icmp .ne 37, 3) := by decide +kernel
theorem dL_hangs_379 : decode cL_hangs 379 = .ok (.aload_n 0, 1) := by decide +kernel
theorem dL_hangs_380 : decode cL_hangs 380 = .ok (.iload_n 1, 1) := by decide +kernel
theorem dL_hangs_381 : decode cL_hangs 381 = .ok (.bipush 9, 2) := by decide +kernel
theorem dL_hangs_383 : decode cL_hangs 383 = .ok (.invokevirtual 8, 3) := by decide +kernel
theorem dL_hangs_386 : decode cL_hangs 386 = .ok (.iload 5, 2) := by decide +kernel
theorem dL_hangs_388 : decode cL_hangs 388 = .ok (.ldc 25, 2) := by decide +kernel
theorem dL_hangs_390 : decode cL_hangs 390 = .ok (.iadd, 1) := by decide +kernel
theorem dL_hangs_391 : decode cL_hangs 391 = .ok (.if_icmp .ne 22, 3) := by decide +kernel
theorem dL_hangs_394 : decode cL_hangs 394 = .ok (.iload 4, 2) := by decide +kernel
theorem dL_hangs_396 : decode cL_hangs 396 = .ok (.ifCond .gt 13, 3) := by decide +kernel
theorem dL_hangs_399 : decode cL_hangs 399 = .ok (.aload_n 0, 1) := by decide +kernel
theorem dL_hangs_400 : decode cL_hangs 400 = .ok (.iload_n 1, 1) := by decide +kernel
theorem dL_hangs_401 : decode cL_hangs 401 = .ok (.invokevirtual 26, 3) := by decide +kernel
theorem dL_hangs_404 : decode cL_hangs 404 = .ok (.ldc 18, 2) := by decide +kernel
theorem dL_hangs_406 : decode cL_hangs 406 = .ok (.if_icmp .ne 7, 3) := by decide +kernel
theorem dL_hangs_409 : decode cL_hangs 409 = .ok (.iconst 1, 1) := by decide +kernel
theorem dL_hangs_410 : decode cL_hangs 410 = .ok (.goto 4, 3) := by decide +kernel
theorem dL_hangs_413 : decode cL_hangs 413 = .ok (.iconst 0, 1) := by decide +kernel
theorem dL_hangs_414 : decode cL_hangs 414 = .ok (.ireturn, 1) := by decide +kernel
theorem dL_all_0 : decode cL_all 0 = .ok (.iconst 0, 1) := by decide +kernel
theorem dL_all_1 : decode cL_all 1 = .ok (.istore_n 1, 1) := by decide +kernel
theorem dL_all_2 : decode cL_all 2 = .ok (.ldc 25, 2) := by decide +kernel
theorem dL_all_4 : decode cL_all 4 = .ok (.istore_n 2, 1) := by decide +kernel
theorem dL_all_5 : decode cL_all 5 = .ok (.iconst 1, 1) := by decide +kernel
theorem dL_all_6 : decode cL_all 6 = .ok (.istore_n 3, 1) := by decide +kernel
theorem dL_all_7 : decode cL_all 7 = .ok (.iconst 0, 1) := by decide +kernel
theorem dL_all_8 : decode cL_all 8 = .ok (.istore 4, 2) := by decide +kernel
theorem dL_all_10 : decode cL_all 10 = .ok (.iload 4, 2) := by decide +kernel
theorem dL_all_12 : decode cL_all 12 = .ok (.aload_n 0, 1) := by decide +kernel
theorem dL_all_13 : decode cL_all 13 = .ok (.iconst 0, 1) := by decide +kernel
theorem dL_all_14 : decode cL_all 14 = .ok (.invokevirtual 30, 3) := by decide +kernel
theorem dL_all_17 : decode cL_all 17 = .ok (.if_icmp .ge 61, 3) := by decide +kernel
theorem dL_all_20 : decode cL_all 20 = .ok (.iload_n 3, 1) := by decide +kernel
theorem dL_all_21 : decode cL_all 21 = .ok (.ifCond .eq 57, 3) := by decide +kernel
theorem dL_all_24 : decode cL_all 24 = .ok (.aload_n 0, 1) := by decide +kernel
theorem dL_all_25 : decode cL_all 25 = .ok (.iload 4, 2) := by decide +kernel
theorem dL_all_27 : decode cL_all 27 = .ok (.invokestatic 33, 3) := by decide +kernel
theorem dL_all_30 : decode cL_all 30 = .ok (.istore_n 3, 1) := by decide +kernel
theorem dL_all_31 : decode cL_all 31 = .ok (.iload_n 1, 1) := by decide +kernel
theorem dL_all_32 : decode cL_all 32 = .ok (.iload_n 3, 1) := by decide +kernel
theorem dL_all_33 : decode cL_all 33 = .ok (.ifCond .eq 14, 3) := by decide +kernel
theorem dL_all_36 : decode cL_all 36 = .ok (.aload_n 0, 1) := by decide +kernel
theorem dL_all_37 : decode cL_all 37 = .ok (.iload 4, 2) := by decide +kernel
theorem dL_all_39 : decode cL_all 39 = .ok (.bipush 7, 2) := by decide +kernel
theorem dL_all_41 : decode cL_all 41 = .ok (.invokevirtual 8, 3) := by decide +kernel
theorem dL_all_44 : decode cL_all 44 = .ok (.goto 4, 3) := by decide +kernel
theorem dL_all_47 : decode cL_all 47 = .ok (.iconst 0, 1) := by decide +kernel
theorem dL_all_48 : decode cL_all 48 = .ok (.iadd, 1) := by decide +kernel
theorem dL_all_49 : decode cL_all 49 = .ok (.istore_n 1, 1) := by decide +kernel
theorem dL_all_50 : decode cL_all 50 = .ok (.iload_n 2, 1) := by decide +kernel
theorem dL_all_51 : decode cL_all 51 = .ok (.iload_n 3, 1) := by decide +kernel
theorem dL_all_52 : decode cL_all 52 = .ok (.ifCond .eq 17, 3) := by decide +kernel
theorem dL_all_55 : decode cL_all 55 = .ok (.aload_n 0, 1) := by decide +kernel
theorem dL_all_56 : decode cL_all 56 = .ok (.iload 4, 2) := by decide +kernel
theorem dL_all_58 : decode cL_all 58 = .ok (.bipush 8, 2) := by decide +kernel
theorem dL_all_60 : decode cL_all 60 = .ok (.invokevirtual 8, 3) := by decide +kernel
theorem dL_all_63 : decode cL_all 63 = .ok (.ldc 25, 2) := by decide +kernel
theorem dL_all_65 : decode cL_all 65 = .ok (.isub, 1) := by decide +kernel
theorem dL_all_66 : decode cL_all 66 = .ok (.goto 4, 3) := by decide +kernel
theorem dL_all_69 : decode cL_all 69 = .ok (.iconst 0, 1) := by decide +kernel
theorem dL_all_70 : decode cL_all 70 = .ok (.iadd, 1) := by decide +kernel
theorem dL_all_71 : decode cL_all 71 = .ok (.istore_n 2, 1) := by decide +kernel
theorem dL_all_72 : decode cL_all 72 = .ok (.iinc 4 1, 3) := by decide +kernel
theorem dL_all_75 : decode cL_all 75 = .ok (.goto (-65), 3) := by decide +kernel
theorem dL_all_78 : decode cL_all 78 = .ok (.iconst 0, 1) := by decide +kernel
theorem dL_all_79 : decode cL_all 79 = .ok (.istore 4, 2) := by decide +kernel
theorem dL_all_81 : decode cL_all 81 = .ok (.iconst 0, 1) := by decide +kernel
theorem dL_all_82 : decode cL_all 82 = .ok (.istore 5, 2) := by decide +kernel
theorem dL_all_84 : decode cL_all 84 = .ok (.iload 5, 2) := by decide +kernel
theorem dL_all_86 : decode cL_all 86 = .ok (.aload_n 0, 1) := by decide +kernel
theorem dL_all_87 : decode cL_all 87 = .ok (.iconst 1, 1) := by decide +kernel
theorem dL_all_88 : decode cL_all 88 = .ok (.invokevirtual 30, 3) := by decide +kernel
theorem dL_all_91 : decode cL_all 91 = .ok (.if_icmp .ge 65, 3) := by decide +kernel
theorem dL_all_94 : decode cL_all 94 = .ok (.iload_n 3, 1) := by decide +kernel
theorem dL_all_95 : decode cL_all 95 = .ok (.ifCond .eq 61, 3) := by decide +kernel
theorem dL_all_98 : decode cL_all 98 = .ok (.iload 4, 2) := by decide +kernel
theorem dL_all_100 : decode cL_all 100 = .ok (.aload_n 0, 1) := by decide +kernel
theorem dL_all_101 : decode cL_all 101 = .ok (.iload 5, 2) := by decide +kernel
theorem dL_all_103 : decode cL_all 103 = .ok (.bipush 6, 2) := by decide +kernel
theorem dL_all_105 : decode cL_all 105 = .ok (.invokevirtual 19, 3) := by decide +kernel
theorem dL_all_108 : decode cL_all 108 = .ok (.ifCond .ne 7, 3) := by decide +kernel
theorem dL_all_111 : decode cL_all 111 = .ok (.iconst 1, 1) := by decide +kernel
theorem dL_all_112 : decode cL_all 112 = .ok (.goto 4, 3) := by decide +kernel
theorem dL_all_115 : decode cL_all 115 = .ok (.iconst 0, 1) := by decide +kernel
theorem dL_all_116 : decode cL_all 116 = .ok (.iadd, 1) := by decide +kernel
theorem dL_all_117 : decode cL_all 117 = .ok (.istore 4, 2) := by decide +kernel
theorem dL_all_119 : decode cL_all 119 = .ok (.aload_n 0, 1) := by decide +kernel
theorem dL_all_120 : decode cL_all 120 = .ok (.iload 5, 2) := by decide +kernel
theorem dL_all_122 : decode cL_all 122 = .ok (.bipush 7, 2) := by decide +kernel
theorem dL_all_124 : decode cL_all 124 = .ok (.invokevirtual 19, 3) := by decide +kernel
theorem dL_all_127 : decode cL_all 127 = .ok (.ldc 18, 2) := by decide +kernel
theorem dL_all_129 : decode cL_all 129 = .ok (.if_icmp .eq 15, 3) := by decide +kernel
theorem dL_all_132 : decode cL_all 132 = .ok (.aload_n 0, 1) := by decide +kernel
theorem dL_all_133 : decode cL_all 133 = .ok (.iload 5, 2) := by decide +kernel
theorem dL_all_135 : decode cL_all 135 = .ok (.bipush 6, 2) := by decide +kernel
theorem dL_all_137 : decode cL_all 137 = .ok (.invokevirtual 19, 3) := by decide +kernel
theorem dL_all_140 : decode cL_all 140 = .ok (.iconst 1, 1) := by decide +kernel
theorem dL_all_141 : decode cL_all 141 = .ok (.if_icmp .ne 7, 3) := by decide +kernel
theorem dL_all_144 : decode cL_all 144 = .ok (.iconst 1, 1) := by decide +kernel
theorem dL_all_145 : decode cL_all 145 = .ok (.goto 4, 3) := by decide +kernel
theorem dL_all_148 : decode cL_all 148 = .ok (.iconst 0, 1) := by decide +kernel
theorem dL_all_149 : decode cL_all 149 = .ok (.istore_n 3, 1) := by decide +kernel
theorem dL_all_150 : decode cL_all 150 = .ok (.iinc 5 1, 3) := by decide +kernel
theorem dL_all_153 : decode cL_all 153 = .ok (.goto (-69), 3) := by decide +kernel
theorem dL_all_156 : decode cL_all 156 = .ok (.iload_n 3, 1) := by decide +kernel
theorem dL_all_157 : decode cL_all 157 = .ok (.ifCond .eq 35, 3) := by decide +kernel
theorem dL_all_160 : decode cL_all 160 = .ok (.aload_n 0, 1) := by decide +kernel
theorem dL_all_161 : decode cL_all 161 = .ok (.iconst 3, 1) := by decide +kernel
theorem dL_all_162 : decode cL_all 162 = .ok (.invokevirtual 30, 3) := by decide +kernel
theorem dL_all_165 : decode cL_all 165 = .ok (.iload_n 1, 1) := by decide +kernel
theorem dL_all_166 : decode cL_all 166 = .ok (.if_icmp .ne 26, 3) := by decide +kernel
theorem dL_all_169 : decode cL_all 169 = .ok (.aload_n 0, 1) := by decide +kernel
theorem dL_all_170 : decode cL_all 170 = .ok (.iconst 2, 1) := by decide +kernel
theorem dL_all_171 : decode cL_all 171 = .ok (.invokevirtual 30, 3) := by decide +kernel
theorem dL_all_174 : decode cL_all 174 = .ok (.iload 4, 2) := by decide +kernel
theorem dL_all_176 : decode cL_all 176 = .ok (.if_icmp .ne 16, 3) := by decide +kernel
theorem dL_all_179 : decode cL_all 179 = .ok (.aload_n 0, 1) := by decide +kernel
theorem dL_all_180 : decode cL_all 180 = .ok (.iconst 4, 1) := by decide +kernel
theorem dL_all_181 : decode cL_all 181 = .ok (.invokevirtual 30, 3) := by decide +kernel
theorem dL_all_184 : decode cL_all 184 = .ok (.iload_n 2, 1) := by decide +kernel
theorem dL_all_185 : decode cL_all 185 = .ok (.if_icmp .ne 7, 3) := by decide +kernel
theorem dL_all_188 : decode cL_all 188 = .ok (.iconst 1, 1) := by decide +kernel
theorem dL_all_189 : decode cL_all 189 = .ok (.goto 4, 3) := by decide +kernel
theorem dL_all_192 : decode cL_all 192 = .ok (.iconst 0, 1) := by decide +kernel
theorem dL_all_193 : decode cL_all 193 = .ok (.ireturn, 1) := by decide +kernel
theorem dL_law_0 : decode cL_law 0 = .ok (.new 9, 3) := by decide +kernel
theorem dL_law_3 : decode cL_law 3 = .ok (.dup, 1) := by decide +kernel
theorem dL_law_4 : decode cL_law 4 = .ok (.invokespecial 39, 3) := by decide +kernel
theorem dL_law_7 : decode cL_law 7 = .ok (.astore_n 1, 1) := by decide +kernel
theorem dL_law_8 : decode cL_law 8 = .ok (.aload_n 1, 1) := by decide +kernel
theorem dL_law_9 : decode cL_law 9 = .ok (.iconst 0, 1) := by decide +kernel
theorem dL_law_10 : decode cL_law 10 = .ok (.iconst 4, 1) := by decide +kernel
theorem dL_law_11 : decode cL_law 11 = .ok (.invokevirtual 22, 3) := by decide +kernel
theorem dL_law_14 : decode cL_law 14 = .ok (.sipush 450, 3) := by decide +kernel
theorem dL_law_17 : decode cL_law 17 = .ok (.if_icmp .ne 17, 3) := by decide +kernel
theorem dL_law_20 : decode cL_law 20 = .ok (.aload_n 1, 1) := by decide +kernel
theorem dL_law_21 : decode cL_law 21 = .ok (.iconst 0, 1) := by decide +kernel
theorem dL_law_22 : decode cL_law 22 = .ok (.invokevirtual 40, 3) := by decide +kernel
theorem dL_law_25 : decode cL_law 25 = .ok (.ldc 43, 2) := by decide +kernel
theorem dL_law_27 : decode cL_law 27 = .ok (.if_icmp .ne 7, 3) := by decide +kernel
theorem dL_law_30 : decode cL_law 30 = .ok (.iconst 1, 1) := by decide +kernel
theorem dL_law_31 : decode cL_law 31 = .ok (.goto 4, 3) := by decide +kernel
theorem dL_law_34 : decode cL_law 34 = .ok (.iconst 0, 1) := by decide +kernel
theorem dL_law_35 : decode cL_law 35 = .ok (.istore_n 2, 1) := by decide +kernel
theorem dL_law_36 : decode cL_law 36 = .ok (.iconst 1, 1) := by decide +kernel
theorem dL_law_37 : decode cL_law 37 = .ok (.aload_n 0, 1) := by decide +kernel
theorem dL_law_38 : decode cL_law 38 = .ok (.iconst 0, 1) := by decide +kernel
theorem dL_law_39 : decode cL_law 39 = .ok (.invokestatic 44, 3) := by decide +kernel
theorem dL_law_42 : decode cL_law 42 = .ok (.iconst 3, 1) := by decide +kernel
theorem dL_law_43 : decode cL_law 43 = .ok (.irem, 1) := by decide +kernel
theorem dL_law_44 : decode cL_law 44 = .ok (.iadd, 1) := by decide +kernel
theorem dL_law_45 : decode cL_law 45 = .ok (.istore_n 3, 1) := by decide +kernel
theorem dL_law_46 : decode cL_law 46 = .ok (.iconst 0, 1) := by decide +kernel
theorem dL_law_47 : decode cL_law 47 = .ok (.istore 4, 2) := by decide +kernel
theorem dL_law_49 : decode cL_law 49 = .ok (.iload 4, 2) := by decide +kernel
theorem dL_law_51 : decode cL_law 51 = .ok (.iload_n 3, 1) := by decide +kernel
theorem dL_law_52 : decode cL_law 52 = .ok (.if_icmp .ge 84, 3) := by decide +kernel
theorem dL_law_55 : decode cL_law 55 = .ok (.iload_n 2, 1) := by decide +kernel
theorem dL_law_56 : decode cL_law 56 = .ok (.ifCond .eq 80, 3) := by decide +kernel
theorem dL_law_59 : decode cL_law 59 = .ok (.aload_n 0, 1) := by decide +kernel
theorem dL_law_60 : decode cL_law 60 = .ok (.iconst 1, 1) := by decide +kernel
theorem dL_law_61 : decode cL_law 61 = .ok (.iload 4, 2) := by decide +kernel
theorem dL_law_63 : decode cL_law 63 = .ok (.iadd, 1) := by decide +kernel
theorem dL_law_64 : decode cL_law 64 = .ok (.invokestatic 44, 3) := by decide +kernel
theorem dL_law_67 : decode cL_law 67 = .ok (.istore 5, 2) := by decide +kernel
theorem dL_law_69 : decode cL_law 69 = .ok (.aload_n 1, 1) := by decide +kernel
theorem dL_law_70 : decode cL_law 70 = .ok (.bipush 20, 2) := by decide +kernel
theorem dL_law_72 : decode cL_law 72 = .ok (.iload 5, 2) := by decide +kernel
theorem dL_law_74 : decode cL_law 74 = .ok (.bipush 80, 2) := by decide +kernel
theorem dL_law_76 : decode cL_law 76 = .ok (.irem, 1) := by decide +kernel
theorem dL_law_77 : decode cL_law 77 = .ok (.iadd, 1) := by decide +kernel
theorem dL_law_78 : decode cL_law 78 = .ok (.iconst 5, 1) := by decide +kernel
theorem dL_law_79 : decode cL_law 79 = .ok (.iload 5, 2) := by decide +kernel
theorem dL_law_81 : decode cL_law 81 = .ok (.sipush 128, 3) := by decide +kernel
theorem dL_law_84 : decode cL_law 84 = .ok (.idiv, 1) := by decide +kernel
theorem dL_law_85 : decode cL_law 85 = .ok (.bipush 16, 2) := by decide +kernel
theorem dL_law_87 : decode cL_law 87 = .ok (.irem, 1) := by decide +kernel
theorem dL_law_88 : decode cL_law 88 = .ok (.iadd, 1) := by decide +kernel
theorem dL_law_89 : decode cL_law 89 = .ok (.iconst 1, 1) := by decide +kernel
theorem dL_law_90 : decode cL_law 90 = .ok (.iload 5, 2) := by decide +kernel
theorem dL_law_92 : decode cL_law 92 = .ok (.sipush 4096, 3) := by decide +kernel
theorem dL_law_95 : decode cL_law 95 = .ok (.idiv, 1) := by decide +kernel
theorem dL_law_96 : decode cL_law 96 = .ok (.bipush 20, 2) := by decide +kernel
theorem dL_law_98 : decode cL_law 98 = .ok (.irem, 1) := by decide +kernel
theorem dL_law_99 : decode cL_law 99 = .ok (.iadd, 1) := by decide +kernel
theorem dL_law_100 : decode cL_law 100 = .ok (.iload 5, 2) := by decide +kernel
theorem dL_law_102 : decode cL_law 102 = .ok (.ldc 48, 2) := by decide +kernel
theorem dL_law_104 : decode cL_law 104 = .ok (.idiv, 1) := by decide +kernel
theorem dL_law_105 : decode cL_law 105 = .ok (.bipush 8, 2) := by decide +kernel
theorem dL_law_107 : decode cL_law 107 = .ok (.irem, 1) := by decide +kernel
theorem dL_law_108 : decode cL_law 108 = .ok (.iload 5, 2) := by decide +kernel
theorem dL_law_110 : decode cL_law 110 = .ok (.ldc 49, 2) := by decide +kernel
theorem dL_law_112 : decode cL_law 112 = .ok (.idiv, 1) := by decide +kernel
theorem dL_law_113 : decode cL_law 113 = .ok (.bipush 60, 2) := by decide +kernel
theorem dL_law_115 : decode cL_law 115 = .ok (.irem, 1) := by decide +kernel
theorem dL_law_116 : decode cL_law 116 = .ok (.invokevirtual 50, 3) := by decide +kernel
theorem dL_law_119 : decode cL_law 119 = .ok (.iload 4, 2) := by decide +kernel
theorem dL_law_121 : decode cL_law 121 = .ok (.if_icmp .ne 7, 3) := by decide +kernel
theorem dL_law_124 : decode cL_law 124 = .ok (.iconst 1, 1) := by decide +kernel
theorem dL_law_125 : decode cL_law 125 = .ok (.goto 4, 3) := by decide +kernel
theorem dL_law_128 : decode cL_law 128 = .ok (.iconst 0, 1) := by decide +kernel
theorem dL_law_129 : decode cL_law 129 = .ok (.istore_n 2, 1) := by decide +kernel
theorem dL_law_130 : decode cL_law 130 = .ok (.iinc 4 1, 3) := by decide +kernel
theorem dL_law_133 : decode cL_law 133 = .ok (.goto (-84), 3) := by decide +kernel
theorem dL_law_136 : decode cL_law 136 = .ok (.iconst 3, 1) := by decide +kernel
theorem dL_law_137 : decode cL_law 137 = .ok (.aload_n 0, 1) := by decide +kernel
theorem dL_law_138 : decode cL_law 138 = .ok (.iconst 4, 1) := by decide +kernel
theorem dL_law_139 : decode cL_law 139 = .ok (.invokestatic 44, 3) := by decide +kernel
theorem dL_law_142 : decode cL_law 142 = .ok (.bipush 6, 2) := by decide +kernel
theorem dL_law_144 : decode cL_law 144 = .ok (.irem, 1) := by decide +kernel
theorem dL_law_145 : decode cL_law 145 = .ok (.iadd, 1) := by decide +kernel
theorem dL_law_146 : decode cL_law 146 = .ok (.istore 4, 2) := by decide +kernel
theorem dL_law_148 : decode cL_law 148 = .ok (.iconst 0, 1) := by decide +kernel
theorem dL_law_149 : decode cL_law 149 = .ok (.istore 5, 2) := by decide +kernel
theorem dL_law_151 : decode cL_law 151 = .ok (.iload 5, 2) := by decide +kernel
theorem dL_law_153 : decode cL_law 153 = .ok (.iload 4, 2) := by decide +kernel
theorem dL_law_155 : decode cL_law 155 = .ok (.if_icmp .ge 118, 3) := by decide +kernel
theorem dL_law_158 : decode cL_law 158 = .ok (.iload_n 2, 1) := by decide +kernel
theorem dL_law_159 : decode cL_law 159 = .ok (.ifCond .eq 114, 3) := by decide +kernel
theorem dL_law_162 : decode cL_law 162 = .ok (.aload_n 0, 1) := by decide +kernel
theorem dL_law_163 : decode cL_law 163 = .ok (.iconst 5, 1) := by decide +kernel
theorem dL_law_164 : decode cL_law 164 = .ok (.iload 5, 2) := by decide +kernel
theorem dL_law_166 : decode cL_law 166 = .ok (.iadd, 1) := by decide +kernel
theorem dL_law_167 : decode cL_law 167 = .ok (.invokestatic 44, 3) := by decide +kernel
theorem dL_law_170 : decode cL_law 170 = .ok (.istore 6, 2) := by decide +kernel
theorem dL_law_172 : decode cL_law 172 = .ok (.aload_n 0, 1) := by decide +kernel
theorem dL_law_173 : decode cL_law 173 = .ok (.bipush 13, 2) := by decide +kernel
theorem dL_law_175 : decode cL_law 175 = .ok (.iload 5, 2) := by decide +kernel
theorem dL_law_177 : decode cL_law 177 = .ok (.iadd, 1) := by decide +kernel
theorem dL_law_178 : decode cL_law 178 = .ok (.invokestatic 44, 3) := by decide +kernel
theorem dL_law_181 : decode cL_law 181 = .ok (.istore 7, 2) := by decide +kernel
theorem dL_law_183 : decode cL_law 183 = .ok (.iload 6, 2) := by decide +kernel
theorem dL_law_185 : decode cL_law 185 = .ok (.bipush 8, 2) := by decide +kernel
theorem dL_law_187 : decode cL_law 187 = .ok (.irem, 1) := by decide +kernel
theorem dL_law_188 : decode cL_law 188 = .ok (.istore 8, 2) := by decide +kernel
theorem dL_law_190 : decode cL_law 190 = .ok (.iload 7, 2) := by decide +kernel
theorem dL_law_192 : decode cL_law 192 = .ok (.sipush 150, 3) := by decide +kernel
theorem dL_law_195 : decode cL_law 195 = .ok (.irem, 1) := by decide +kernel
theorem dL_law_196 : decode cL_law 196 = .ok (.istore 9, 2) := by decide +kernel
theorem dL_law_198 : decode cL_law 198 = .ok (.aload_n 1, 1) := by decide +kernel
theorem dL_law_199 : decode cL_law 199 = .ok (.iconst 1, 1) := by decide +kernel
theorem dL_law_200 : decode cL_law 200 = .ok (.iload 6, 2) := by decide +kernel
theorem dL_law_202 : decode cL_law 202 = .ok (.bipush 8, 2) := by decide +kernel
theorem dL_law_204 : decode cL_law 204 = .ok (.idiv, 1) := by decide +kernel
theorem dL_law_205 : decode cL_law 205 = .ok (.bipush 99, 2) := by decide +kernel
theorem dL_law_207 : decode cL_law 207 = .ok (.irem, 1) := by decide +kernel
theorem dL_law_208 : decode cL_law 208 = .ok (.iadd, 1) := by decide +kernel
theorem dL_law_209 : decode cL_law 209 = .ok (.iload 8, 2) := by decide +kernel
theorem dL_law_211 : decode cL_law 211 = .ok (.iload 8, 2) := by decide +kernel
theorem dL_law_213 : decode cL_law 213 = .ok (.iconst 1, 1) := by decide +kernel
theorem dL_law_214 : decode cL_law 214 = .ok (.iadd, 1) := by decide +kernel
theorem dL_law_215 : decode cL_law 215 = .ok (.iload 6, 2) := by decide +kernel
theorem dL_law_217 : decode cL_law 217 = .ok (.sipush 1024, 3) := by decide +kernel
theorem dL_law_220 : decode cL_law 220 = .ok (.idiv, 1) := by decide +kernel
theorem dL_law_221 : decode cL_law 221 = .ok (.bipush 7, 2) := by decide +kernel
theorem dL_law_223 : decode cL_law 223 = .ok (.irem, 1) := by decide +kernel
theorem dL_law_224 : decode cL_law 224 = .ok (.iadd, 1) := by decide +kernel
theorem dL_law_225 : decode cL_law 225 = .ok (.bipush 8, 2) := by decide +kernel
theorem dL_law_227 : decode cL_law 227 = .ok (.irem, 1) := by decide +kernel
theorem dL_law_228 : decode cL_law 228 = .ok (.iload 9, 2) := by decide +kernel
theorem dL_law_230 : decode cL_law 230 = .ok (.iload 9, 2) := by decide +kernel
theorem dL_law_232 : decode cL_law 232 = .ok (.iload 7, 2) := by decide +kernel
theorem dL_law_234 : decode cL_law 234 = .ok (.sipush 256, 3) := by decide +kernel
theorem dL_law_237 : decode cL_law 237 = .ok (.idiv, 1) := by decide +kernel
theorem dL_law_238 : decode cL_law 238 = .ok (.bipush 60, 2) := by decide +kernel
theorem dL_law_240 : decode cL_law 240 = .ok (.irem, 1) := by decide +kernel
theorem dL_law_241 : decode cL_law 241 = .ok (.iadd, 1) := by decide +kernel
theorem dL_law_242 : decode cL_law 242 = .ok (.iconst 1, 1) := by decide +kernel
theorem dL_law_243 : decode cL_law 243 = .ok (.iload 7, 2) := by decide +kernel
theorem dL_law_245 : decode cL_law 245 = .ok (.sipush 16384, 3) := by decide +kernel
theorem dL_law_248 : decode cL_law 248 = .ok (.idiv, 1) := by decide +kernel
theorem dL_law_249 : decode cL_law 249 = .ok (.bipush 99, 2) := by decide +kernel
theorem dL_law_251 : decode cL_law 251 = .ok (.irem, 1) := by decide +kernel
theorem dL_law_252 : decode cL_law 252 = .ok (.iadd, 1) := by decide +kernel
theorem dL_law_253 : decode cL_law 253 = .ok (.invokevirtual 54, 3) := by decide +kernel
theorem dL_law_256 : decode cL_law 256 = .ok (.iload 5, 2) := by decide +kernel
theorem dL_law_258 : decode cL_law 258 = .ok (.if_icmp .ne 7, 3) := by decide +kernel
theorem dL_law_261 : decode cL_law 261 = .ok (.iconst 1, 1) := by decide +kernel
theorem dL_law_262 : decode cL_law 262 = .ok (.goto 4, 3) := by decide +kernel
theorem dL_law_265 : decode cL_law 265 = .ok (.iconst 0, 1) := by decide +kernel
theorem dL_law_266 : decode cL_law 266 = .ok (.istore_n 2, 1) := by decide +kernel
theorem dL_law_267 : decode cL_law 267 = .ok (.iinc 5 1, 3) := by decide +kernel
theorem dL_law_270 : decode cL_law 270 = .ok (.goto (-119), 3) := by decide +kernel
theorem dL_law_273 : decode cL_law 273 = .ok (.iconst 0, 1) := by decide +kernel
theorem dL_law_274 : decode cL_law 274 = .ok (.istore 5, 2) := by decide +kernel
theorem dL_law_276 : decode cL_law 276 = .ok (.iload 5, 2) := by decide +kernel
theorem dL_law_278 : decode cL_law 278 = .ok (.bipush 24, 2) := by decide +kernel
theorem dL_law_280 : decode cL_law 280 = .ok (.if_icmp .ge 721, 3) := by decide +kernel
theorem dL_law_283 : decode cL_law 283 = .ok (.iload_n 2, 1) := by decide +kernel
theorem dL_law_284 : decode cL_law 284 = .ok (.ifCond .eq 717, 3) := by decide +kernel
theorem dL_law_287 : decode cL_law 287 = .ok (.aload_n 0, 1) := by decide +kernel
theorem dL_law_288 : decode cL_law 288 = .ok (.bipush 21, 2) := by decide +kernel
theorem dL_law_290 : decode cL_law 290 = .ok (.iload 5, 2) := by decide +kernel
theorem dL_law_292 : decode cL_law 292 = .ok (.iadd, 1) := by decide +kernel
theorem dL_law_293 : decode cL_law 293 = .ok (.invokestatic 44, 3) := by decide +kernel
theorem dL_law_296 : decode cL_law 296 = .ok (.istore 6, 2) := by decide +kernel
theorem dL_law_298 : decode cL_law 298 = .ok (.iload 6, 2) := by decide +kernel
theorem dL_law_300 : decode cL_law 300 = .ok (.bipush 8, 2) := by decide +kernel
theorem dL_law_302 : decode cL_law 302 = .ok (.idiv, 1) := by decide +kernel
theorem dL_law_303 : decode cL_law 303 = .ok (.iload_n 3, 1) := by decide +kernel
theorem dL_law_304 : decode cL_law 304 = .ok (.irem, 1) := by decide +kernel
theorem dL_law_305 : decode cL_law 305 = .ok (.istore 7, 2) := by decide +kernel
theorem dL_law_307 : decode cL_law 307 = .ok (.iload 6, 2) := by decide +kernel
theorem dL_law_309 : decode cL_law 309 = .ok (.bipush 64, 2) := by decide +kernel
theorem dL_law_311 : decode cL_law 311 = .ok (.idiv, 1) := by decide +kernel
theorem dL_law_312 : decode cL_law 312 = .ok (.iload 4, 2) := by decide +kernel
theorem dL_law_314 : decode cL_law 314 = .ok (.irem, 1) := by decide +kernel
theorem dL_law_315 : decode cL_law 315 = .ok (.istore 8, 2) := by decide +kernel
theorem dL_law_317 : decode cL_law 317 = .ok (.aload_n 1, 1) := by decide +kernel
theorem dL_law_318 : decode cL_law 318 = .ok (.iload 7, 2) := by decide +kernel
theorem dL_law_320 : decode cL_law 320 = .ok (.bipush 7, 2) := by decide +kernel
theorem dL_law_322 : decode cL_law 322 = .ok (.invokevirtual 8, 3) := by decide +kernel
theorem dL_law_325 : decode cL_law 325 = .ok (.istore 9, 2) := by decide +kernel
theorem dL_law_327 : decode cL_law 327 = .ok (.iload 6, 2) := by decide +kernel
theorem dL_law_329 : decode cL_law 329 = .ok (.bipush 8, 2) := by decide +kernel
theorem dL_law_331 : decode cL_law 331 = .ok (.irem, 1) := by decide +kernel
theorem dL_law_332 : decode cL_law 332 = .ok (.tableswitch 489 0 2 #[28, 171, 340], 28) := by decide +kernel
theorem dL_law_360 : decode cL_law 360 = .ok (.aload_n 1, 1) := by decide +kernel
theorem dL_law_361 : decode cL_law 361 = .ok (.iconst 5, 1) := by decide +kernel
theorem dL_law_362 : decode cL_law 362 = .ok (.invokevirtual 30, 3) := by decide +kernel
theorem dL_law_365 : decode cL_law 365 = .ok (.istore 10, 2) := by decide +kernel
theorem dL_law_367 : decode cL_law 367 = .ok (.iconst 1, 1) := by decide +kernel
theorem dL_law_368 : decode cL_law 368 = .ok (.iload 6, 2) := by decide +kernel
theorem dL_law_370 : decode cL_law 370 = .ok (.sipush 1024, 3) := by decide +kernel
theorem dL_law_373 : decode cL_law 373 = .ok (.idiv, 1) := by decide +kernel
theorem dL_law_374 : decode cL_law 374 = .ok (.bipush 40, 2) := by decide +kernel
theorem dL_law_376 : decode cL_law 376 = .ok (.irem, 1) := by decide +kernel
theorem dL_law_377 : decode cL_law 377 = .ok (.iadd, 1) := by decide +kernel
theorem dL_law_378 : decode cL_law 378 = .ok (.istore 11, 2) := by decide +kernel
theorem dL_law_380 : decode cL_law 380 = .ok (.aload_n 1, 1) := by decide +kernel
theorem dL_law_381 : decode cL_law 381 = .ok (.iload 7, 2) := by decide +kernel
theorem dL_law_383 : decode cL_law 383 = .ok (.invokevirtual 26, 3) := by decide +kernel
theorem dL_law_386 : decode cL_law 386 = .ok (.istore 12, 2) := by decide +kernel
theorem dL_law_388 : decode cL_law 388 = .ok (.aload_n 1, 1) := by decide +kernel
theorem dL_law_389 : decode cL_law 389 = .ok (.iload 7, 2) := by decide +kernel
theorem dL_law_391 : decode cL_law 391 = .ok (.iload 11, 2) := by decide +kernel
theorem dL_law_393 : decode cL_law 393 = .ok (.invokevirtual 58, 3) := by decide +kernel
theorem dL_law_396 : decode cL_law 396 = .ok (.istore 13, 2) := by decide +kernel
theorem dL_law_398 : decode cL_law 398 = .ok (.iload 13, 2) := by decide +kernel
theorem dL_law_400 : decode cL_law 400 = .ok (.ifCond .lt 70, 3) := by decide +kernel
theorem dL_law_403 : decode cL_law 403 = .ok (.aload_n 1, 1) := by decide +kernel
theorem dL_law_404 : decode cL_law 404 = .ok (.iconst 5, 1) := by decide +kernel
theorem dL_law_405 : decode cL_law 405 = .ok (.invokevirtual 30, 3) := by decide +kernel
theorem dL_law_408 : decode cL_law 408 = .ok (.iload 10, 2) := by decide +kernel
theorem dL_law_410 : decode cL_law 410 = .ok (.iload 13, 2) := by decide +kernel
theorem dL_law_412 : decode cL_law 412 = .ok (.iadd, 1) := by decide +kernel
theorem dL_law_413 : decode cL_law 413 = .ok (.if_icmp .ne 53, 3) := by decide +kernel
theorem dL_law_416 : decode cL_law 416 = .ok (.aload_n 1, 1) := by decide +kernel
theorem dL_law_417 : decode cL_law 417 = .ok (.iload 7, 2) := by decide +kernel
theorem dL_law_419 : decode cL_law 419 = .ok (.bipush 7, 2) := by decide +kernel
theorem dL_law_421 : decode cL_law 421 = .ok (.invokevirtual 8, 3) := by decide +kernel
theorem dL_law_424 : decode cL_law 424 = .ok (.iload 9, 2) := by decide +kernel
theorem dL_law_426 : decode cL_law 426 = .ok (.iload 13, 2) := by decide +kernel
theorem dL_law_428 : decode cL_law 428 = .ok (.isub, 1) := by decide +kernel
theorem dL_law_429 : decode cL_law 429 = .ok (.if_icmp .ne 37, 3) := by decide +kernel
theorem dL_law_432 : decode cL_law 432 = .ok (.iload 9, 2) := by decide +kernel
theorem dL_law_434 : decode cL_law 434 = .ok (.ifCond .eq 28, 3) := by decide +kernel
theorem dL_law_437 : decode cL_law 437 = .ok (.iload 13, 2) := by decide +kernel
theorem dL_law_439 : decode cL_law 439 = .ok (.ifCond .ne 7, 3) := by decide +kernel
theorem dL_law_442 : decode cL_law 442 = .ok (.iconst 1, 1) := by decide +kernel
theorem dL_law_443 : decode cL_law 443 = .ok (.goto 4, 3) := by decide +kernel
theorem dL_law_446 : decode cL_law 446 = .ok (.iconst 0, 1) := by decide +kernel
theorem dL_law_447 : decode cL_law 447 = .ok (.iload 11, 2) := by decide +kernel
theorem dL_law_449 : decode cL_law 449 = .ok (.iload 12, 2) := by decide +kernel
theorem dL_law_451 : decode cL_law 451 = .ok (.if_icmp .gt 7, 3) := by decide +kernel
theorem dL_law_454 : decode cL_law 454 = .ok (.iconst 1, 1) := by decide +kernel
theorem dL_law_455 : decode cL_law 455 = .ok (.goto 4, 3) := by decide +kernel
theorem dL_law_458 : decode cL_law 458 = .ok (.iconst 0, 1) := by decide +kernel
theorem dL_law_459 : decode cL_law 459 = .ok (.if_icmp .ne 7, 3) := by decide +kernel
theorem dL_law_462 : decode cL_law 462 = .ok (.iconst 1, 1) := by decide +kernel
theorem dL_law_463 : decode cL_law 463 = .ok (.goto 36, 3) := by decide +kernel
theorem dL_law_466 : decode cL_law 466 = .ok (.iconst 0, 1) := by decide +kernel
theorem dL_law_467 : decode cL_law 467 = .ok (.goto 32, 3) := by decide +kernel
theorem dL_law_470 : decode cL_law 470 = .ok (.iload 13, 2) := by decide +kernel
theorem dL_law_472 : decode cL_law 472 = .ok (.ldc 61, 2) := by decide +kernel
theorem dL_law_474 : decode cL_law 474 = .ok (.if_icmp .ne 24, 3) := by decide +kernel
theorem dL_law_477 : decode cL_law 477 = .ok (.aload_n 1, 1) := by decide +kernel
theorem dL_law_478 : decode cL_law 478 = .ok (.iload 7, 2) := by decide +kernel
theorem dL_law_480 : decode cL_law 480 = .ok (.bipush 6, 2) := by decide +kernel
theorem dL_law_482 : decode cL_law 482 = .ok (.invokevirtual 8, 3) := by decide +kernel
theorem dL_law_485 : decode cL_law 485 = .ok (.iload 11, 2) := by decide +kernel
theorem dL_law_487 : decode cL_law 487 = .ok (.iadd, 1) := by decide +kernel
theorem dL_law_488 : decode cL_law 488 = .ok (.sipush 1999, 3) := by decide +kernel
theorem dL_law_491 : decode cL_law 491 = .ok (.if_icmp .le 7, 3) := by decide +kernel
theorem dL_law_494 : decode cL_law 494 = .ok (.iconst 1, 1) := by decide +kernel
theorem dL_law_495 : decode cL_law 495 = .ok (.goto 4, 3) := by decide +kernel
theorem dL_law_498 : decode cL_law 498 = .ok (.iconst 0, 1) := by decide +kernel
theorem dL_law_499 : decode cL_law 499 = .ok (.istore_n 2, 1) := by decide +kernel
theorem dL_law_500 : decode cL_law 500 = .ok (.goto 478, 3) := by decide +kernel
theorem dL_law_503 : decode cL_law 503 = .ok (.iload 9, 2) := by decide +kernel
theorem dL_law_505 : decode cL_law 505 = .ok (.ifCond .ne 23, 3) := by decide +kernel
theorem dL_law_508 : decode cL_law 508 = .ok (.aload_n 1, 1) := by decide +kernel
theorem dL_law_509 : decode cL_law 509 = .ok (.iload 7, 2) := by decide +kernel
theorem dL_law_511 : decode cL_law 511 = .ok (.invokevirtual 62, 3) := by decide +kernel
theorem dL_law_514 : decode cL_law 514 = .ok (.ldc 65, 2) := by decide +kernel
theorem dL_law_516 : decode cL_law 516 = .ok (.if_icmp .ne 7, 3) := by decide +kernel
theorem dL_law_519 : decode cL_law 519 = .ok (.iconst 1, 1) := by decide +kernel
theorem dL_law_520 : decode cL_law 520 = .ok (.goto 4, 3) := by decide +kernel
theorem dL_law_523 : decode cL_law 523 = .ok (.iconst 0, 1) := by decide +kernel
theorem dL_law_524 : decode cL_law 524 = .ok (.istore_n 2, 1) := by decide +kernel
theorem dL_law_525 : decode cL_law 525 = .ok (.goto 453, 3) := by decide +kernel
theorem dL_law_528 : decode cL_law 528 = .ok (.aload_n 1, 1) := by decide +kernel
theorem dL_law_529 : decode cL_law 529 = .ok (.iload 7, 2) := by decide +kernel
theorem dL_law_531 : decode cL_law 531 = .ok (.iload 9, 2) := by decide +kernel
theorem dL_law_533 : decode cL_law 533 = .ok (.iconst 1, 1) := by decide +kernel
theorem dL_law_534 : decode cL_law 534 = .ok (.isub, 1) := by decide +kernel
theorem dL_law_535 : decode cL_law 535 = .ok (.iconst 0, 1) := by decide +kernel
theorem dL_law_536 : decode cL_law 536 = .ok (.invokevirtual 14, 3) := by decide +kernel
theorem dL_law_539 : decode cL_law 539 = .ok (.istore 14, 2) := by decide +kernel
theorem dL_law_541 : decode cL_law 541 = .ok (.aload_n 1, 1) := by decide +kernel
theorem dL_law_542 : decode cL_law 542 = .ok (.iload 14, 2) := by decide +kernel
theorem dL_law_544 : decode cL_law 544 = .ok (.iconst 0, 1) := by decide +kernel
theorem dL_law_545 : decode cL_law 545 = .ok (.invokevirtual 19, 3) := by decide +kernel
theorem dL_law_548 : decode cL_law 548 = .ok (.aload_n 1, 1) := by decide +kernel
theorem dL_law_549 : decode cL_law 549 = .ok (.iload 14, 2) := by decide +kernel
theorem dL_law_551 : decode cL_law 551 = .ok (.iconst 5, 1) := by decide +kernel
theorem dL_law_552 : decode cL_law 552 = .ok (.invokevirtual 19, 3) := by decide +kernel
theorem dL_law_555 : decode cL_law 555 = .ok (.imul, 1) := by decide +kernel
theorem dL_law_556 : decode cL_law 556 = .ok (.bipush 9, 2) := by decide +kernel
theorem dL_law_558 : decode cL_law 558 = .ok (.iadd, 1) := by decide +kernel
theorem dL_law_559 : decode cL_law 559 = .ok (.bipush 10, 2) := by decide +kernel
theorem dL_law_561 : decode cL_law 561 = .ok (.idiv, 1) := by decide +kernel
theorem dL_law_562 : decode cL_law 562 = .ok (.istore 15, 2) := by decide +kernel
theorem dL_law_564 : decode cL_law 564 = .ok (.aload_n 1, 1) := by decide +kernel
theorem dL_law_565 : decode cL_law 565 = .ok (.iload 7, 2) := by decide +kernel
theorem dL_law_567 : decode cL_law 567 = .ok (.bipush 8, 2) := by decide +kernel
theorem dL_law_569 : decode cL_law 569 = .ok (.invokevirtual 8, 3) := by decide +kernel
theorem dL_law_572 : decode cL_law 572 = .ok (.istore 16, 2) := by decide +kernel
theorem dL_law_574 : decode cL_law 574 = .ok (.aload_n 1, 1) := by decide +kernel
theorem dL_law_575 : decode cL_law 575 = .ok (.bipush 6, 2) := by decide +kernel
theorem dL_law_577 : decode cL_law 577 = .ok (.invokevirtual 30, 3) := by decide +kernel
theorem dL_law_580 : decode cL_law 580 = .ok (.istore 17, 2) := by decide +kernel
theorem dL_law_582 : decode cL_law 582 = .ok (.aload_n 1, 1) := by decide +kernel
theorem dL_law_583 : decode cL_law 583 = .ok (.iload 7, 2) := by decide +kernel
theorem dL_law_585 : decode cL_law 585 = .ok (.invokevirtual 62, 3) := by decide +kernel
theorem dL_law_588 : decode cL_law 588 = .ok (.iload 15, 2) := by decide +kernel
theorem dL_law_590 : decode cL_law 590 = .ok (.if_icmp .ne 77, 3) := by decide +kernel
theorem dL_law_593 : decode cL_law 593 = .ok (.aload_n 1, 1) := by decide +kernel
theorem dL_law_594 : decode cL_law 594 = .ok (.iload 7, 2) := by decide +kernel
theorem dL_law_596 : decode cL_law 596 = .ok (.bipush 8, 2) := by decide +kernel
theorem dL_law_598 : decode cL_law 598 = .ok (.invokevirtual 8, 3) := by decide +kernel
theorem dL_law_601 : decode cL_law 601 = .ok (.iload 16, 2) := by decide +kernel
theorem dL_law_603 : decode cL_law 603 = .ok (.iload 15, 2) := by decide +kernel
theorem dL_law_605 : decode cL_law 605 = .ok (.isub, 1) := by decide +kernel
theorem dL_law_606 : decode cL_law 606 = .ok (.if_icmp .ne 61, 3) := by decide +kernel
theorem dL_law_609 : decode cL_law 609 = .ok (.aload_n 1, 1) := by decide +kernel
theorem dL_law_610 : decode cL_law 610 = .ok (.iload 14, 2) := by decide +kernel
theorem dL_law_612 : decode cL_law 612 = .ok (.bipush 6, 2) := by decide +kernel
theorem dL_law_614 : decode cL_law 614 = .ok (.invokevirtual 19, 3) := by decide +kernel
theorem dL_law_617 : decode cL_law 617 = .ok (.ifCond .ne 50, 3) := by decide +kernel
theorem dL_law_620 : decode cL_law 620 = .ok (.aload_n 1, 1) := by decide +kernel
theorem dL_law_621 : decode cL_law 621 = .ok (.bipush 6, 2) := by decide +kernel
theorem dL_law_623 : decode cL_law 623 = .ok (.invokevirtual 30, 3) := by decide +kernel
theorem dL_law_626 : decode cL_law 626 = .ok (.iload 17, 2) := by decide +kernel
theorem dL_law_628 : decode cL_law 628 = .ok (.iconst 1, 1) := by decide +kernel
theorem dL_law_629 : decode cL_law 629 = .ok (.iadd, 1) := by decide +kernel
theorem dL_law_630 : decode cL_law 630 = .ok (.if_icmp .ne 37, 3) := by decide +kernel
theorem dL_law_633 : decode cL_law 633 = .ok (.aload_n 1, 1) := by decide +kernel
theorem dL_law_634 : decode cL_law 634 = .ok (.iload 7, 2) := by decide +kernel
theorem dL_law_636 : decode cL_law 636 = .ok (.iload 14, 2) := by decide +kernel
theorem dL_law_638 : decode cL_law 638 = .ok (.iconst 0, 1) := by decide +kernel
theorem dL_law_639 : decode cL_law 639 = .ok (.invokevirtual 66, 3) := by decide +kernel
theorem dL_law_642 : decode cL_law 642 = .ok (.ifCond .ne 25, 3) := by decide +kernel
theorem dL_law_645 : decode cL_law 645 = .ok (.aload_n 1, 1) := by decide +kernel
theorem dL_law_646 : decode cL_law 646 = .ok (.iload 7, 2) := by decide +kernel
theorem dL_law_648 : decode cL_law 648 = .ok (.iload 14, 2) := by decide +kernel
theorem dL_law_650 : decode cL_law 650 = .ok (.invokevirtual 69, 3) := by decide +kernel
theorem dL_law_653 : decode cL_law 653 = .ok (.ifCond .le 14, 3) := by decide +kernel
theorem dL_law_656 : decode cL_law 656 = .ok (.aload_n 1, 1) := by decide +kernel
theorem dL_law_657 : decode cL_law 657 = .ok (.invokevirtual 72, 3) := by decide +kernel
theorem dL_law_660 : decode cL_law 660 = .ok (.ifCond .lt 7, 3) := by decide +kernel
theorem dL_law_663 : decode cL_law 663 = .ok (.iconst 1, 1) := by decide +kernel
theorem dL_law_664 : decode cL_law 664 = .ok (.goto 4, 3) := by decide +kernel
theorem dL_law_667 : decode cL_law 667 = .ok (.iconst 0, 1) := by decide +kernel
theorem dL_law_668 : decode cL_law 668 = .ok (.istore_n 2, 1) := by decide +kernel
theorem dL_law_669 : decode cL_law 669 = .ok (.goto 309, 3) := by decide +kernel
theorem dL_law_672 : decode cL_law 672 = .ok (.iload 9, 2) := by decide +kernel
theorem dL_law_674 : decode cL_law 674 = .ok (.ifCond .ne 23, 3) := by decide +kernel
theorem dL_law_677 : decode cL_law 677 = .ok (.aload_n 1, 1) := by decide +kernel
theorem dL_law_678 : decode cL_law 678 = .ok (.iload 7, 2) := by decide +kernel
theorem dL_law_680 : decode cL_law 680 = .ok (.invokevirtual 76, 3) := by decide +kernel
theorem dL_law_683 : decode cL_law 683 = .ok (.ldc 65, 2) := by decide +kernel
theorem dL_law_685 : decode cL_law 685 = .ok (.if_icmp .ne 7, 3) := by decide +kernel
theorem dL_law_688 : decode cL_law 688 = .ok (.iconst 1, 1) := by decide +kernel
theorem dL_law_689 : decode cL_law 689 = .ok (.goto 4, 3) := by decide +kernel
theorem dL_law_692 : decode cL_law 692 = .ok (.iconst 0, 1) := by decide +kernel
theorem dL_law_693 : decode cL_law 693 = .ok (.istore_n 2, 1) := by decide +kernel
theorem dL_law_694 : decode cL_law 694 = .ok (.goto 284, 3) := by decide +kernel
theorem dL_law_697 : decode cL_law 697 = .ok (.iload 6, 2) := by decide +kernel
theorem dL_law_699 : decode cL_law 699 = .ok (.sipush 4096, 3) := by decide +kernel
theorem dL_law_702 : decode cL_law 702 = .ok (.idiv, 1) := by decide +kernel
theorem dL_law_703 : decode cL_law 703 = .ok (.iconst 3, 1) := by decide +kernel
theorem dL_law_704 : decode cL_law 704 = .ok (.irem, 1) := by decide +kernel
theorem dL_law_705 : decode cL_law 705 = .ok (.ifCond .ne 273, 3) := by decide +kernel
theorem dL_law_708 : decode cL_law 708 = .ok (.aload_n 1, 1) := by decide +kernel
theorem dL_law_709 : decode cL_law 709 = .ok (.iload 7, 2) := by decide +kernel
theorem dL_law_711 : decode cL_law 711 = .ok (.bipush 8, 2) := by decide +kernel
theorem dL_law_713 : decode cL_law 713 = .ok (.invokevirtual 8, 3) := by decide +kernel
theorem dL_law_716 : decode cL_law 716 = .ok (.istore 14, 2) := by decide +kernel
theorem dL_law_718 : decode cL_law 718 = .ok (.aload_n 1, 1) := by decide +kernel
theorem dL_law_719 : decode cL_law 719 = .ok (.iload 7, 2) := by decide +kernel
theorem dL_law_721 : decode cL_law 721 = .ok (.bipush 9, 2) := by decide +kernel
theorem dL_law_723 : decode cL_law 723 = .ok (.invokevirtual 8, 3) := by decide +kernel
theorem dL_law_726 : decode cL_law 726 = .ok (.istore 15, 2) := by decide +kernel
theorem dL_law_728 : decode cL_law 728 = .ok (.aload_n 1, 1) := by decide +kernel
theorem dL_law_729 : decode cL_law 729 = .ok (.iload 7, 2) := by decide +kernel
theorem dL_law_731 : decode cL_law 731 = .ok (.iconst 3, 1) := by decide +kernel
theorem dL_law_732 : decode cL_law 732 = .ok (.invokevirtual 8, 3) := by decide +kernel
theorem dL_law_735 : decode cL_law 735 = .ok (.istore 16, 2) := by decide +kernel
theorem dL_law_737 : decode cL_law 737 = .ok (.aload_n 1, 1) := by decide +kernel
theorem dL_law_738 : decode cL_law 738 = .ok (.iload 7, 2) := by decide +kernel
theorem dL_law_740 : decode cL_law 740 = .ok (.iconst 4, 1) := by decide +kernel
theorem dL_law_741 : decode cL_law 741 = .ok (.invokevirtual 8, 3) := by decide +kernel
theorem dL_law_744 : decode cL_law 744 = .ok (.istore 17, 2) := by decide +kernel
theorem dL_law_746 : decode cL_law 746 = .ok (.aload_n 1, 1) := by decide +kernel
theorem dL_law_747 : decode cL_law 747 = .ok (.iload 7, 2) := by decide +kernel
theorem dL_law_749 : decode cL_law 749 = .ok (.invokevirtual 76, 3) := by decide +kernel
theorem dL_law_752 : decode cL_law 752 = .ok (.iload 15, 2) := by decide +kernel
theorem dL_law_754 : decode cL_law 754 = .ok (.if_icmp .ne 62, 3) := by decide +kernel
theorem dL_law_757 : decode cL_law 757 = .ok (.aload_n 1, 1) := by decide +kernel
theorem dL_law_758 : decode cL_law 758 = .ok (.iload 7, 2) := by decide +kernel
theorem dL_law_760 : decode cL_law 760 = .ok (.bipush 8, 2) := by decide +kernel
theorem dL_law_762 : decode cL_law 762 = .ok (.invokevirtual 8, 3) := by decide +kernel
theorem dL_law_765 : decode cL_law 765 = .ok (.iload 14, 2) := by decide +kernel
theorem dL_law_767 : decode cL_law 767 = .ok (.iload 15, 2) := by decide +kernel
theorem dL_law_769 : decode cL_law 769 = .ok (.iadd, 1) := by decide +kernel
theorem dL_law_770 : decode cL_law 770 = .ok (.ldc 25, 2) := by decide +kernel
theorem dL_law_772 : decode cL_law 772 = .ok (.isub, 1) := by decide +kernel
theorem dL_law_773 : decode cL_law 773 = .ok (.if_icmp .ne 43, 3) := by decide +kernel
theorem dL_law_776 : decode cL_law 776 = .ok (.aload_n 1, 1) := by decide +kernel
theorem dL_law_777 : decode cL_law 777 = .ok (.iload 7, 2) := by decide +kernel
theorem dL_law_779 : decode cL_law 779 = .ok (.iconst 5, 1) := by decide +kernel
theorem dL_law_780 : decode cL_law 780 = .ok (.invokevirtual 8, 3) := by decide +kernel
theorem dL_law_783 : decode cL_law 783 = .ok (.iload 16, 2) := by decide +kernel
theorem dL_law_785 : decode cL_law 785 = .ok (.if_icmp .ne 31, 3) := by decide +kernel
theorem dL_law_788 : decode cL_law 788 = .ok (.aload_n 1, 1) := by decide +kernel
theorem dL_law_789 : decode cL_law 789 = .ok (.iload 7, 2) := by decide +kernel
theorem dL_law_791 : decode cL_law 791 = .ok (.bipush 6, 2) := by decide +kernel
theorem dL_law_793 : decode cL_law 793 = .ok (.invokevirtual 8, 3) := by decide +kernel
theorem dL_law_796 : decode cL_law 796 = .ok (.iload 17, 2) := by decide +kernel
theorem dL_law_798 : decode cL_law 798 = .ok (.if_icmp .ne 18, 3) := by decide +kernel
theorem dL_law_801 : decode cL_law 801 = .ok (.aload_n 1, 1) := by decide +kernel
theorem dL_law_802 : decode cL_law 802 = .ok (.iload 7, 2) := by decide +kernel
theorem dL_law_804 : decode cL_law 804 = .ok (.bipush 7, 2) := by decide +kernel
theorem dL_law_806 : decode cL_law 806 = .ok (.invokevirtual 8, 3) := by decide +kernel
theorem dL_law_809 : decode cL_law 809 = .ok (.ifCond .ne 7, 3) := by decide +kernel
theorem dL_law_812 : decode cL_law 812 = .ok (.iconst 1, 1) := by decide +kernel
theorem dL_law_813 : decode cL_law 813 = .ok (.goto 4, 3) := by decide +kernel
theorem dL_law_816 : decode cL_law 816 = .ok (.iconst 0, 1) := by decide +kernel
theorem dL_law_817 : decode cL_law 817 = .ok (.istore_n 2, 1) := by decide +kernel
theorem dL_law_818 : decode cL_law 818 = .ok (.goto 160, 3) := by decide +kernel
theorem dL_law_821 : decode cL_law 821 = .ok (.iload 6, 2) := by decide +kernel
theorem dL_law_823 : decode cL_law 823 = .ok (.iconst 2, 1) := by decide +kernel
theorem dL_law_824 : decode cL_law 824 = .ok (.irem, 1) := by decide +kernel
theorem dL_law_825 : decode cL_law 825 = .ok (.ifCond .ne 12, 3) := by decide +kernel
theorem dL_law_828 : decode cL_law 828 = .ok (.aload_n 1, 1) := by decide +kernel
theorem dL_law_829 : decode cL_law 829 = .ok (.iload 7, 2) := by decide +kernel
theorem dL_law_831 : decode cL_law 831 = .ok (.invokevirtual 40, 3) := by decide +kernel
theorem dL_law_834 : decode cL_law 834 = .ok (.goto 5, 3) := by decide +kernel
theorem dL_law_837 : decode cL_law 837 = .ok (.iload 8, 2) := by decide +kernel
theorem dL_law_839 : decode cL_law 839 = .ok (.istore 14, 2) := by decide +kernel
theorem dL_law_841 : decode cL_law 841 = .ok (.iload 14, 2) := by decide +kernel
theorem dL_law_843 : decode cL_law 843 = .ok (.ifCond .ge 19, 3) := by decide +kernel
theorem dL_law_846 : decode cL_law 846 = .ok (.iload 14, 2) := by decide +kernel
theorem dL_law_848 : decode cL_law 848 = .ok (.ldc 18, 2) := by decide +kernel
theorem dL_law_850 : decode cL_law 850 = .ok (.if_icmp .ne 7, 3) := by decide +kernel
theorem dL_law_853 : decode cL_law 853 = .ok (.iconst 1, 1) := by decide +kernel
theorem dL_law_854 : decode cL_law 854 = .ok (.goto 4, 3) := by decide +kernel
theorem dL_law_857 : decode cL_law 857 = .ok (.iconst 0, 1) := by decide +kernel
theorem dL_law_858 : decode cL_law 858 = .ok (.istore_n 2, 1) := by decide +kernel
theorem dL_law_859 : decode cL_law 859 = .ok (.goto 119, 3) := by decide +kernel
theorem dL_law_862 : decode cL_law 862 = .ok (.aload_n 1, 1) := by decide +kernel
theorem dL_law_863 : decode cL_law 863 = .ok (.iload 7, 2) := by decide +kernel
theorem dL_law_865 : decode cL_law 865 = .ok (.iload 14, 2) := by decide +kernel
theorem dL_law_867 : decode cL_law 867 = .ok (.iconst 0, 1) := by decide +kernel
theorem dL_law_868 : decode cL_law 868 = .ok (.invokevirtual 66, 3) := by decide +kernel
theorem dL_law_871 : decode cL_law 871 = .ok (.ifCond .ne 18, 3) := by decide +kernel
theorem dL_law_874 : decode cL_law 874 = .ok (.aload_n 1, 1) := by decide +kernel
theorem dL_law_875 : decode cL_law 875 = .ok (.iload 14, 2) := by decide +kernel
theorem dL_law_877 : decode cL_law 877 = .ok (.bipush 6, 2) := by decide +kernel
theorem dL_law_879 : decode cL_law 879 = .ok (.invokevirtual 19, 3) := by decide +kernel
theorem dL_law_882 : decode cL_law 882 = .ok (.ifCond .ne 7, 3) := by decide +kernel
theorem dL_law_885 : decode cL_law 885 = .ok (.iconst 1, 1) := by decide +kernel
theorem dL_law_886 : decode cL_law 886 = .ok (.goto 4, 3) := by decide +kernel
theorem dL_law_889 : decode cL_law 889 = .ok (.iconst 0, 1) := by decide +kernel
theorem dL_law_890 : decode cL_law 890 = .ok (.istore 15, 2) := by decide +kernel
theorem dL_law_892 : decode cL_law 892 = .ok (.aload_n 1, 1) := by decide +kernel
theorem dL_law_893 : decode cL_law 893 = .ok (.iload 7, 2) := by decide +kernel
theorem dL_law_895 : decode cL_law 895 = .ok (.iconst 4, 1) := by decide +kernel
theorem dL_law_896 : decode cL_law 896 = .ok (.invokevirtual 8, 3) := by decide +kernel
theorem dL_law_899 : decode cL_law 899 = .ok (.aload_n 1, 1) := by decide +kernel
theorem dL_law_900 : decode cL_law 900 = .ok (.iload 7, 2) := by decide +kernel
theorem dL_law_902 : decode cL_law 902 = .ok (.iload 14, 2) := by decide +kernel
theorem dL_law_904 : decode cL_law 904 = .ok (.iconst 2, 1) := by decide +kernel
theorem dL_law_905 : decode cL_law 905 = .ok (.invokevirtual 66, 3) := by decide +kernel
theorem dL_law_908 : decode cL_law 908 = .ok (.iadd, 1) := by decide +kernel
theorem dL_law_909 : decode cL_law 909 = .ok (.istore 16, 2) := by decide +kernel
theorem dL_law_911 : decode cL_law 911 = .ok (.iload 6, 2) := by decide +kernel
theorem dL_law_913 : decode cL_law 913 = .ok (.iconst 2, 1) := by decide +kernel
theorem dL_law_914 : decode cL_law 914 = .ok (.irem, 1) := by decide +kernel
theorem dL_law_915 : decode cL_law 915 = .ok (.iconst 1, 1) := by decide +kernel
theorem dL_law_916 : decode cL_law 916 = .ok (.if_icmp .eq 8, 3) := by decide +kernel
theorem dL_law_919 : decode cL_law 919 = .ok (.iload 15, 2) := by decide +kernel
theorem dL_law_921 : decode cL_law 921 = .ok (.ifCond .eq 55, 3) := by decide +kernel
theorem dL_law_924 : decode cL_law 924 = .ok (.aload_n 1, 1) := by decide +kernel
theorem dL_law_925 : decode cL_law 925 = .ok (.iload 7, 2) := by decide +kernel
theorem dL_law_927 : decode cL_law 927 = .ok (.iload 14, 2) := by decide +kernel
theorem dL_law_929 : decode cL_law 929 = .ok (.invokevirtual 69, 3) := by decide +kernel
theorem dL_law_932 : decode cL_law 932 = .ok (.iload 15, 2) := by decide +kernel
theorem dL_law_934 : decode cL_law 934 = .ok (.ifCond .eq 8, 3) := by decide +kernel
theorem dL_law_937 : decode cL_law 937 = .ok (.iload 16, 2) := by decide +kernel
theorem dL_law_939 : decode cL_law 939 = .ok (.goto 5, 3) := by decide +kernel
theorem dL_law_942 : decode cL_law 942 = .ok (.ldc 65, 2) := by decide +kernel
theorem dL_law_944 : decode cL_law 944 = .ok (.if_icmp .ne 32, 3) := by decide +kernel
theorem dL_law_947 : decode cL_law 947 = .ok (.aload_n 1, 1) := by decide +kernel
theorem dL_law_948 : decode cL_law 948 = .ok (.iload 7, 2) := by decide +kernel
theorem dL_law_950 : decode cL_law 950 = .ok (.bipush 7, 2) := by decide +kernel
theorem dL_law_952 : decode cL_law 952 = .ok (.invokevirtual 8, 3) := by decide +kernel
theorem dL_law_955 : decode cL_law 955 = .ok (.iload 15, 2) := by decide +kernel
theorem dL_law_957 : decode cL_law 957 = .ok (.ifCond .eq 10, 3) := by decide +kernel
theorem dL_law_960 : decode cL_law 960 = .ok (.iload 9, 2) := by decide +kernel
theorem dL_law_962 : decode cL_law 962 = .ok (.iconst 1, 1) := by decide +kernel
theorem dL_law_963 : decode cL_law 963 = .ok (.iadd, 1) := by decide +kernel
theorem dL_law_964 : decode cL_law 964 = .ok (.goto 5, 3) := by decide +kernel
theorem dL_law_967 : decode cL_law 967 = .ok (.iload 9, 2) := by decide +kernel
theorem dL_law_969 : decode cL_law 969 = .ok (.if_icmp .ne 7, 3) := by decide +kernel
theorem dL_law_972 : decode cL_law 972 = .ok (.iconst 1, 1) := by decide +kernel
theorem dL_law_973 : decode cL_law 973 = .ok (.goto 4, 3) := by decide +kernel
theorem dL_law_976 : decode cL_law 976 = .ok (.iconst 0, 1) := by decide +kernel
theorem dL_law_977 : decode cL_law 977 = .ok (.istore_n 2, 1) := by decide +kernel
theorem dL_law_978 : decode cL_law 978 = .ok (.iload_n 2, 1) := by decide +kernel
theorem dL_law_979 : decode cL_law 979 = .ok (.ifCond .eq 14, 3) := by decide +kernel
theorem dL_law_982 : decode cL_law 982 = .ok (.aload_n 1, 1) := by decide +kernel
theorem dL_law_983 : decode cL_law 983 = .ok (.invokestatic 79, 3) := by decide +kernel
theorem dL_law_986 : decode cL_law 986 = .ok (.ifCond .eq 7, 3) := by decide +kernel
theorem dL_law_989 : decode cL_law 989 = .ok (.iconst 1, 1) := by decide +kernel
theorem dL_law_990 : decode cL_law 990 = .ok (.goto 4, 3) := by decide +kernel
theorem dL_law_993 : decode cL_law 993 = .ok (.iconst 0, 1) := by decide +kernel
theorem dL_law_994 : decode cL_law 994 = .ok (.istore_n 2, 1) := by decide +kernel
theorem dL_law_995 : decode cL_law 995 = .ok (.iinc 5 1, 3) := by decide +kernel
theorem dL_law_998 : decode cL_law 998 = .ok (.goto (-722), 3) := by decide +kernel
theorem dL_law_1001 : decode cL_law 1001 = .ok (.iload_n 2, 1) := by decide +kernel
theorem dL_law_1002 : decode cL_law 1002 = .ok (.ifCond .eq 27, 3) := by decide +kernel
theorem dL_law_1005 : decode cL_law 1005 = .ok (.aload_n 1, 1) := by decide +kernel
theorem dL_law_1006 : decode cL_law 1006 = .ok (.iconst 3, 1) := by decide +kernel
theorem dL_law_1007 : decode cL_law 1007 = .ok (.invokevirtual 30, 3) := by decide +kernel
theorem dL_law_1010 : decode cL_law 1010 = .ok (.ifCond .eq 15, 3) := by decide +kernel
theorem dL_law_1013 : decode cL_law 1013 = .ok (.aload_n 1, 1) := by decide +kernel
theorem dL_law_1014 : decode cL_law 1014 = .ok (.iconst 0, 1) := by decide +kernel
theorem dL_law_1015 : decode cL_law 1015 = .ok (.iconst 1, 1) := by decide +kernel
theorem dL_law_1016 : decode cL_law 1016 = .ok (.iconst 1, 1) := by decide +kernel
theorem dL_law_1017 : decode cL_law 1017 = .ok (.invokevirtual 83, 3) := by decide +kernel
theorem dL_law_1020 : decode cL_law 1020 = .ok (.ldc 65, 2) := by decide +kernel
theorem dL_law_1022 : decode cL_law 1022 = .ok (.if_icmp .ne 7, 3) := by decide +kernel
theorem dL_law_1025 : decode cL_law 1025 = .ok (.iconst 1, 1) := by decide +kernel
theorem dL_law_1026 : decode cL_law 1026 = .ok (.goto 4, 3) := by decide +kernel
theorem dL_law_1029 : decode cL_law 1029 = .ok (.iconst 0, 1) := by decide +kernel
theorem dL_law_1030 : decode cL_law 1030 = .ok (.istore_n 2, 1) := by decide +kernel
theorem dL_law_1031 : decode cL_law 1031 = .ok (.iload_n 2, 1) := by decide +kernel
theorem dL_law_1032 : decode cL_law 1032 = .ok (.ifCond .eq 64, 3) := by decide +kernel
theorem dL_law_1035 : decode cL_law 1035 = .ok (.aload_n 1, 1) := by decide +kernel
theorem dL_law_1036 : decode cL_law 1036 = .ok (.iload_n 3, 1) := by decide +kernel
theorem dL_law_1037 : decode cL_law 1037 = .ok (.iconst 0, 1) := by decide +kernel
theorem dL_law_1038 : decode cL_law 1038 = .ok (.invokevirtual 69, 3) := by decide +kernel
theorem dL_law_1041 : decode cL_law 1041 = .ok (.ldc 43, 2) := by decide +kernel
theorem dL_law_1043 : decode cL_law 1043 = .ok (.if_icmp .ne 53, 3) := by decide +kernel
theorem dL_law_1046 : decode cL_law 1046 = .ok (.aload_n 1, 1) := by decide +kernel
theorem dL_law_1047 : decode cL_law 1047 = .ok (.iconst 0, 1) := by decide +kernel
theorem dL_law_1048 : decode cL_law 1048 = .ok (.iload 4, 2) := by decide +kernel
theorem dL_law_1050 : decode cL_law 1050 = .ok (.invokevirtual 69, 3) := by decide +kernel
theorem dL_law_1053 : decode cL_law 1053 = .ok (.ldc 43, 2) := by decide +kernel
theorem dL_law_1055 : decode cL_law 1055 = .ok (.if_icmp .ne 41, 3) := by decide +kernel
theorem dL_law_1058 : decode cL_law 1058 = .ok (.aload_n 1, 1) := by decide +kernel
theorem dL_law_1059 : decode cL_law 1059 = .ok (.iconst 0, 1) := by decide +kernel
theorem dL_law_1060 : decode cL_law 1060 = .ok (.iconst (-1), 1) := by decide +kernel
theorem dL_law_1061 : decode cL_law 1061 = .ok (.iconst 0, 1) := by decide +kernel
theorem dL_law_1062 : decode cL_law 1062 = .ok (.invokevirtual 14, 3) := by decide +kernel
theorem dL_law_1065 : decode cL_law 1065 = .ok (.ldc 43, 2) := by decide +kernel
theorem dL_law_1067 : decode cL_law 1067 = .ok (.if_icmp .ne 29, 3) := by decide +kernel
theorem dL_law_1070 : decode cL_law 1070 = .ok (.aload_n 1, 1) := by decide +kernel
theorem dL_law_1071 : decode cL_law 1071 = .ok (.iconst 0, 1) := by decide +kernel
theorem dL_law_1072 : decode cL_law 1072 = .ok (.bipush 100, 2) := by decide +kernel
theorem dL_law_1074 : decode cL_law 1074 = .ok (.invokevirtual 58, 3) := by decide +kernel
theorem dL_law_1077 : decode cL_law 1077 = .ok (.ldc 43, 2) := by decide +kernel
theorem dL_law_1079 : decode cL_law 1079 = .ok (.if_icmp .ne 17, 3) := by decide +kernel
theorem dL_law_1082 : decode cL_law 1082 = .ok (.aload_n 1, 1) := by decide +kernel
theorem dL_law_1083 : decode cL_law 1083 = .ok (.iconst 4, 1) := by decide +kernel
theorem dL_law_1084 : decode cL_law 1084 = .ok (.invokevirtual 86, 3) := by decide +kernel
theorem dL_law_1087 : decode cL_law 1087 = .ok (.ldc 43, 2) := by decide +kernel
theorem dL_law_1089 : decode cL_law 1089 = .ok (.if_icmp .ne 7, 3) := by decide +kernel
theorem dL_law_1092 : decode cL_law 1092 = .ok (.iconst 1, 1) := by decide +kernel
theorem dL_law_1093 : decode cL_law 1093 = .ok (.goto 4, 3) := by decide +kernel
theorem dL_law_1096 : decode cL_law 1096 = .ok (.iconst 0, 1) := by decide +kernel
theorem dL_law_1097 : decode cL_law 1097 = .ok (.ireturn, 1) := by decide +kernel
