theorem dL_isKept_87 : decode cL_isKept 87 = .ok (.iconst 0, 1) := by decide +kernel
theorem dL_isKept_88 : decode cL_isKept 88 = .ok (.istore 6, 2) := by decide +kernel
theorem dL_isKept_90 : decode cL_isKept 90 = .ok (.iinc 7 1, 3) := by decide +kernel
theorem dL_isKept_93 : decode cL_isKept 93 = .ok (.goto (-43), 3) := by decide +kernel
theorem dL_isKept_96 : decode cL_isKept 96 = .ok (.aload_n 0, 1) := by decide +kernel
theorem dL_isKept_97 : decode cL_isKept 97 = .ok (.iload_n 3, 1) := by decide +kernel
theorem dL_isKept_98 : decode cL_isKept 98 = .ok (.iconst 1, 1) := by decide +kernel
theorem dL_isKept_99 : decode cL_isKept 99 = .ok (.iadd, 1) := by decide +kernel
theorem dL_isKept_100 : decode cL_isKept 100 = .ok (.invokevirtual 45, 3) := by decide +kernel
theorem dL_isKept_103 : decode cL_isKept 103 = .ok (.istore 7, 2) := by decide +kernel
theorem dL_isKept_105 : decode cL_isKept 105 = .ok (.iload 6, 2) := by decide +kernel
theorem dL_isKept_107 : decode cL_isKept 107 = .ok (.ifCond .eq 32, 3) := by decide +kernel
theorem dL_isKept_110 : decode cL_isKept 110 = .ok (.aload_n 0, 1) := by decide +kernel
theorem dL_isKept_111 : decode cL_isKept 111 = .ok (.getfield 10, 3) := by decide +kernel
theorem dL_isKept_114 : decode cL_isKept 114 = .ok (.bipush 6, 2) := by decide +kernel
theorem dL_isKept_116 : decode cL_isKept 116 = .ok (.invokevirtual 63, 3) := by decide +kernel
theorem dL_isKept_119 : decode cL_isKept 119 = .ok (.iload_n 3, 1) := by decide +kernel
theorem dL_isKept_120 : decode cL_isKept 120 = .ok (.if_icmp .ne 19, 3) := by decide +kernel
theorem dL_isKept_123 : decode cL_isKept 123 = .ok (.aload_n 0, 1) := by decide +kernel
theorem dL_isKept_124 : decode cL_isKept 124 = .ok (.getfield 10, 3) := by decide +kernel
theorem dL_isKept_127 : decode cL_isKept 127 = .ok (.bipush 6, 2) := by decide +kernel
theorem dL_isKept_129 : decode cL_isKept 129 = .ok (.invokevirtual 114, 3) := by decide +kernel
theorem dL_isKept_132 : decode cL_isKept 132 = .ok (.ifCond .ne 7, 3) := by decide +kernel
theorem dL_isKept_135 : decode cL_isKept 135 = .ok (.iconst 1, 1) := by decide +kernel
theorem dL_isKept_136 : decode cL_isKept 136 = .ok (.goto 4, 3) := by decide +kernel
theorem dL_isKept_139 : decode cL_isKept 139 = .ok (.iconst 0, 1) := by decide +kernel
theorem dL_isKept_140 : decode cL_isKept 140 = .ok (.istore 6, 2) := by decide +kernel
theorem dL_isKept_142 : decode cL_isKept 142 = .ok (.iconst 0, 1) := by decide +kernel
theorem dL_isKept_143 : decode cL_isKept 143 = .ok (.istore 8, 2) := by decide +kernel
theorem dL_isKept_145 : decode cL_isKept 145 = .ok (.iload 8, 2) := by decide +kernel
theorem dL_isKept_147 : decode cL_isKept 147 = .ok (.iload 7, 2) := by decide +kernel
theorem dL_isKept_149 : decode cL_isKept 149 = .ok (.if_icmp .ge 44, 3) := by decide +kernel
theorem dL_isKept_152 : decode cL_isKept 152 = .ok (.iload 6, 2) := by decide +kernel
theorem dL_isKept_154 : decode cL_isKept 154 = .ok (.ifCond .eq 39, 3) := by decide +kernel
theorem dL_isKept_157 : decode cL_isKept 157 = .ok (.aload_n 0, 1) := by decide +kernel
theorem dL_isKept_158 : decode cL_isKept 158 = .ok (.getfield 10, 3) := by decide +kernel
theorem dL_isKept_161 : decode cL_isKept 161 = .ok (.bipush 6, 2) := by decide +kernel
theorem dL_isKept_163 : decode cL_isKept 163 = .ok (.invokevirtual 117, 3) := by decide +kernel
theorem dL_isKept_166 : decode cL_isKept 166 = .ok (.iload_n 1, 1) := by decide +kernel
theorem dL_isKept_167 : decode cL_isKept 167 = .ok (.lload 4, 2) := by decide +kernel
theorem dL_isKept_169 : decode cL_isKept 169 = .ok (.iload 8, 2) := by decide +kernel
theorem dL_isKept_171 : decode cL_isKept 171 = .ok (.i2l, 1) := by decide +kernel
theorem dL_isKept_172 : decode cL_isKept 172 = .ok (.ladd, 1) := by decide +kernel
theorem dL_isKept_173 : decode cL_isKept 173 = .ok (.invokestatic 93, 3) := by decide +kernel
theorem dL_isKept_176 : decode cL_isKept 176 = .ok (.lcmp, 1) := by decide +kernel
theorem dL_isKept_177 : decode cL_isKept 177 = .ok (.ifCond .ne 7, 3) := by decide +kernel
theorem dL_isKept_180 : decode cL_isKept 180 = .ok (.iconst 1, 1) := by decide +kernel
theorem dL_isKept_181 : decode cL_isKept 181 = .ok (.goto 4, 3) := by decide +kernel
theorem dL_isKept_184 : decode cL_isKept 184 = .ok (.iconst 0, 1) := by decide +kernel
theorem dL_isKept_185 : decode cL_isKept 185 = .ok (.istore 6, 2) := by decide +kernel
theorem dL_isKept_187 : decode cL_isKept 187 = .ok (.iinc 8 1, 3) := by decide +kernel
theorem dL_isKept_190 : decode cL_isKept 190 = .ok (.goto (-45), 3) := by decide +kernel
theorem dL_isKept_193 : decode cL_isKept 193 = .ok (.iload 6, 2) := by decide +kernel
theorem dL_isKept_195 : decode cL_isKept 195 = .ok (.ifCond .eq 68, 3) := by decide +kernel
theorem dL_isKept_198 : decode cL_isKept 198 = .ok (.aload_n 0, 1) := by decide +kernel
theorem dL_isKept_199 : decode cL_isKept 199 = .ok (.getfield 10, 3) := by decide +kernel
theorem dL_isKept_202 : decode cL_isKept 202 = .ok (.bipush 6, 2) := by decide +kernel
theorem dL_isKept_204 : decode cL_isKept 204 = .ok (.invokevirtual 121, 3) := by decide +kernel
theorem dL_isKept_207 : decode cL_isKept 207 = .ok (.iload_n 3, 1) := by decide +kernel
theorem dL_isKept_208 : decode cL_isKept 208 = .ok (.iload 7, 2) := by decide +kernel
theorem dL_isKept_210 : decode cL_isKept 210 = .ok (.isub, 1) := by decide +kernel
theorem dL_isKept_211 : decode cL_isKept 211 = .ok (.if_icmp .ne 52, 3) := by decide +kernel
theorem dL_isKept_214 : decode cL_isKept 214 = .ok (.aload_n 0, 1) := by decide +kernel
theorem dL_isKept_215 : decode cL_isKept 215 = .ok (.getfield 10, 3) := by decide +kernel
theorem dL_isKept_218 : decode cL_isKept 218 = .ok (.bipush 6, 2) := by decide +kernel
theorem dL_isKept_220 : decode cL_isKept 220 = .ok (.invokevirtual 124, 3) := by decide +kernel
theorem dL_isKept_223 : decode cL_isKept 223 = .ok (.iload_n 3, 1) := by decide +kernel
theorem dL_isKept_224 : decode cL_isKept 224 = .ok (.iload 7, 2) := by decide +kernel
theorem dL_isKept_226 : decode cL_isKept 226 = .ok (.isub, 1) := by decide +kernel
theorem dL_isKept_227 : decode cL_isKept 227 = .ok (.if_icmp .ne 36, 3) := by decide +kernel
theorem dL_isKept_230 : decode cL_isKept 230 = .ok (.aload_n 0, 1) := by decide +kernel
theorem dL_isKept_231 : decode cL_isKept 231 = .ok (.getfield 10, 3) := by decide +kernel
theorem dL_isKept_234 : decode cL_isKept 234 = .ok (.bipush 6, 2) := by decide +kernel
theorem dL_isKept_236 : decode cL_isKept 236 = .ok (.invokevirtual 127, 3) := by decide +kernel
theorem dL_isKept_239 : decode cL_isKept 239 = .ok (.iload_n 2, 1) := by decide +kernel
theorem dL_isKept_240 : decode cL_isKept 240 = .ok (.if_icmp .ne 23, 3) := by decide +kernel
theorem dL_isKept_243 : decode cL_isKept 243 = .ok (.aload_n 0, 1) := by decide +kernel
theorem dL_isKept_244 : decode cL_isKept 244 = .ok (.getfield 10, 3) := by decide +kernel
theorem dL_isKept_247 : decode cL_isKept 247 = .ok (.bipush 6, 2) := by decide +kernel
theorem dL_isKept_249 : decode cL_isKept 249 = .ok (.invokevirtual 63, 3) := by decide +kernel
theorem dL_isKept_252 : decode cL_isKept 252 = .ok (.iload_n 3, 1) := by decide +kernel
theorem dL_isKept_253 : decode cL_isKept 253 = .ok (.iload 7, 2) := by decide +kernel
theorem dL_isKept_255 : decode cL_isKept 255 = .ok (.isub, 1) := by decide +kernel
theorem dL_isKept_256 : decode cL_isKept 256 = .ok (.if_icmp .ne 7, 3) := by decide +kernel
theorem dL_isKept_259 : decode cL_isKept 259 = .ok (.iconst 1, 1) := by decide +kernel
theorem dL_isKept_260 : decode cL_isKept 260 = .ok (.goto 4, 3) := by decide +kernel
theorem dL_isKept_263 : decode cL_isKept 263 = .ok (.iconst 0, 1) := by decide +kernel
theorem dL_isKept_264 : decode cL_isKept 264 = .ok (.istore 6, 2) := by decide +kernel
theorem dL_isKept_266 : decode cL_isKept 266 = .ok (.iload 7, 2) := by decide +kernel
theorem dL_isKept_268 : decode cL_isKept 268 = .ok (.istore 8, 2) := by decide +kernel
theorem dL_isKept_270 : decode cL_isKept 270 = .ok (.iload 8, 2) := by decide +kernel
theorem dL_isKept_272 : decode cL_isKept 272 = .ok (.iload_n 3, 1) := by decide +kernel
theorem dL_isKept_273 : decode cL_isKept 273 = .ok (.if_icmp .ge 44, 3) := by decide +kernel
theorem dL_isKept_276 : decode cL_isKept 276 = .ok (.iload 6, 2) := by decide +kernel
theorem dL_isKept_278 : decode cL_isKept 278 = .ok (.ifCond .eq 39, 3) := by decide +kernel
theorem dL_isKept_281 : decode cL_isKept 281 = .ok (.aload_n 0, 1) := by decide +kernel
theorem dL_isKept_282 : decode cL_isKept 282 = .ok (.getfield 10, 3) := by decide +kernel
theorem dL_isKept_285 : decode cL_isKept 285 = .ok (.bipush 6, 2) := by decide +kernel
theorem dL_isKept_287 : decode cL_isKept 287 = .ok (.invokevirtual 117, 3) := by decide +kernel
theorem dL_isKept_290 : decode cL_isKept 290 = .ok (.iload_n 1, 1) := by decide +kernel
theorem dL_isKept_291 : decode cL_isKept 291 = .ok (.lload 4, 2) := by decide +kernel
theorem dL_isKept_293 : decode cL_isKept 293 = .ok (.iload 8, 2) := by decide +kernel
theorem dL_isKept_295 : decode cL_isKept 295 = .ok (.i2l, 1) := by decide +kernel
theorem dL_isKept_296 : decode cL_isKept 296 = .ok (.ladd, 1) := by decide +kernel
theorem dL_isKept_297 : decode cL_isKept 297 = .ok (.invokestatic 93, 3) := by decide +kernel
theorem dL_isKept_300 : decode cL_isKept 300 = .ok (.lcmp, 1) := by decide +kernel
theorem dL_isKept_301 : decode cL_isKept 301 = .ok (.ifCond .ne 7, 3) := by decide +kernel
theorem dL_isKept_304 : decode cL_isKept 304 = .ok (.iconst 1, 1) := by decide +kernel
theorem dL_isKept_305 : decode cL_isKept 305 = .ok (.goto 4, 3) := by decide +kernel
theorem dL_isKept_308 : decode cL_isKept 308 = .ok (.iconst 0, 1) := by decide +kernel
theorem dL_isKept_309 : decode cL_isKept 309 = .ok (.istore 6, 2) := by decide +kernel
theorem dL_isKept_311 : decode cL_isKept 311 = .ok (.iinc 8 1, 3) := by decide +kernel
theorem dL_isKept_314 : decode cL_isKept 314 = .ok (.goto (-44), 3) := by decide +kernel
theorem dL_isKept_317 : decode cL_isKept 317 = .ok (.iload 6, 2) := by decide +kernel
theorem dL_isKept_319 : decode cL_isKept 319 = .ok (.ifCond .eq 19, 3) := by decide +kernel
theorem dL_isKept_322 : decode cL_isKept 322 = .ok (.aload_n 0, 1) := by decide +kernel
theorem dL_isKept_323 : decode cL_isKept 323 = .ok (.getfield 10, 3) := by decide +kernel
theorem dL_isKept_326 : decode cL_isKept 326 = .ok (.bipush 6, 2) := by decide +kernel
theorem dL_isKept_328 : decode cL_isKept 328 = .ok (.invokevirtual 130, 3) := by decide +kernel
theorem dL_isKept_331 : decode cL_isKept 331 = .ok (.ifCond .ne 7, 3) := by decide +kernel
theorem dL_isKept_334 : decode cL_isKept 334 = .ok (.iconst 1, 1) := by decide +kernel
theorem dL_isKept_335 : decode cL_isKept 335 = .ok (.goto 4, 3) := by decide +kernel
theorem dL_isKept_338 : decode cL_isKept 338 = .ok (.iconst 0, 1) := by decide +kernel
theorem dL_isKept_339 : decode cL_isKept 339 = .ok (.ireturn, 1) := by decide +kernel
theorem dL_isStill_0 : decode cL_isStill 0 = .ok (.iconst 3, 1) := by decide +kernel
theorem dL_isStill_1 : decode cL_isStill 1 = .ok (.aload_n 0, 1) := by decide +kernel
theorem dL_isStill_2 : decode cL_isStill 2 = .ok (.bipush 20, 2) := by decide +kernel
theorem dL_isStill_4 : decode cL_isStill 4 = .ok (.invokevirtual 45, 3) := by decide +kernel
theorem dL_isStill_7 : decode cL_isStill 7 = .ok (.iadd, 1) := by decide +kernel
theorem dL_isStill_8 : decode cL_isStill 8 = .ok (.istore_n 1, 1) := by decide +kernel
theorem dL_isStill_9 : decode cL_isStill 9 = .ok (.aload_n 0, 1) := by decide +kernel
theorem dL_isStill_10 : decode cL_isStill 10 = .ok (.getfield 10, 3) := by decide +kernel
theorem dL_isStill_13 : decode cL_isStill 13 = .ok (.bipush 7, 2) := by decide +kernel
theorem dL_isStill_15 : decode cL_isStill 15 = .ok (.bipush 105, 2) := by decide +kernel
theorem dL_isStill_17 : decode cL_isStill 17 = .ok (.iload_n 1, 1) := by decide +kernel
theorem dL_isStill_18 : decode cL_isStill 18 = .ok (.invokevirtual 55, 3) := by decide +kernel
theorem dL_isStill_21 : decode cL_isStill 21 = .ok (.pop, 1) := by decide +kernel
theorem dL_isStill_22 : decode cL_isStill 22 = .ok (.aload_n 0, 1) := by decide +kernel
theorem dL_isStill_23 : decode cL_isStill 23 = .ok (.getfield 10, 3) := by decide +kernel
theorem dL_isStill_26 : decode cL_isStill 26 = .ok (.bipush 7, 2) := by decide +kernel
theorem dL_isStill_28 : decode cL_isStill 28 = .ok (.iload_n 1, 1) := by decide +kernel
theorem dL_isStill_29 : decode cL_isStill 29 = .ok (.aload_n 0, 1) := by decide +kernel
theorem dL_isStill_30 : decode cL_isStill 30 = .ok (.sipush 1000, 3) := by decide +kernel
theorem dL_isStill_33 : decode cL_isStill 33 = .ok (.invokevirtual 45, 3) := by decide +kernel
theorem dL_isStill_36 : decode cL_isStill 36 = .ok (.i2l, 1) := by decide +kernel
theorem dL_isStill_37 : decode cL_isStill 37 = .ok (.ldc2_w 133, 3) := by decide +kernel
theorem dL_isStill_40 : decode cL_isStill 40 = .ok (.invokevirtual 59, 3) := by decide +kernel
theorem dL_isStill_43 : decode cL_isStill 43 = .ok (.iload_n 1, 1) := by decide +kernel
theorem dL_isStill_44 : decode cL_isStill 44 = .ok (.if_icmp .ne 34, 3) := by decide +kernel
theorem dL_isStill_47 : decode cL_isStill 47 = .ok (.aload_n 0, 1) := by decide +kernel
theorem dL_isStill_48 : decode cL_isStill 48 = .ok (.getfield 10, 3) := by decide +kernel
theorem dL_isStill_51 : decode cL_isStill 51 = .ok (.bipush 7, 2) := by decide +kernel
theorem dL_isStill_53 : decode cL_isStill 53 = .ok (.bipush 6, 2) := by decide +kernel
theorem dL_isStill_55 : decode cL_isStill 55 = .ok (.invokevirtual 66, 3) := by decide +kernel
theorem dL_isStill_58 : decode cL_isStill 58 = .ok (.ifCond .ne 20, 3) := by decide +kernel
theorem dL_isStill_61 : decode cL_isStill 61 = .ok (.aload_n 0, 1) := by decide +kernel
theorem dL_isStill_62 : decode cL_isStill 62 = .ok (.getfield 10, 3) := by decide +kernel
theorem dL_isStill_65 : decode cL_isStill 65 = .ok (.bipush 6, 2) := by decide +kernel
theorem dL_isStill_67 : decode cL_isStill 67 = .ok (.invokevirtual 135, 3) := by decide +kernel
theorem dL_isStill_70 : decode cL_isStill 70 = .ok (.iload_n 1, 1) := by decide +kernel
theorem dL_isStill_71 : decode cL_isStill 71 = .ok (.if_icmp .ne 7, 3) := by decide +kernel
theorem dL_isStill_74 : decode cL_isStill 74 = .ok (.iconst 1, 1) := by decide +kernel
theorem dL_isStill_75 : decode cL_isStill 75 = .ok (.goto 4, 3) := by decide +kernel
theorem dL_isStill_78 : decode cL_isStill 78 = .ok (.iconst 0, 1) := by decide +kernel
theorem dL_isStill_79 : decode cL_isStill 79 = .ok (.istore_n 2, 1) := by decide +kernel
theorem dL_isStill_80 : decode cL_isStill 80 = .ok (.iconst 0, 1) := by decide +kernel
theorem dL_isStill_81 : decode cL_isStill 81 = .ok (.istore_n 3, 1) := by decide +kernel
theorem dL_isStill_82 : decode cL_isStill 82 = .ok (.iload_n 3, 1) := by decide +kernel
theorem dL_isStill_83 : decode cL_isStill 83 = .ok (.bipush 6, 2) := by decide +kernel
theorem dL_isStill_85 : decode cL_isStill 85 = .ok (.if_icmp .ge 334, 3) := by decide +kernel
theorem dL_isStill_88 : decode cL_isStill 88 = .ok (.iload_n 2, 1) := by decide +kernel
theorem dL_isStill_89 : decode cL_isStill 89 = .ok (.ifCond .eq 330, 3) := by decide +kernel
theorem dL_isStill_92 : decode cL_isStill 92 = .ok (.aload_n 0, 1) := by decide +kernel
theorem dL_isStill_93 : decode cL_isStill 93 = .ok (.bipush 6, 2) := by decide +kernel
theorem dL_isStill_95 : decode cL_isStill 95 = .ok (.invokevirtual 45, 3) := by decide +kernel
theorem dL_isStill_98 : decode cL_isStill 98 = .ok (.istore 4, 2) := by decide +kernel
theorem dL_isStill_100 : decode cL_isStill 100 = .ok (.iload 4, 2) := by decide +kernel
theorem dL_isStill_102 : decode cL_isStill 102 = .ok (.ifCond .ne 39, 3) := by decide +kernel
theorem dL_isStill_105 : decode cL_isStill 105 = .ok (.aload_n 0, 1) := by decide +kernel
theorem dL_isStill_106 : decode cL_isStill 106 = .ok (.getfield 10, 3) := by decide +kernel
theorem dL_isStill_109 : decode cL_isStill 109 = .ok (.bipush 7, 2) := by decide +kernel
theorem dL_isStill_111 : decode cL_isStill 111 = .ok (.aload_n 0, 1) := by decide +kernel
theorem dL_isStill_112 : decode cL_isStill 112 = .ok (.aload_n 0, 1) := by decide +kernel
theorem dL_isStill_113 : decode cL_isStill 113 = .ok (.getfield 10, 3) := by decide +kernel
theorem dL_isStill_116 : decode cL_isStill 116 = .ok (.bipush 7, 2) := by decide +kernel
theorem dL_isStill_118 : decode cL_isStill 118 = .ok (.invokevirtual 127, 3) := by decide +kernel
theorem dL_isStill_121 : decode cL_isStill 121 = .ok (.iconst 1, 1) := by decide +kernel
theorem dL_isStill_122 : decode cL_isStill 122 = .ok (.iadd, 1) := by decide +kernel
theorem dL_isStill_123 : decode cL_isStill 123 = .ok (.invokevirtual 45, 3) := by decide +kernel
theorem dL_isStill_126 : decode cL_isStill 126 = .ok (.invokevirtual 72, 3) := by decide +kernel
theorem dL_isStill_129 : decode cL_isStill 129 = .ok (.ifCond .lt 7, 3) := by decide +kernel
theorem dL_isStill_132 : decode cL_isStill 132 = .ok (.iconst 1, 1) := by decide +kernel
theorem dL_isStill_133 : decode cL_isStill 133 = .ok (.goto 4, 3) := by decide +kernel
theorem dL_isStill_136 : decode cL_isStill 136 = .ok (.iconst 0, 1) := by decide +kernel
theorem dL_isStill_137 : decode cL_isStill 137 = .ok (.istore_n 2, 1) := by decide +kernel
theorem dL_isStill_138 : decode cL_isStill 138 = .ok (.goto 192, 3) := by decide +kernel
theorem dL_isStill_141 : decode cL_isStill 141 = .ok (.iload 4, 2) := by decide +kernel
theorem dL_isStill_143 : decode cL_isStill 143 = .ok (.iconst 1, 1) := by decide +kernel
theorem dL_isStill_144 : decode cL_isStill 144 = .ok (.if_icmp .ne 31, 3) := by decide +kernel
theorem dL_isStill_147 : decode cL_isStill 147 = .ok (.aload_n 0, 1) := by decide +kernel
theorem dL_isStill_148 : decode cL_isStill 148 = .ok (.getfield 10, 3) := by decide +kernel
theorem dL_isStill_151 : decode cL_isStill 151 = .ok (.bipush 7, 2) := by decide +kernel
theorem dL_isStill_153 : decode cL_isStill 153 = .ok (.aload_n 0, 1) := by decide +kernel
theorem dL_isStill_154 : decode cL_isStill 154 = .ok (.iload_n 1, 1) := by decide +kernel
theorem dL_isStill_155 : decode cL_isStill 155 = .ok (.iconst 1, 1) := by decide +kernel
theorem dL_isStill_156 : decode cL_isStill 156 = .ok (.iadd, 1) := by decide +kernel
theorem dL_isStill_157 : decode cL_isStill 157 = .ok (.invokevirtual 45, 3) := by decide +kernel
theorem dL_isStill_160 : decode cL_isStill 160 = .ok (.invokevirtual 138, 3) := by decide +kernel
theorem dL_isStill_163 : decode cL_isStill 163 = .ok (.ifCond .lt 7, 3) := by decide +kernel
theorem dL_isStill_166 : decode cL_isStill 166 = .ok (.iconst 1, 1) := by decide +kernel
theorem dL_isStill_167 : decode cL_isStill 167 = .ok (.goto 4, 3) := by decide +kernel
theorem dL_isStill_170 : decode cL_isStill 170 = .ok (.iconst 0, 1) := by decide +kernel
theorem dL_isStill_171 : decode cL_isStill 171 = .ok (.istore_n 2, 1) := by decide +kernel
theorem dL_isStill_172 : decode cL_isStill 172 = .ok (.goto 158, 3) := by decide +kernel
theorem dL_isStill_175 : decode cL_isStill 175 = .ok (.iload 4, 2) := by decide +kernel
theorem dL_isStill_177 : decode cL_isStill 177 = .ok (.iconst 2, 1) := by decide +kernel
theorem dL_isStill_178 : decode cL_isStill 178 = .ok (.if_icmp .ne 49, 3) := by decide +kernel
theorem dL_isStill_181 : decode cL_isStill 181 = .ok (.aload_n 0, 1) := by decide +kernel
theorem dL_isStill_182 : decode cL_isStill 182 = .ok (.getfield 10, 3) := by decide +kernel
theorem dL_isStill_185 : decode cL_isStill 185 = .ok (.bipush 7, 2) := by decide +kernel
theorem dL_isStill_187 : decode cL_isStill 187 = .ok (.invokevirtual 141, 3) := by decide +kernel
theorem dL_isStill_190 : decode cL_isStill 190 = .ok (.istore 5, 2) := by decide +kernel
theorem dL_isStill_192 : decode cL_isStill 192 = .ok (.aload_n 0, 1) := by decide +kernel
theorem dL_isStill_193 : decode cL_isStill 193 = .ok (.getfield 10, 3) := by decide +kernel
theorem dL_isStill_196 : decode cL_isStill 196 = .ok (.bipush 7, 2) := by decide +kernel
theorem dL_isStill_198 : decode cL_isStill 198 = .ok (.invokevirtual 114, 3) := by decide +kernel
theorem dL_isStill_201 : decode cL_isStill 201 = .ok (.iload 5, 2) := by decide +kernel
theorem dL_isStill_203 : decode cL_isStill 203 = .ok (.if_icmp .ne 19, 3) := by decide +kernel
theorem dL_isStill_206 : decode cL_isStill 206 = .ok (.aload_n 0, 1) := by decide +kernel
theorem dL_isStill_207 : decode cL_isStill 207 = .ok (.getfield 10, 3) := by decide +kernel
theorem dL_isStill_210 : decode cL_isStill 210 = .ok (.bipush 7, 2) := by decide +kernel
theorem dL_isStill_212 : decode cL_isStill 212 = .ok (.invokevirtual 144, 3) := by decide +kernel
theorem dL_isStill_215 : decode cL_isStill 215 = .ok (.ifCond .ne 7, 3) := by decide +kernel
theorem dL_isStill_218 : decode cL_isStill 218 = .ok (.iconst 1, 1) := by decide +kernel
theorem dL_isStill_219 : decode cL_isStill 219 = .ok (.goto 4, 3) := by decide +kernel
theorem dL_isStill_222 : decode cL_isStill 222 = .ok (.iconst 0, 1) := by decide +kernel
theorem dL_isStill_223 : decode cL_isStill 223 = .ok (.istore_n 2, 1) := by decide +kernel
theorem dL_isStill_224 : decode cL_isStill 224 = .ok (.goto 106, 3) := by decide +kernel
theorem dL_isStill_227 : decode cL_isStill 227 = .ok (.iload 4, 2) := by decide +kernel
theorem dL_isStill_229 : decode cL_isStill 229 = .ok (.iconst 3, 1) := by decide +kernel
theorem dL_isStill_230 : decode cL_isStill 230 = .ok (.if_icmp .ne 33, 3) := by decide +kernel
theorem dL_isStill_233 : decode cL_isStill 233 = .ok (.aload_n 0, 1) := by decide +kernel
theorem dL_isStill_234 : decode cL_isStill 234 = .ok (.getfield 10, 3) := by decide +kernel
theorem dL_isStill_237 : decode cL_isStill 237 = .ok (.bipush 7, 2) := by decide +kernel
theorem dL_isStill_239 : decode cL_isStill 239 = .ok (.invokevirtual 147, 3) := by decide +kernel
theorem dL_isStill_242 : decode cL_isStill 242 = .ok (.aload_n 0, 1) := by decide +kernel
theorem dL_isStill_243 : decode cL_isStill 243 = .ok (.getfield 10, 3) := by decide +kernel
theorem dL_isStill_246 : decode cL_isStill 246 = .ok (.bipush 7, 2) := by decide +kernel
theorem dL_isStill_248 : decode cL_isStill 248 = .ok (.invokevirtual 127, 3) := by decide +kernel
theorem dL_isStill_251 : decode cL_isStill 251 = .ok (.if_icmp .ne 7, 3) := by decide +kernel
theorem dL_isStill_254 : decode cL_isStill 254 = .ok (.iconst 1, 1) := by decide +kernel
theorem dL_isStill_255 : decode cL_isStill 255 = .ok (.goto 4, 3) := by decide +kernel
theorem dL_isStill_258 : decode cL_isStill 258 = .ok (.iconst 0, 1) := by decide +kernel
theorem dL_isStill_259 : decode cL_isStill 259 = .ok (.istore_n 2, 1) := by decide +kernel
theorem dL_isStill_260 : decode cL_isStill 260 = .ok (.goto 70, 3) := by decide +kernel
theorem dL_isStill_263 : decode cL_isStill 263 = .ok (.iload 4, 2) := by decide +kernel
theorem dL_isStill_265 : decode cL_isStill 265 = .ok (.iconst 4, 1) := by decide +kernel
theorem dL_isStill_266 : decode cL_isStill 266 = .ok (.if_icmp .ne 25, 3) := by decide +kernel
theorem dL_isStill_269 : decode cL_isStill 269 = .ok (.aload_n 0, 1) := by decide +kernel
theorem dL_isStill_270 : decode cL_isStill 270 = .ok (.getfield 10, 3) := by decide +kernel
theorem dL_isStill_273 : decode cL_isStill 273 = .ok (.bipush 7, 2) := by decide +kernel
theorem dL_isStill_275 : decode cL_isStill 275 = .ok (.invokevirtual 135, 3) := by decide +kernel
theorem dL_isStill_278 : decode cL_isStill 278 = .ok (.iload_n 1, 1) := by decide +kernel
theorem dL_isStill_279 : decode cL_isStill 279 = .ok (.if_icmp .ne 7, 3) := by decide +kernel
theorem dL_isStill_282 : decode cL_isStill 282 = .ok (.iconst 1, 1) := by decide +kernel
theorem dL_isStill_283 : decode cL_isStill 283 = .ok (.goto 4, 3) := by decide +kernel
theorem dL_isStill_286 : decode cL_isStill 286 = .ok (.iconst 0, 1) := by decide +kernel
theorem dL_isStill_287 : decode cL_isStill 287 = .ok (.istore_n 2, 1) := by decide +kernel
theorem dL_isStill_288 : decode cL_isStill 288 = .ok (.goto 42, 3) := by decide +kernel
theorem dL_isStill_291 : decode cL_isStill 291 = .ok (.aload_n 0, 1) := by decide +kernel
theorem dL_isStill_292 : decode cL_isStill 292 = .ok (.getfield 10, 3) := by decide +kernel
theorem dL_isStill_295 : decode cL_isStill 295 = .ok (.bipush 7, 2) := by decide +kernel
theorem dL_isStill_297 : decode cL_isStill 297 = .ok (.invokevirtual 63, 3) := by decide +kernel
theorem dL_isStill_300 : decode cL_isStill 300 = .ok (.aload_n 0, 1) := by decide +kernel
theorem dL_isStill_301 : decode cL_isStill 301 = .ok (.getfield 10, 3) := by decide +kernel
theorem dL_isStill_304 : decode cL_isStill 304 = .ok (.bipush 7, 2) := by decide +kernel
theorem dL_isStill_306 : decode cL_isStill 306 = .ok (.invokevirtual 127, 3) := by decide +kernel
theorem dL_isStill_309 : decode cL_isStill 309 = .ok (.if_icmp .ne 19, 3) := by decide +kernel
theorem dL_isStill_312 : decode cL_isStill 312 = .ok (.aload_n 0, 1) := by decide +kernel
theorem dL_isStill_313 : decode cL_isStill 313 = .ok (.getfield 10, 3) := by decide +kernel
theorem dL_isStill_316 : decode cL_isStill 316 = .ok (.bipush 7, 2) := by decide +kernel
theorem dL_isStill_318 : decode cL_isStill 318 = .ok (.invokevirtual 114, 3) := by decide +kernel
theorem dL_isStill_321 : decode cL_isStill 321 = .ok (.ifCond .ne 7, 3) := by decide +kernel
theorem dL_isStill_324 : decode cL_isStill 324 = .ok (.iconst 1, 1) := by decide +kernel
theorem dL_isStill_325 : decode cL_isStill 325 = .ok (.goto 4, 3) := by decide +kernel
theorem dL_isStill_328 : decode cL_isStill 328 = .ok (.iconst 0, 1) := by decide +kernel
theorem dL_isStill_329 : decode cL_isStill 329 = .ok (.istore_n 2, 1) := by decide +kernel
theorem dL_isStill_330 : decode cL_isStill 330 = .ok (.iload_n 2, 1) := by decide +kernel
theorem dL_isStill_331 : decode cL_isStill 331 = .ok (.ifCond .eq 80, 3) := by decide +kernel
theorem dL_isStill_334 : decode cL_isStill 334 = .ok (.aload_n 0, 1) := by decide +kernel
theorem dL_isStill_335 : decode cL_isStill 335 = .ok (.getfield 10, 3) := by decide +kernel
theorem dL_isStill_338 : decode cL_isStill 338 = .ok (.bipush 7, 2) := by decide +kernel
theorem dL_isStill_340 : decode cL_isStill 340 = .ok (.invokevirtual 114, 3) := by decide +kernel
theorem dL_isStill_343 : decode cL_isStill 343 = .ok (.aload_n 0, 1) := by decide +kernel
theorem dL_isStill_344 : decode cL_isStill 344 = .ok (.getfield 10, 3) := by decide +kernel
theorem dL_isStill_347 : decode cL_isStill 347 = .ok (.bipush 7, 2) := by decide +kernel
theorem dL_isStill_349 : decode cL_isStill 349 = .ok (.invokevirtual 127, 3) := by decide +kernel
theorem dL_isStill_352 : decode cL_isStill 352 = .ok (.if_icmp .gt 59, 3) := by decide +kernel
theorem dL_isStill_355 : decode cL_isStill 355 = .ok (.aload_n 0, 1) := by decide +kernel
theorem dL_isStill_356 : decode cL_isStill 356 = .ok (.getfield 10, 3) := by decide +kernel
theorem dL_isStill_359 : decode cL_isStill 359 = .ok (.bipush 7, 2) := by decide +kernel
theorem dL_isStill_361 : decode cL_isStill 361 = .ok (.invokevirtual 127, 3) := by decide +kernel
theorem dL_isStill_364 : decode cL_isStill 364 = .ok (.aload_n 0, 1) := by decide +kernel
theorem dL_isStill_365 : decode cL_isStill 365 = .ok (.getfield 10, 3) := by decide +kernel
theorem dL_isStill_368 : decode cL_isStill 368 = .ok (.bipush 7, 2) := by decide +kernel
theorem dL_isStill_370 : decode cL_isStill 370 = .ok (.invokevirtual 150, 3) := by decide +kernel
theorem dL_isStill_373 : decode cL_isStill 373 = .ok (.if_icmp .gt 38, 3) := by decide +kernel
theorem dL_isStill_376 : decode cL_isStill 376 = .ok (.aload_n 0, 1) := by decide +kernel
theorem dL_isStill_377 : decode cL_isStill 377 = .ok (.getfield 10, 3) := by decide +kernel
theorem dL_isStill_380 : decode cL_isStill 380 = .ok (.bipush 7, 2) := by decide +kernel
theorem dL_isStill_382 : decode cL_isStill 382 = .ok (.invokevirtual 121, 3) := by decide +kernel
theorem dL_isStill_385 : decode cL_isStill 385 = .ok (.aload_n 0, 1) := by decide +kernel
theorem dL_isStill_386 : decode cL_isStill 386 = .ok (.getfield 10, 3) := by decide +kernel
theorem dL_isStill_389 : decode cL_isStill 389 = .ok (.bipush 7, 2) := by decide +kernel
theorem dL_isStill_391 : decode cL_isStill 391 = .ok (.invokevirtual 127, 3) := by decide +kernel
theorem dL_isStill_394 : decode cL_isStill 394 = .ok (.aload_n 0, 1) := by decide +kernel
theorem dL_isStill_395 : decode cL_isStill 395 = .ok (.getfield 10, 3) := by decide +kernel
theorem dL_isStill_398 : decode cL_isStill 398 = .ok (.bipush 7, 2) := by decide +kernel
theorem dL_isStill_400 : decode cL_isStill 400 = .ok (.invokevirtual 114, 3) := by decide +kernel
theorem dL_isStill_403 : decode cL_isStill 403 = .ok (.isub, 1) := by decide +kernel
theorem dL_isStill_404 : decode cL_isStill 404 = .ok (.if_icmp .ne 7, 3) := by decide +kernel
theorem dL_isStill_407 : decode cL_isStill 407 = .ok (.iconst 1, 1) := by decide +kernel
theorem dL_isStill_408 : decode cL_isStill 408 = .ok (.goto 4, 3) := by decide +kernel
theorem dL_isStill_411 : decode cL_isStill 411 = .ok (.iconst 0, 1) := by decide +kernel
theorem dL_isStill_412 : decode cL_isStill 412 = .ok (.istore_n 2, 1) := by decide +kernel
theorem dL_isStill_413 : decode cL_isStill 413 = .ok (.iinc 3 1, 3) := by decide +kernel
theorem dL_isStill_416 : decode cL_isStill 416 = .ok (.goto (-334), 3) := by decide +kernel
theorem dL_isStill_419 : decode cL_isStill 419 = .ok (.iload_n 2, 1) := by decide +kernel
theorem dL_isStill_420 : decode cL_isStill 420 = .ok (.ifCond .eq 34, 3) := by decide +kernel
theorem dL_isStill_423 : decode cL_isStill 423 = .ok (.aload_n 0, 1) := by decide +kernel
theorem dL_isStill_424 : decode cL_isStill 424 = .ok (.getfield 10, 3) := by decide +kernel
theorem dL_isStill_427 : decode cL_isStill 427 = .ok (.bipush 7, 2) := by decide +kernel
theorem dL_isStill_429 : decode cL_isStill 429 = .ok (.invokevirtual 135, 3) := by decide +kernel
theorem dL_isStill_432 : decode cL_isStill 432 = .ok (.iload_n 1, 1) := by decide +kernel
theorem dL_isStill_433 : decode cL_isStill 433 = .ok (.if_icmp .ne 21, 3) := by decide +kernel
theorem dL_isStill_436 : decode cL_isStill 436 = .ok (.aload_n 0, 1) := by decide +kernel
theorem dL_isStill_437 : decode cL_isStill 437 = .ok (.getfield 10, 3) := by decide +kernel
theorem dL_isStill_440 : decode cL_isStill 440 = .ok (.bipush 6, 2) := by decide +kernel
theorem dL_isStill_442 : decode cL_isStill 442 = .ok (.bipush 7, 2) := by decide +kernel
theorem dL_isStill_444 : decode cL_isStill 444 = .ok (.invokevirtual 153, 3) := by decide +kernel
theorem dL_isStill_447 : decode cL_isStill 447 = .ok (.ifCond .eq 7, 3) := by decide +kernel
theorem dL_isStill_450 : decode cL_isStill 450 = .ok (.iconst 1, 1) := by decide +kernel
theorem dL_isStill_451 : decode cL_isStill 451 = .ok (.goto 4, 3) := by decide +kernel
theorem dL_isStill_454 : decode cL_isStill 454 = .ok (.iconst 0, 1) := by decide +kernel
theorem dL_isStill_455 : decode cL_isStill 455 = .ok (.istore_n 2, 1) := by decide +kernel
theorem dL_isStill_456 : decode cL_isStill 456 = .ok (.iconst 1, 1) := by decide +kernel
theorem dL_isStill_457 : decode cL_isStill 457 = .ok (.istore_n 3, 1) := by decide +kernel
theorem dL_isStill_458 : decode cL_isStill 458 = .ok (.iload_n 3, 1) := by decide +kernel
theorem dL_isStill_459 : decode cL_isStill 459 = .ok (.iload_n 1, 1) := by decide +kernel
theorem dL_isStill_460 : decode cL_isStill 460 = .ok (.if_icmp .ge 49, 3) := by decide +kernel
theorem dL_isStill_463 : decode cL_isStill 463 = .ok (.iload_n 2, 1) := by decide +kernel
theorem dL_isStill_464 : decode cL_isStill 464 = .ok (.ifCond .eq 45, 3) := by decide +kernel
theorem dL_isStill_467 : decode cL_isStill 467 = .ok (.aload_n 0, 1) := by decide +kernel
theorem dL_isStill_468 : decode cL_isStill 468 = .ok (.getfield 10, 3) := by decide +kernel
theorem dL_isStill_471 : decode cL_isStill 471 = .ok (.bipush 7, 2) := by decide +kernel
theorem dL_isStill_473 : decode cL_isStill 473 = .ok (.iload_n 3, 1) := by decide +kernel
theorem dL_isStill_474 : decode cL_isStill 474 = .ok (.invokevirtual 85, 3) := by decide +kernel
theorem dL_isStill_477 : decode cL_isStill 477 = .ok (.aload_n 0, 1) := by decide +kernel
theorem dL_isStill_478 : decode cL_isStill 478 = .ok (.getfield 10, 3) := by decide +kernel
theorem dL_isStill_481 : decode cL_isStill 481 = .ok (.bipush 7, 2) := by decide +kernel
theorem dL_isStill_483 : decode cL_isStill 483 = .ok (.iload_n 3, 1) := by decide +kernel
theorem dL_isStill_484 : decode cL_isStill 484 = .ok (.iconst 1, 1) := by decide +kernel
theorem dL_isStill_485 : decode cL_isStill 485 = .ok (.isub, 1) := by decide +kernel
theorem dL_isStill_486 : decode cL_isStill 486 = .ok (.invokevirtual 85, 3) := by decide +kernel
theorem dL_isStill_489 : decode cL_isStill 489 = .ok (.ldc2_w 133, 3) := by decide +kernel
theorem dL_isStill_492 : decode cL_isStill 492 = .ok (.ladd, 1) := by decide +kernel
theorem dL_isStill_493 : decode cL_isStill 493 = .ok (.lcmp, 1) := by decide +kernel
theorem dL_isStill_494 : decode cL_isStill 494 = .ok (.ifCond .ne 7, 3) := by decide +kernel
theorem dL_isStill_497 : decode cL_isStill 497 = .ok (.iconst 1, 1) := by decide +kernel
theorem dL_isStill_498 : decode cL_isStill 498 = .ok (.goto 4, 3) := by decide +kernel
theorem dL_isStill_501 : decode cL_isStill 501 = .ok (.iconst 0, 1) := by decide +kernel
theorem dL_isStill_502 : decode cL_isStill 502 = .ok (.istore_n 2, 1) := by decide +kernel
theorem dL_isStill_503 : decode cL_isStill 503 = .ok (.iinc 3 1, 3) := by decide +kernel
theorem dL_isStill_506 : decode cL_isStill 506 = .ok (.goto (-48), 3) := by decide +kernel
theorem dL_isStill_509 : decode cL_isStill 509 = .ok (.iload_n 2, 1) := by decide +kernel
theorem dL_isStill_510 : decode cL_isStill 510 = .ok (.ireturn, 1) := by decide +kernel
theorem dL_isWrapped_0 : decode cL_isWrapped 0 = .ok (.iconst 1, 1) := by decide +kernel
theorem dL_isWrapped_1 : decode cL_isWrapped 1 = .ok (.aload_n 0, 1) := by decide +kernel
theorem dL_isWrapped_2 : decode cL_isWrapped 2 = .ok (.bipush 10, 2) := by decide +kernel
theorem dL_isWrapped_4 : decode cL_isWrapped 4 = .ok (.invokevirtual 45, 3) := by decide +kernel
theorem dL_isWrapped_7 : decode cL_isWrapped 7 = .ok (.iadd, 1) := by decide +kernel
theorem dL_isWrapped_8 : decode cL_isWrapped 8 = .ok (.istore_n 1, 1) := by decide +kernel
theorem dL_isWrapped_9 : decode cL_isWrapped 9 = .ok (.aload_n 0, 1) := by decide +kernel
theorem dL_isWrapped_10 : decode cL_isWrapped 10 = .ok (.getfield 10, 3) := by decide +kernel
theorem dL_isWrapped_13 : decode cL_isWrapped 13 = .ok (.iconst 0, 1) := by decide +kernel
theorem dL_isWrapped_14 : decode cL_isWrapped 14 = .ok (.iload_n 1, 1) := by decide +kernel
theorem dL_isWrapped_15 : decode cL_isWrapped 15 = .ok (.invokevirtual 157, 3) := by decide +kernel
theorem dL_isWrapped_18 : decode cL_isWrapped 18 = .ok (.pop, 1) := by decide +kernel
theorem dL_isWrapped_19 : decode cL_isWrapped 19 = .ok (.aload_n 0, 1) := by decide +kernel
theorem dL_isWrapped_20 : decode cL_isWrapped 20 = .ok (.iload_n 1, 1) := by decide +kernel
theorem dL_isWrapped_21 : decode cL_isWrapped 21 = .ok (.invokevirtual 45, 3) := by decide +kernel
theorem dL_isWrapped_24 : decode cL_isWrapped 24 = .ok (.istore_n 2, 1) := by decide +kernel
theorem dL_isWrapped_25 : decode cL_isWrapped 25 = .ok (.aload_n 0, 1) := by decide +kernel
theorem dL_isWrapped_26 : decode cL_isWrapped 26 = .ok (.ldc 82, 2) := by decide +kernel
theorem dL_isWrapped_28 : decode cL_isWrapped 28 = .ok (.invokevirtual 45, 3) := by decide +kernel
theorem dL_isWrapped_31 : decode cL_isWrapped 31 = .ok (.istore_n 3, 1) := by decide +kernel
theorem dL_isWrapped_32 : decode cL_isWrapped 32 = .ok (.aload_n 0, 1) := by decide +kernel
theorem dL_isWrapped_33 : decode cL_isWrapped 33 = .ok (.getfield 10, 3) := by decide +kernel
theorem dL_isWrapped_36 : decode cL_isWrapped 36 = .ok (.iconst 5, 1) := by decide +kernel
theorem dL_isWrapped_37 : decode cL_isWrapped 37 = .ok (.iconst 0, 1) := by decide +kernel
theorem dL_isWrapped_38 : decode cL_isWrapped 38 = .ok (.invokevirtual 160, 3) := by decide +kernel
theorem dL_isWrapped_41 : decode cL_isWrapped 41 = .ok (.iload_n 1, 1) := by decide +kernel
theorem dL_isWrapped_42 : decode cL_isWrapped 42 = .ok (.if_icmp .ne 67, 3) := by decide +kernel
theorem dL_isWrapped_45 : decode cL_isWrapped 45 = .ok (.aload_n 0, 1) := by decide +kernel
theorem dL_isWrapped_46 : decode cL_isWrapped 46 = .ok (.getfield 10, 3) := by decide +kernel
theorem dL_isWrapped_49 : decode cL_isWrapped 49 = .ok (.iconst 0, 1) := by decide +kernel
theorem dL_isWrapped_50 : decode cL_isWrapped 50 = .ok (.iload_n 2, 1) := by decide +kernel
theorem dL_isWrapped_51 : decode cL_isWrapped 51 = .ok (.iload_n 3, 1) := by decide +kernel
theorem dL_isWrapped_52 : decode cL_isWrapped 52 = .ok (.invokevirtual 163, 3) := by decide +kernel
theorem dL_isWrapped_55 : decode cL_isWrapped 55 = .ok (.ifCond .ne 54, 3) := by decide +kernel
theorem dL_isWrapped_58 : decode cL_isWrapped 58 = .ok (.aload_n 0, 1) := by decide +kernel
theorem dL_isWrapped_59 : decode cL_isWrapped 59 = .ok (.getfield 10, 3) := by decide +kernel
theorem dL_isWrapped_62 : decode cL_isWrapped 62 = .ok (.iconst 5, 1) := by decide +kernel
theorem dL_isWrapped_63 : decode cL_isWrapped 63 = .ok (.iload_n 2, 1) := by decide +kernel
theorem dL_isWrapped_64 : decode cL_isWrapped 64 = .ok (.invokevirtual 85, 3) := by decide +kernel
theorem dL_isWrapped_67 : decode cL_isWrapped 67 = .ok (.iload_n 3, 1) := by decide +kernel
theorem dL_isWrapped_68 : decode cL_isWrapped 68 = .ok (.i2l, 1) := by decide +kernel
theorem dL_isWrapped_69 : decode cL_isWrapped 69 = .ok (.lcmp, 1) := by decide +kernel
theorem dL_isWrapped_70 : decode cL_isWrapped 70 = .ok (.ifCond .ne 39, 3) := by decide +kernel
theorem dL_isWrapped_73 : decode cL_isWrapped 73 = .ok (.aload_n 0, 1) := by decide +kernel
theorem dL_isWrapped_74 : decode cL_isWrapped 74 = .ok (.getfield 10, 3) := by decide +kernel
theorem dL_isWrapped_77 : decode cL_isWrapped 77 = .ok (.iconst 5, 1) := by decide +kernel
theorem dL_isWrapped_78 : decode cL_isWrapped 78 = .ok (.iload_n 2, 1) := by decide +kernel
theorem dL_isWrapped_79 : decode cL_isWrapped 79 = .ok (.ldc2_w 167, 3) := by decide +kernel
theorem dL_isWrapped_82 : decode cL_isWrapped 82 = .ok (.invokevirtual 89, 3) := by decide +kernel
theorem dL_isWrapped_85 : decode cL_isWrapped 85 = .ok (.iload_n 3, 1) := by decide +kernel
theorem dL_isWrapped_86 : decode cL_isWrapped 86 = .ok (.i2l, 1) := by decide +kernel
theorem dL_isWrapped_87 : decode cL_isWrapped 87 = .ok (.lcmp, 1) := by decide +kernel
theorem dL_isWrapped_88 : decode cL_isWrapped 88 = .ok (.ifCond .ne 21, 3) := by decide +kernel
theorem dL_isWrapped_91 : decode cL_isWrapped 91 = .ok (.aload_n 0, 1) := by decide +kernel
theorem dL_isWrapped_92 : decode cL_isWrapped 92 = .ok (.getfield 10, 3) := by decide +kernel
theorem dL_isWrapped_95 : decode cL_isWrapped 95 = .ok (.iconst 0, 1) := by decide +kernel
theorem dL_isWrapped_96 : decode cL_isWrapped 96 = .ok (.iload_n 2, 1) := by decide +kernel
theorem dL_isWrapped_97 : decode cL_isWrapped 97 = .ok (.invokevirtual 169, 3) := by decide +kernel
theorem dL_isWrapped_100 : decode cL_isWrapped 100 = .ok (.bipush 7, 2) := by decide +kernel
theorem dL_isWrapped_102 : decode cL_isWrapped 102 = .ok (.if_icmp .ne 7, 3) := by decide +kernel
theorem dL_isWrapped_105 : decode cL_isWrapped 105 = .ok (.iconst 1, 1) := by decide +kernel
theorem dL_isWrapped_106 : decode cL_isWrapped 106 = .ok (.goto 4, 3) := by decide +kernel
theorem dL_isWrapped_109 : decode cL_isWrapped 109 = .ok (.iconst 0, 1) := by decide +kernel
theorem dL_isWrapped_110 : decode cL_isWrapped 110 = .ok (.istore 4, 2) := by decide +kernel
theorem dL_isWrapped_112 : decode cL_isWrapped 112 = .ok (.iload 4, 2) := by decide +kernel
theorem dL_isWrapped_114 : decode cL_isWrapped 114 = .ok (.ifCond .eq 48, 3) := by decide +kernel
theorem dL_isWrapped_117 : decode cL_isWrapped 117 = .ok (.aload_n 0, 1) := by decide +kernel
theorem dL_isWrapped_118 : decode cL_isWrapped 118 = .ok (.getfield 10, 3) := by decide +kernel
theorem dL_isWrapped_121 : decode cL_isWrapped 121 = .ok (.iconst 0, 1) := by decide +kernel
theorem dL_isWrapped_122 : decode cL_isWrapped 122 = .ok (.iload_n 1, 1) := by decide +kernel
theorem dL_isWrapped_123 : decode cL_isWrapped 123 = .ok (.invokevirtual 157, 3) := by decide +kernel
theorem dL_isWrapped_126 : decode cL_isWrapped 126 = .ok (.iload_n 1, 1) := by decide +kernel
theorem dL_isWrapped_127 : decode cL_isWrapped 127 = .ok (.if_icmp .ne 35, 3) := by decide +kernel
theorem dL_isWrapped_130 : decode cL_isWrapped 130 = .ok (.aload_n 0, 1) := by decide +kernel
theorem dL_isWrapped_131 : decode cL_isWrapped 131 = .ok (.getfield 10, 3) := by decide +kernel
theorem dL_isWrapped_134 : decode cL_isWrapped 134 = .ok (.iconst 5, 1) := by decide +kernel
theorem dL_isWrapped_135 : decode cL_isWrapped 135 = .ok (.iload_n 2, 1) := by decide +kernel
theorem dL_isWrapped_136 : decode cL_isWrapped 136 = .ok (.invokevirtual 85, 3) := by decide +kernel
theorem dL_isWrapped_139 : decode cL_isWrapped 139 = .ok (.ldc2_w 167, 3) := by decide +kernel
theorem dL_isWrapped_142 : decode cL_isWrapped 142 = .ok (.lcmp, 1) := by decide +kernel
theorem dL_isWrapped_143 : decode cL_isWrapped 143 = .ok (.ifCond .ne 19, 3) := by decide +kernel
theorem dL_isWrapped_146 : decode cL_isWrapped 146 = .ok (.aload_n 0, 1) := by decide +kernel
theorem dL_isWrapped_147 : decode cL_isWrapped 147 = .ok (.getfield 10, 3) := by decide +kernel
theorem dL_isWrapped_150 : decode cL_isWrapped 150 = .ok (.iconst 0, 1) := by decide +kernel
theorem dL_isWrapped_151 : decode cL_isWrapped 151 = .ok (.iload_n 2, 1) := by decide +kernel
theorem dL_isWrapped_152 : decode cL_isWrapped 152 = .ok (.invokevirtual 169, 3) := by decide +kernel
theorem dL_isWrapped_155 : decode cL_isWrapped 155 = .ok (.ifCond .ne 7, 3) := by decide +kernel
theorem dL_isWrapped_158 : decode cL_isWrapped 158 = .ok (.iconst 1, 1) := by decide +kernel
theorem dL_isWrapped_159 : decode cL_isWrapped 159 = .ok (.goto 4, 3) := by decide +kernel
theorem dL_isWrapped_162 : decode cL_isWrapped 162 = .ok (.iconst 0, 1) := by decide +kernel
theorem dL_isWrapped_163 : decode cL_isWrapped 163 = .ok (.ireturn, 1) := by decide +kernel
theorem dL_holdsAll_0 : decode cL_holdsAll 0 = .ok (.aload_n 0, 1) := by decide +kernel
theorem dL_holdsAll_1 : decode cL_holdsAll 1 = .ok (.aload_n 1, 1) := by decide +kernel
theorem dL_holdsAll_2 : decode cL_holdsAll 2 = .ok (.putfield 21, 3) := by decide +kernel
theorem dL_holdsAll_5 : decode cL_holdsAll 5 = .ok (.iconst 1, 1) := by decide +kernel
theorem dL_holdsAll_6 : decode cL_holdsAll 6 = .ok (.istore_n 2, 1) := by decide +kernel
theorem dL_holdsAll_7 : decode cL_holdsAll 7 = .ok (.iconst 0, 1) := by decide +kernel
theorem dL_holdsAll_8 : decode cL_holdsAll 8 = .ok (.istore_n 3, 1) := by decide +kernel
theorem dL_holdsAll_9 : decode cL_holdsAll 9 = .ok (.iload_n 3, 1) := by decide +kernel
theorem dL_holdsAll_10 : decode cL_holdsAll 10 = .ok (.iconst 3, 1) := by decide +kernel
theorem dL_holdsAll_11 : decode cL_holdsAll 11 = .ok (.aload_n 0, 1) := by decide +kernel
theorem dL_holdsAll_12 : decode cL_holdsAll 12 = .ok (.iconst 3, 1) := by decide +kernel
theorem dL_holdsAll_13 : decode cL_holdsAll 13 = .ok (.invokevirtual 45, 3) := by decide +kernel
theorem dL_holdsAll_16 : decode cL_holdsAll 16 = .ok (.iadd, 1) := by decide +kernel
theorem dL_holdsAll_17 : decode cL_holdsAll 17 = .ok (.if_icmp .ge 63, 3) := by decide +kernel
theorem dL_holdsAll_20 : decode cL_holdsAll 20 = .ok (.iload_n 2, 1) := by decide +kernel
theorem dL_holdsAll_21 : decode cL_holdsAll 21 = .ok (.ifCond .eq 59, 3) := by decide +kernel
theorem dL_holdsAll_24 : decode cL_holdsAll 24 = .ok (.aload_n 0, 1) := by decide +kernel
theorem dL_holdsAll_25 : decode cL_holdsAll 25 = .ok (.iconst 4, 1) := by decide +kernel
theorem dL_holdsAll_26 : decode cL_holdsAll 26 = .ok (.invokevirtual 45, 3) := by decide +kernel
theorem dL_holdsAll_29 : decode cL_holdsAll 29 = .ok (.istore 4, 2) := by decide +kernel
theorem dL_holdsAll_31 : decode cL_holdsAll 31 = .ok (.iload 4, 2) := by decide +kernel
theorem dL_holdsAll_33 : decode cL_holdsAll 33 = .ok (.ifCond .ne 10, 3) := by decide +kernel
theorem dL_holdsAll_36 : decode cL_holdsAll 36 = .ok (.aload_n 0, 1) := by decide +kernel
theorem dL_holdsAll_37 : decode cL_holdsAll 37 = .ok (.invokevirtual 172, 3) := by decide +kernel
theorem dL_holdsAll_40 : decode cL_holdsAll 40 = .ok (.goto 33, 3) := by decide +kernel
theorem dL_holdsAll_43 : decode cL_holdsAll 43 = .ok (.iload 4, 2) := by decide +kernel
theorem dL_holdsAll_45 : decode cL_holdsAll 45 = .ok (.iconst 1, 1) := by decide +kernel
theorem dL_holdsAll_46 : decode cL_holdsAll 46 = .ok (.if_icmp .ne 10, 3) := by decide +kernel
theorem dL_holdsAll_49 : decode cL_holdsAll 49 = .ok (.aload_n 0, 1) := by decide +kernel
theorem dL_holdsAll_50 : decode cL_holdsAll 50 = .ok (.invokevirtual 176, 3) := by decide +kernel
theorem dL_holdsAll_53 : decode cL_holdsAll 53 = .ok (.goto 20, 3) := by decide +kernel
theorem dL_holdsAll_56 : decode cL_holdsAll 56 = .ok (.iload 4, 2) := by decide +kernel
theorem dL_holdsAll_58 : decode cL_holdsAll 58 = .ok (.iconst 2, 1) := by decide +kernel
theorem dL_holdsAll_59 : decode cL_holdsAll 59 = .ok (.if_icmp .ne 10, 3) := by decide +kernel
theorem dL_holdsAll_62 : decode cL_holdsAll 62 = .ok (.aload_n 0, 1) := by decide +kernel
theorem dL_holdsAll_63 : decode cL_holdsAll 63 = .ok (.invokevirtual 179, 3) := by decide +kernel
theorem dL_holdsAll_66 : decode cL_holdsAll 66 = .ok (.goto 7, 3) := by decide +kernel
theorem dL_holdsAll_69 : decode cL_holdsAll 69 = .ok (.aload_n 0, 1) := by decide +kernel
theorem dL_holdsAll_70 : decode cL_holdsAll 70 = .ok (.invokevirtual 182, 3) := by decide +kernel
theorem dL_holdsAll_73 : decode cL_holdsAll 73 = .ok (.istore_n 2, 1) := by decide +kernel
theorem dL_holdsAll_74 : decode cL_holdsAll 74 = .ok (.iinc 3 1, 3) := by decide +kernel
theorem dL_holdsAll_77 : decode cL_holdsAll 77 = .ok (.goto (-68), 3) := by decide +kernel
theorem dL_holdsAll_80 : decode cL_holdsAll 80 = .ok (.iload_n 2, 1) := by decide +kernel
theorem dL_holdsAll_81 : decode cL_holdsAll 81 = .ok (.ifCond .eq 17, 3) := by decide +kernel
theorem dL_holdsAll_84 : decode cL_holdsAll 84 = .ok (.aload_n 0, 1) := by decide +kernel
theorem dL_holdsAll_85 : decode cL_holdsAll 85 = .ok (.getfield 10, 3) := by decide +kernel
theorem dL_holdsAll_88 : decode cL_holdsAll 88 = .ok (.invokevirtual 185, 3) := by decide +kernel
theorem dL_holdsAll_91 : decode cL_holdsAll 91 = .ok (.ifCond .eq 7, 3) := by decide +kernel
theorem dL_holdsAll_94 : decode cL_holdsAll 94 = .ok (.iconst 1, 1) := by decide +kernel
theorem dL_holdsAll_95 : decode cL_holdsAll 95 = .ok (.goto 4, 3) := by decide +kernel
theorem dL_holdsAll_98 : decode cL_holdsAll 98 = .ok (.iconst 0, 1) := by decide +kernel
theorem dL_holdsAll_99 : decode cL_holdsAll 99 = .ok (.ireturn, 1) := by decide +kernel
theorem dL_law_0 : decode cL_law 0 = .ok (.new 11, 3) := by decide +kernel
theorem dL_law_3 : decode cL_law 3 = .ok (.dup, 1) := by decide +kernel
theorem dL_law_4 : decode cL_law 4 = .ok (.invokespecial 188, 3) := by decide +kernel
theorem dL_law_7 : decode cL_law 7 = .ok (.aload_n 0, 1) := by decide +kernel
theorem dL_law_8 : decode cL_law 8 = .ok (.invokevirtual 189, 3) := by decide +kernel
theorem dL_law_11 : decode cL_law 11 = .ok (.ireturn, 1) := by decide +kernel
