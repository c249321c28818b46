theorem dL_areParted_204 : decode cL_areParted 204 = .ok (.invokevirtual 135, 3) := by decide +kernel
theorem dL_areParted_207 : decode cL_areParted 207 = .ok (.istore 10, 2) := by decide +kernel
theorem dL_areParted_209 : decode cL_areParted 209 = .ok (.aload_n 0, 1) := by decide +kernel
theorem dL_areParted_210 : decode cL_areParted 210 = .ok (.iconst 5, 1) := by decide +kernel
theorem dL_areParted_211 : decode cL_areParted 211 = .ok (.iload 6, 2) := by decide +kernel
theorem dL_areParted_213 : decode cL_areParted 213 = .ok (.iload 7, 2) := by decide +kernel
theorem dL_areParted_215 : decode cL_areParted 215 = .ok (.invokestatic 158, 3) := by decide +kernel
theorem dL_areParted_218 : decode cL_areParted 218 = .ok (.ifCond .eq 10, 3) := by decide +kernel
theorem dL_areParted_221 : decode cL_areParted 221 = .ok (.aload_n 0, 1) := by decide +kernel
theorem dL_areParted_222 : decode cL_areParted 222 = .ok (.invokevirtual 169, 3) := by decide +kernel
theorem dL_areParted_225 : decode cL_areParted 225 = .ok (.ifCond .lt 5, 3) := by decide +kernel
theorem dL_areParted_228 : decode cL_areParted 228 = .ok (.iconst 0, 1) := by decide +kernel
theorem dL_areParted_229 : decode cL_areParted 229 = .ok (.ireturn, 1) := by decide +kernel
theorem dL_areParted_230 : decode cL_areParted 230 = .ok (.aload_n 0, 1) := by decide +kernel
theorem dL_areParted_231 : decode cL_areParted 231 = .ok (.iload_n 3, 1) := by decide +kernel
theorem dL_areParted_232 : decode cL_areParted 232 = .ok (.iconst 0, 1) := by decide +kernel
theorem dL_areParted_233 : decode cL_areParted 233 = .ok (.invokevirtual 135, 3) := by decide +kernel
theorem dL_areParted_236 : decode cL_areParted 236 = .ok (.iload 8, 2) := by decide +kernel
theorem dL_areParted_238 : decode cL_areParted 238 = .ok (.if_icmp .ne 7, 3) := by decide +kernel
theorem dL_areParted_241 : decode cL_areParted 241 = .ok (.iconst 1, 1) := by decide +kernel
theorem dL_areParted_242 : decode cL_areParted 242 = .ok (.goto 4, 3) := by decide +kernel
theorem dL_areParted_245 : decode cL_areParted 245 = .ok (.iconst 0, 1) := by decide +kernel
theorem dL_areParted_246 : decode cL_areParted 246 = .ok (.istore 5, 2) := by decide +kernel
theorem dL_areParted_248 : decode cL_areParted 248 = .ok (.iconst 0, 1) := by decide +kernel
theorem dL_areParted_249 : decode cL_areParted 249 = .ok (.istore 11, 2) := by decide +kernel
theorem dL_areParted_251 : decode cL_areParted 251 = .ok (.iconst 0, 1) := by decide +kernel
theorem dL_areParted_252 : decode cL_areParted 252 = .ok (.istore 12, 2) := by decide +kernel
theorem dL_areParted_254 : decode cL_areParted 254 = .ok (.aload_n 0, 1) := by decide +kernel
theorem dL_areParted_255 : decode cL_areParted 255 = .ok (.iload_n 3, 1) := by decide +kernel
theorem dL_areParted_256 : decode cL_areParted 256 = .ok (.iload 11, 2) := by decide +kernel
theorem dL_areParted_258 : decode cL_areParted 258 = .ok (.invokevirtual 138, 3) := by decide +kernel
theorem dL_areParted_261 : decode cL_areParted 261 = .ok (.ifCond .lt 23, 3) := by decide +kernel
theorem dL_areParted_264 : decode cL_areParted 264 = .ok (.iload 12, 2) := by decide +kernel
theorem dL_areParted_266 : decode cL_areParted 266 = .ok (.iconst 1, 1) := by decide +kernel
theorem dL_areParted_267 : decode cL_areParted 267 = .ok (.aload_n 0, 1) := by decide +kernel
theorem dL_areParted_268 : decode cL_areParted 268 = .ok (.iload_n 3, 1) := by decide +kernel
theorem dL_areParted_269 : decode cL_areParted 269 = .ok (.iload 11, 2) := by decide +kernel
theorem dL_areParted_271 : decode cL_areParted 271 = .ok (.invokevirtual 138, 3) := by decide +kernel
theorem dL_areParted_274 : decode cL_areParted 274 = .ok (.ishl, 1) := by decide +kernel
theorem dL_areParted_275 : decode cL_areParted 275 = .ok (.ior, 1) := by decide +kernel
theorem dL_areParted_276 : decode cL_areParted 276 = .ok (.istore 12, 2) := by decide +kernel
theorem dL_areParted_278 : decode cL_areParted 278 = .ok (.iinc 11 1, 3) := by decide +kernel
theorem dL_areParted_281 : decode cL_areParted 281 = .ok (.goto (-27), 3) := by decide +kernel
theorem dL_areParted_284 : decode cL_areParted 284 = .ok (.iload 5, 2) := by decide +kernel
theorem dL_areParted_286 : decode cL_areParted 286 = .ok (.ifCond .eq 39, 3) := by decide +kernel
theorem dL_areParted_289 : decode cL_areParted 289 = .ok (.aload_n 0, 1) := by decide +kernel
theorem dL_areParted_290 : decode cL_areParted 290 = .ok (.invokevirtual 162, 3) := by decide +kernel
theorem dL_areParted_293 : decode cL_areParted 293 = .ok (.ifCond .le 32, 3) := by decide +kernel
theorem dL_areParted_296 : decode cL_areParted 296 = .ok (.iload 9, 2) := by decide +kernel
theorem dL_areParted_298 : decode cL_areParted 298 = .ok (.iload 10, 2) := by decide +kernel
theorem dL_areParted_300 : decode cL_areParted 300 = .ok (.iand, 1) := by decide +kernel
theorem dL_areParted_301 : decode cL_areParted 301 = .ok (.ifCond .ne 24, 3) := by decide +kernel
theorem dL_areParted_304 : decode cL_areParted 304 = .ok (.iload 9, 2) := by decide +kernel
theorem dL_areParted_306 : decode cL_areParted 306 = .ok (.iload 10, 2) := by decide +kernel
theorem dL_areParted_308 : decode cL_areParted 308 = .ok (.ior, 1) := by decide +kernel
theorem dL_areParted_309 : decode cL_areParted 309 = .ok (.iload 8, 2) := by decide +kernel
theorem dL_areParted_311 : decode cL_areParted 311 = .ok (.if_icmp .ne 14, 3) := by decide +kernel
theorem dL_areParted_314 : decode cL_areParted 314 = .ok (.iload 12, 2) := by decide +kernel
theorem dL_areParted_316 : decode cL_areParted 316 = .ok (.iload 8, 2) := by decide +kernel
theorem dL_areParted_318 : decode cL_areParted 318 = .ok (.if_icmp .ne 7, 3) := by decide +kernel
theorem dL_areParted_321 : decode cL_areParted 321 = .ok (.iconst 1, 1) := by decide +kernel
theorem dL_areParted_322 : decode cL_areParted 322 = .ok (.goto 4, 3) := by decide +kernel
theorem dL_areParted_325 : decode cL_areParted 325 = .ok (.iconst 0, 1) := by decide +kernel
theorem dL_areParted_326 : decode cL_areParted 326 = .ok (.ireturn, 1) := by decide +kernel
theorem dL_areTags_0 : decode cL_areTags 0 = .ok (.iconst 1, 1) := by decide +kernel
theorem dL_areTags_1 : decode cL_areTags 1 = .ok (.istore_n 1, 1) := by decide +kernel
theorem dL_areTags_2 : decode cL_areTags 2 = .ok (.iconst 0, 1) := by decide +kernel
theorem dL_areTags_3 : decode cL_areTags 3 = .ok (.istore_n 2, 1) := by decide +kernel
theorem dL_areTags_4 : decode cL_areTags 4 = .ok (.aload_n 0, 1) := by decide +kernel
theorem dL_areTags_5 : decode cL_areTags 5 = .ok (.bipush 17, 2) := by decide +kernel
theorem dL_areTags_7 : decode cL_areTags 7 = .ok (.iload_n 2, 1) := by decide +kernel
theorem dL_areTags_8 : decode cL_areTags 8 = .ok (.iconst 0, 1) := by decide +kernel
theorem dL_areTags_9 : decode cL_areTags 9 = .ok (.iconst 0, 1) := by decide +kernel
theorem dL_areTags_10 : decode cL_areTags 10 = .ok (.iconst 0, 1) := by decide +kernel
theorem dL_areTags_11 : decode cL_areTags 11 = .ok (.invokestatic 152, 3) := by decide +kernel
theorem dL_areTags_14 : decode cL_areTags 14 = .ok (.ifCond .lt 9, 3) := by decide +kernel
theorem dL_areTags_17 : decode cL_areTags 17 = .ok (.iinc 2 1, 3) := by decide +kernel
theorem dL_areTags_20 : decode cL_areTags 20 = .ok (.goto (-16), 3) := by decide +kernel
theorem dL_areTags_23 : decode cL_areTags 23 = .ok (.iconst 0, 1) := by decide +kernel
theorem dL_areTags_24 : decode cL_areTags 24 = .ok (.istore_n 3, 1) := by decide +kernel
theorem dL_areTags_25 : decode cL_areTags 25 = .ok (.iload_n 3, 1) := by decide +kernel
theorem dL_areTags_26 : decode cL_areTags 26 = .ok (.iload_n 2, 1) := by decide +kernel
theorem dL_areTags_27 : decode cL_areTags 27 = .ok (.if_icmp .ge 188, 3) := by decide +kernel
theorem dL_areTags_30 : decode cL_areTags 30 = .ok (.iload_n 1, 1) := by decide +kernel
theorem dL_areTags_31 : decode cL_areTags 31 = .ok (.ifCond .eq 184, 3) := by decide +kernel
theorem dL_areTags_34 : decode cL_areTags 34 = .ok (.aload_n 0, 1) := by decide +kernel
theorem dL_areTags_35 : decode cL_areTags 35 = .ok (.iload_n 3, 1) := by decide +kernel
theorem dL_areTags_36 : decode cL_areTags 36 = .ok (.iconst 1, 1) := by decide +kernel
theorem dL_areTags_37 : decode cL_areTags 37 = .ok (.invokevirtual 118, 3) := by decide +kernel
theorem dL_areTags_40 : decode cL_areTags 40 = .ok (.istore 4, 2) := by decide +kernel
theorem dL_areTags_42 : decode cL_areTags 42 = .ok (.aload_n 0, 1) := by decide +kernel
theorem dL_areTags_43 : decode cL_areTags 43 = .ok (.iload_n 3, 1) := by decide +kernel
theorem dL_areTags_44 : decode cL_areTags 44 = .ok (.iconst 0, 1) := by decide +kernel
theorem dL_areTags_45 : decode cL_areTags 45 = .ok (.invokevirtual 118, 3) := by decide +kernel
theorem dL_areTags_48 : decode cL_areTags 48 = .ok (.istore 5, 2) := by decide +kernel
theorem dL_areTags_50 : decode cL_areTags 50 = .ok (.aload_n 0, 1) := by decide +kernel
theorem dL_areTags_51 : decode cL_areTags 51 = .ok (.iload_n 3, 1) := by decide +kernel
theorem dL_areTags_52 : decode cL_areTags 52 = .ok (.iconst 2, 1) := by decide +kernel
theorem dL_areTags_53 : decode cL_areTags 53 = .ok (.invokevirtual 118, 3) := by decide +kernel
theorem dL_areTags_56 : decode cL_areTags 56 = .ok (.istore 6, 2) := by decide +kernel
theorem dL_areTags_58 : decode cL_areTags 58 = .ok (.iload 5, 2) := by decide +kernel
theorem dL_areTags_60 : decode cL_areTags 60 = .ok (.ifCond .ne 7, 3) := by decide +kernel
theorem dL_areTags_63 : decode cL_areTags 63 = .ok (.iconst 1, 1) := by decide +kernel
theorem dL_areTags_64 : decode cL_areTags 64 = .ok (.goto 4, 3) := by decide +kernel
theorem dL_areTags_67 : decode cL_areTags 67 = .ok (.iconst 0, 1) := by decide +kernel
theorem dL_areTags_68 : decode cL_areTags 68 = .ok (.iload 4, 2) := by decide +kernel
theorem dL_areTags_70 : decode cL_areTags 70 = .ok (.ifCond .ge 7, 3) := by decide +kernel
theorem dL_areTags_73 : decode cL_areTags 73 = .ok (.iconst 1, 1) := by decide +kernel
theorem dL_areTags_74 : decode cL_areTags 74 = .ok (.goto 4, 3) := by decide +kernel
theorem dL_areTags_77 : decode cL_areTags 77 = .ok (.iconst 0, 1) := by decide +kernel
theorem dL_areTags_78 : decode cL_areTags 78 = .ok (.if_icmp .ne 68, 3) := by decide +kernel
theorem dL_areTags_81 : decode cL_areTags 81 = .ok (.iload 5, 2) := by decide +kernel
theorem dL_areTags_83 : decode cL_areTags 83 = .ok (.iconst 1, 1) := by decide +kernel
theorem dL_areTags_84 : decode cL_areTags 84 = .ok (.if_icmp .ne 7, 3) := by decide +kernel
theorem dL_areTags_87 : decode cL_areTags 87 = .ok (.iconst 1, 1) := by decide +kernel
theorem dL_areTags_88 : decode cL_areTags 88 = .ok (.goto 4, 3) := by decide +kernel
theorem dL_areTags_91 : decode cL_areTags 91 = .ok (.iconst 0, 1) := by decide +kernel
theorem dL_areTags_92 : decode cL_areTags 92 = .ok (.iload 4, 2) := by decide +kernel
theorem dL_areTags_94 : decode cL_areTags 94 = .ok (.iload_n 3, 1) := by decide +kernel
theorem dL_areTags_95 : decode cL_areTags 95 = .ok (.if_icmp .ne 7, 3) := by decide +kernel
theorem dL_areTags_98 : decode cL_areTags 98 = .ok (.iconst 1, 1) := by decide +kernel
theorem dL_areTags_99 : decode cL_areTags 99 = .ok (.goto 4, 3) := by decide +kernel
theorem dL_areTags_102 : decode cL_areTags 102 = .ok (.iconst 0, 1) := by decide +kernel
theorem dL_areTags_103 : decode cL_areTags 103 = .ok (.if_icmp .ne 43, 3) := by decide +kernel
theorem dL_areTags_106 : decode cL_areTags 106 = .ok (.iload 4, 2) := by decide +kernel
theorem dL_areTags_108 : decode cL_areTags 108 = .ok (.ifCond .lt 14, 3) := by decide +kernel
theorem dL_areTags_111 : decode cL_areTags 111 = .ok (.aload_n 0, 1) := by decide +kernel
theorem dL_areTags_112 : decode cL_areTags 112 = .ok (.iload 4, 2) := by decide +kernel
theorem dL_areTags_114 : decode cL_areTags 114 = .ok (.iconst 0, 1) := by decide +kernel
theorem dL_areTags_115 : decode cL_areTags 115 = .ok (.invokevirtual 118, 3) := by decide +kernel
theorem dL_areTags_118 : decode cL_areTags 118 = .ok (.iconst 1, 1) := by decide +kernel
theorem dL_areTags_119 : decode cL_areTags 119 = .ok (.if_icmp .ne 27, 3) := by decide +kernel
theorem dL_areTags_122 : decode cL_areTags 122 = .ok (.iload 6, 2) := by decide +kernel
theorem dL_areTags_124 : decode cL_areTags 124 = .ok (.iload_n 3, 1) := by decide +kernel
theorem dL_areTags_125 : decode cL_areTags 125 = .ok (.ishr, 1) := by decide +kernel
theorem dL_areTags_126 : decode cL_areTags 126 = .ok (.iconst 1, 1) := by decide +kernel
theorem dL_areTags_127 : decode cL_areTags 127 = .ok (.iand, 1) := by decide +kernel
theorem dL_areTags_128 : decode cL_areTags 128 = .ok (.ifCond .ne 18, 3) := by decide +kernel
theorem dL_areTags_131 : decode cL_areTags 131 = .ok (.iload 5, 2) := by decide +kernel
theorem dL_areTags_133 : decode cL_areTags 133 = .ok (.iconst 1, 1) := by decide +kernel
theorem dL_areTags_134 : decode cL_areTags 134 = .ok (.if_icmp .eq 8, 3) := by decide +kernel
theorem dL_areTags_137 : decode cL_areTags 137 = .ok (.iload 6, 2) := by decide +kernel
theorem dL_areTags_139 : decode cL_areTags 139 = .ok (.ifCond .ne 7, 3) := by decide +kernel
theorem dL_areTags_142 : decode cL_areTags 142 = .ok (.iconst 1, 1) := by decide +kernel
theorem dL_areTags_143 : decode cL_areTags 143 = .ok (.goto 4, 3) := by decide +kernel
theorem dL_areTags_146 : decode cL_areTags 146 = .ok (.iconst 0, 1) := by decide +kernel
theorem dL_areTags_147 : decode cL_areTags 147 = .ok (.istore_n 1, 1) := by decide +kernel
theorem dL_areTags_148 : decode cL_areTags 148 = .ok (.iconst 0, 1) := by decide +kernel
theorem dL_areTags_149 : decode cL_areTags 149 = .ok (.istore 7, 2) := by decide +kernel
theorem dL_areTags_151 : decode cL_areTags 151 = .ok (.iload 7, 2) := by decide +kernel
theorem dL_areTags_153 : decode cL_areTags 153 = .ok (.iload_n 2, 1) := by decide +kernel
theorem dL_areTags_154 : decode cL_areTags 154 = .ok (.if_icmp .ge 55, 3) := by decide +kernel
theorem dL_areTags_157 : decode cL_areTags 157 = .ok (.iload_n 1, 1) := by decide +kernel
theorem dL_areTags_158 : decode cL_areTags 158 = .ok (.ifCond .eq 51, 3) := by decide +kernel
theorem dL_areTags_161 : decode cL_areTags 161 = .ok (.iload 6, 2) := by decide +kernel
theorem dL_areTags_163 : decode cL_areTags 163 = .ok (.iload 7, 2) := by decide +kernel
theorem dL_areTags_165 : decode cL_areTags 165 = .ok (.ishr, 1) := by decide +kernel
theorem dL_areTags_166 : decode cL_areTags 166 = .ok (.iconst 1, 1) := by decide +kernel
theorem dL_areTags_167 : decode cL_areTags 167 = .ok (.iand, 1) := by decide +kernel
theorem dL_areTags_168 : decode cL_areTags 168 = .ok (.ifCond .eq 29, 3) := by decide +kernel
theorem dL_areTags_171 : decode cL_areTags 171 = .ok (.aload_n 0, 1) := by decide +kernel
theorem dL_areTags_172 : decode cL_areTags 172 = .ok (.iload 7, 2) := by decide +kernel
theorem dL_areTags_174 : decode cL_areTags 174 = .ok (.iconst 0, 1) := by decide +kernel
theorem dL_areTags_175 : decode cL_areTags 175 = .ok (.invokevirtual 118, 3) := by decide +kernel
theorem dL_areTags_178 : decode cL_areTags 178 = .ok (.iconst 1, 1) := by decide +kernel
theorem dL_areTags_179 : decode cL_areTags 179 = .ok (.if_icmp .ne 22, 3) := by decide +kernel
theorem dL_areTags_182 : decode cL_areTags 182 = .ok (.aload_n 0, 1) := by decide +kernel
theorem dL_areTags_183 : decode cL_areTags 183 = .ok (.iload 7, 2) := by decide +kernel
theorem dL_areTags_185 : decode cL_areTags 185 = .ok (.iconst 2, 1) := by decide +kernel
theorem dL_areTags_186 : decode cL_areTags 186 = .ok (.invokevirtual 118, 3) := by decide +kernel
theorem dL_areTags_189 : decode cL_areTags 189 = .ok (.iload 6, 2) := by decide +kernel
theorem dL_areTags_191 : decode cL_areTags 191 = .ok (.iconst (-1), 1) := by decide +kernel
theorem dL_areTags_192 : decode cL_areTags 192 = .ok (.ixor, 1) := by decide +kernel
theorem dL_areTags_193 : decode cL_areTags 193 = .ok (.iand, 1) := by decide +kernel
theorem dL_areTags_194 : decode cL_areTags 194 = .ok (.ifCond .ne 7, 3) := by decide +kernel
theorem dL_areTags_197 : decode cL_areTags 197 = .ok (.iconst 1, 1) := by decide +kernel
theorem dL_areTags_198 : decode cL_areTags 198 = .ok (.goto 4, 3) := by decide +kernel
theorem dL_areTags_201 : decode cL_areTags 201 = .ok (.iconst 0, 1) := by decide +kernel
theorem dL_areTags_202 : decode cL_areTags 202 = .ok (.istore_n 1, 1) := by decide +kernel
theorem dL_areTags_203 : decode cL_areTags 203 = .ok (.iinc 7 1, 3) := by decide +kernel
theorem dL_areTags_206 : decode cL_areTags 206 = .ok (.goto (-55), 3) := by decide +kernel
theorem dL_areTags_209 : decode cL_areTags 209 = .ok (.iinc 3 1, 3) := by decide +kernel
theorem dL_areTags_212 : decode cL_areTags 212 = .ok (.goto (-187), 3) := by decide +kernel
theorem dL_areTags_215 : decode cL_areTags 215 = .ok (.aload_n 0, 1) := by decide +kernel
theorem dL_areTags_216 : decode cL_areTags 216 = .ok (.invokevirtual 172, 3) := by decide +kernel
theorem dL_areTags_219 : decode cL_areTags 219 = .ok (.istore_n 3, 1) := by decide +kernel
theorem dL_areTags_220 : decode cL_areTags 220 = .ok (.iconst 0, 1) := by decide +kernel
theorem dL_areTags_221 : decode cL_areTags 221 = .ok (.istore 4, 2) := by decide +kernel
theorem dL_areTags_223 : decode cL_areTags 223 = .ok (.aload_n 0, 1) := by decide +kernel
theorem dL_areTags_224 : decode cL_areTags 224 = .ok (.bipush 20, 2) := by decide +kernel
theorem dL_areTags_226 : decode cL_areTags 226 = .ok (.iload 4, 2) := by decide +kernel
theorem dL_areTags_228 : decode cL_areTags 228 = .ok (.iconst 0, 1) := by decide +kernel
theorem dL_areTags_229 : decode cL_areTags 229 = .ok (.iconst 0, 1) := by decide +kernel
theorem dL_areTags_230 : decode cL_areTags 230 = .ok (.iconst 0, 1) := by decide +kernel
theorem dL_areTags_231 : decode cL_areTags 231 = .ok (.invokestatic 152, 3) := by decide +kernel
theorem dL_areTags_234 : decode cL_areTags 234 = .ok (.ifCond .lt 46, 3) := by decide +kernel
theorem dL_areTags_237 : decode cL_areTags 237 = .ok (.iload_n 1, 1) := by decide +kernel
theorem dL_areTags_238 : decode cL_areTags 238 = .ok (.ifCond .eq 42, 3) := by decide +kernel
theorem dL_areTags_241 : decode cL_areTags 241 = .ok (.iload_n 3, 1) := by decide +kernel
theorem dL_areTags_242 : decode cL_areTags 242 = .ok (.iload 4, 2) := by decide +kernel
theorem dL_areTags_244 : decode cL_areTags 244 = .ok (.ishr, 1) := by decide +kernel
theorem dL_areTags_245 : decode cL_areTags 245 = .ok (.iconst 1, 1) := by decide +kernel
theorem dL_areTags_246 : decode cL_areTags 246 = .ok (.iand, 1) := by decide +kernel
theorem dL_areTags_247 : decode cL_areTags 247 = .ok (.iconst 1, 1) := by decide +kernel
theorem dL_areTags_248 : decode cL_areTags 248 = .ok (.if_icmp .eq 20, 3) := by decide +kernel
theorem dL_areTags_251 : decode cL_areTags 251 = .ok (.aload_n 0, 1) := by decide +kernel
theorem dL_areTags_252 : decode cL_areTags 252 = .ok (.iload 4, 2) := by decide +kernel
theorem dL_areTags_254 : decode cL_areTags 254 = .ok (.iconst 0, 1) := by decide +kernel
theorem dL_areTags_255 : decode cL_areTags 255 = .ok (.invokevirtual 127, 3) := by decide +kernel
theorem dL_areTags_258 : decode cL_areTags 258 = .ok (.aload_n 0, 1) := by decide +kernel
theorem dL_areTags_259 : decode cL_areTags 259 = .ok (.iload 4, 2) := by decide +kernel
theorem dL_areTags_261 : decode cL_areTags 261 = .ok (.iconst 1, 1) := by decide +kernel
theorem dL_areTags_262 : decode cL_areTags 262 = .ok (.invokevirtual 127, 3) := by decide +kernel
theorem dL_areTags_265 : decode cL_areTags 265 = .ok (.if_icmp .ne 7, 3) := by decide +kernel
theorem dL_areTags_268 : decode cL_areTags 268 = .ok (.iconst 1, 1) := by decide +kernel
theorem dL_areTags_269 : decode cL_areTags 269 = .ok (.goto 4, 3) := by decide +kernel
theorem dL_areTags_272 : decode cL_areTags 272 = .ok (.iconst 0, 1) := by decide +kernel
theorem dL_areTags_273 : decode cL_areTags 273 = .ok (.istore_n 1, 1) := by decide +kernel
theorem dL_areTags_274 : decode cL_areTags 274 = .ok (.iinc 4 1, 3) := by decide +kernel
theorem dL_areTags_277 : decode cL_areTags 277 = .ok (.goto (-54), 3) := by decide +kernel
theorem dL_areTags_280 : decode cL_areTags 280 = .ok (.iload_n 1, 1) := by decide +kernel
theorem dL_areTags_281 : decode cL_areTags 281 = .ok (.ireturn, 1) := by decide +kernel
theorem dL_cell_0 : decode cL_cell 0 = .ok (.iload_n 1, 1) := by decide +kernel
theorem dL_cell_1 : decode cL_cell 1 = .ok (.aload_n 0, 1) := by decide +kernel
theorem dL_cell_2 : decode cL_cell 2 = .ok (.arraylength, 1) := by decide +kernel
theorem dL_cell_3 : decode cL_cell 3 = .ok (.if_icmp .ge 9, 3) := by decide +kernel
theorem dL_cell_6 : decode cL_cell 6 = .ok (.aload_n 0, 1) := by decide +kernel
theorem dL_cell_7 : decode cL_cell 7 = .ok (.iload_n 1, 1) := by decide +kernel
theorem dL_cell_8 : decode cL_cell 8 = .ok (.iaload, 1) := by decide +kernel
theorem dL_cell_9 : decode cL_cell 9 = .ok (.goto 18, 3) := by decide +kernel
theorem dL_cell_12 : decode cL_cell 12 = .ok (.sipush 7919, 3) := by decide +kernel
theorem dL_cell_15 : decode cL_cell 15 = .ok (.iload_n 1, 1) := by decide +kernel
theorem dL_cell_16 : decode cL_cell 16 = .ok (.sipush 1901, 3) := by decide +kernel
theorem dL_cell_19 : decode cL_cell 19 = .ok (.iadd, 1) := by decide +kernel
theorem dL_cell_20 : decode cL_cell 20 = .ok (.imul, 1) := by decide +kernel
theorem dL_cell_21 : decode cL_cell 21 = .ok (.iload_n 1, 1) := by decide +kernel
theorem dL_cell_22 : decode cL_cell 22 = .ok (.sipush 4447, 3) := by decide +kernel
theorem dL_cell_25 : decode cL_cell 25 = .ok (.iadd, 1) := by decide +kernel
theorem dL_cell_26 : decode cL_cell 26 = .ok (.imul, 1) := by decide +kernel
theorem dL_cell_27 : decode cL_cell 27 = .ok (.ireturn, 1) := by decide +kernel
theorem dX2_init_0 : decode cX2_init 0 = .ok (.aload_n 0, 1) := by decide +kernel
theorem dX2_init_1 : decode cX2_init 1 = .ok (.invokespecial 3, 3) := by decide +kernel
theorem dX2_init_4 : decode cX2_init 4 = .ok (.aload_n 0, 1) := by decide +kernel
theorem dX2_init_5 : decode cX2_init 5 = .ok (.bipush 8, 2) := by decide +kernel
theorem dX2_init_7 : decode cX2_init 7 = .ok (.anewarray 9, 3) := by decide +kernel
theorem dX2_init_10 : decode cX2_init 10 = .ok (.putfield 11, 3) := by decide +kernel
theorem dX2_init_13 : decode cX2_init 13 = .ok (.aload_n 0, 1) := by decide +kernel
theorem dX2_init_14 : decode cX2_init 14 = .ok (.bipush 8, 2) := by decide +kernel
theorem dX2_init_16 : decode cX2_init 16 = .ok (.newarray .int, 2) := by decide +kernel
theorem dX2_init_18 : decode cX2_init 18 = .ok (.putfield 17, 3) := by decide +kernel
theorem dX2_init_21 : decode cX2_init 21 = .ok (.aload_n 0, 1) := by decide +kernel
theorem dX2_init_22 : decode cX2_init 22 = .ok (.sipush 256, 3) := by decide +kernel
theorem dX2_init_25 : decode cX2_init 25 = .ok (.newarray .int, 2) := by decide +kernel
theorem dX2_init_27 : decode cX2_init 27 = .ok (.putfield 21, 3) := by decide +kernel
theorem dX2_init_30 : decode cX2_init 30 = .ok (.return_, 1) := by decide +kernel
theorem dJ7_fill_53178_0 : decode cJ7_fill_53178 0 = .ok (.iconst 0, 1) := by decide +kernel
theorem dJ7_fill_53178_1 : decode cJ7_fill_53178 1 = .ok (.istore_n 2, 1) := by decide +kernel
theorem dJ7_fill_53178_2 : decode cJ7_fill_53178 2 = .ok (.aload_n 0, 1) := by decide +kernel
theorem dJ7_fill_53178_3 : decode cJ7_fill_53178 3 = .ok (.arraylength, 1) := by decide +kernel
theorem dJ7_fill_53178_4 : decode cJ7_fill_53178 4 = .ok (.istore_n 3, 1) := by decide +kernel
theorem dJ7_fill_53178_5 : decode cJ7_fill_53178 5 = .ok (.iload_n 2, 1) := by decide +kernel
theorem dJ7_fill_53178_6 : decode cJ7_fill_53178 6 = .ok (.iload_n 3, 1) := by decide +kernel
theorem dJ7_fill_53178_7 : decode cJ7_fill_53178 7 = .ok (.if_icmp .ge 13, 3) := by decide +kernel
theorem dJ7_fill_53178_10 : decode cJ7_fill_53178 10 = .ok (.aload_n 0, 1) := by decide +kernel
theorem dJ7_fill_53178_11 : decode cJ7_fill_53178 11 = .ok (.iload_n 2, 1) := by decide +kernel
theorem dJ7_fill_53178_12 : decode cJ7_fill_53178 12 = .ok (.iload_n 1, 1) := by decide +kernel
theorem dJ7_fill_53178_13 : decode cJ7_fill_53178 13 = .ok (.iastore, 1) := by decide +kernel
theorem dJ7_fill_53178_14 : decode cJ7_fill_53178 14 = .ok (.iinc 2 1, 3) := by decide +kernel
theorem dJ7_fill_53178_17 : decode cJ7_fill_53178 17 = .ok (.goto (-12), 3) := by decide +kernel
theorem dJ7_fill_53178_20 : decode cJ7_fill_53178 20 = .ok (.return_, 1) := by decide +kernel
theorem dX3_init_0 : decode cX3_init 0 = .ok (.aload_n 0, 1) := by decide +kernel
theorem dX3_init_1 : decode cX3_init 1 = .ok (.invokespecial 3, 3) := by decide +kernel
theorem dX3_init_4 : decode cX3_init 4 = .ok (.aload_n 0, 1) := by decide +kernel
theorem dX3_init_5 : decode cX3_init 5 = .ok (.bipush 20, 2) := by decide +kernel
theorem dX3_init_7 : decode cX3_init 7 = .ok (.newarray .int, 2) := by decide +kernel
theorem dX3_init_9 : decode cX3_init 9 = .ok (.putfield 9, 3) := by decide +kernel
theorem dX3_init_12 : decode cX3_init 12 = .ok (.aload_n 0, 1) := by decide +kernel
theorem dX3_init_13 : decode cX3_init 13 = .ok (.bipush 12, 2) := by decide +kernel
theorem dX3_init_15 : decode cX3_init 15 = .ok (.newarray .int, 2) := by decide +kernel
theorem dX3_init_17 : decode cX3_init 17 = .ok (.putfield 15, 3) := by decide +kernel
theorem dX3_init_20 : decode cX3_init 20 = .ok (.aload_n 0, 1) := by decide +kernel
theorem dX3_init_21 : decode cX3_init 21 = .ok (.bipush 20, 2) := by decide +kernel
theorem dX3_init_23 : decode cX3_init 23 = .ok (.newarray .int, 2) := by decide +kernel
theorem dX3_init_25 : decode cX3_init 25 = .ok (.putfield 18, 3) := by decide +kernel
theorem dX3_init_28 : decode cX3_init 28 = .ok (.aload_n 0, 1) := by decide +kernel
theorem dX3_init_29 : decode cX3_init 29 = .ok (.getfield 9, 3) := by decide +kernel
theorem dX3_init_32 : decode cX3_init 32 = .ok (.sipush 2001, 3) := by decide +kernel
theorem dX3_init_35 : decode cX3_init 35 = .ok (.invokestatic 21, 3) := by decide +kernel
theorem dX3_init_38 : decode cX3_init 38 = .ok (.aload_n 0, 1) := by decide +kernel
theorem dX3_init_39 : decode cX3_init 39 = .ok (.getfield 15, 3) := by decide +kernel
theorem dX3_init_42 : decode cX3_init 42 = .ok (.sipush 2001, 3) := by decide +kernel
theorem dX3_init_45 : decode cX3_init 45 = .ok (.invokestatic 21, 3) := by decide +kernel
theorem dX3_init_48 : decode cX3_init 48 = .ok (.return_, 1) := by decide +kernel
theorem dX5_init_0 : decode cX5_init 0 = .ok (.aload_n 0, 1) := by decide +kernel
theorem dX5_init_1 : decode cX5_init 1 = .ok (.invokespecial 3, 3) := by decide +kernel
theorem dX5_init_4 : decode cX5_init 4 = .ok (.aload_n 0, 1) := by decide +kernel
theorem dX5_init_5 : decode cX5_init 5 = .ok (.bipush 61, 2) := by decide +kernel
theorem dX5_init_7 : decode cX5_init 7 = .ok (.newarray .int, 2) := by decide +kernel
theorem dX5_init_9 : decode cX5_init 9 = .ok (.putfield 9, 3) := by decide +kernel
theorem dX5_init_12 : decode cX5_init 12 = .ok (.aload_n 0, 1) := by decide +kernel
theorem dX5_init_13 : decode cX5_init 13 = .ok (.bipush 61, 2) := by decide +kernel
theorem dX5_init_15 : decode cX5_init 15 = .ok (.newarray .int, 2) := by decide +kernel
theorem dX5_init_17 : decode cX5_init 17 = .ok (.putfield 15, 3) := by decide +kernel
theorem dX5_init_20 : decode cX5_init 20 = .ok (.aload_n 0, 1) := by decide +kernel
theorem dX5_init_21 : decode cX5_init 21 = .ok (.bipush 61, 2) := by decide +kernel
theorem dX5_init_23 : decode cX5_init 23 = .ok (.newarray .boolean, 2) := by decide +kernel
theorem dX5_init_25 : decode cX5_init 25 = .ok (.putfield 18, 3) := by decide +kernel
theorem dX5_init_28 : decode cX5_init 28 = .ok (.return_, 1) := by decide +kernel
theorem dX7_init_0 : decode cX7_init 0 = .ok (.aload_n 0, 1) := by decide +kernel
theorem dX7_init_1 : decode cX7_init 1 = .ok (.invokespecial 3, 3) := by decide +kernel
theorem dX7_init_4 : decode cX7_init 4 = .ok (.aload_n 0, 1) := by decide +kernel
theorem dX7_init_5 : decode cX7_init 5 = .ok (.bipush 30, 2) := by decide +kernel
theorem dX7_init_7 : decode cX7_init 7 = .ok (.newarray .int, 2) := by decide +kernel
theorem dX7_init_9 : decode cX7_init 9 = .ok (.putfield 9, 3) := by decide +kernel
theorem dX7_init_12 : decode cX7_init 12 = .ok (.aload_n 0, 1) := by decide +kernel
theorem dX7_init_13 : decode cX7_init 13 = .ok (.bipush 30, 2) := by decide +kernel
theorem dX7_init_15 : decode cX7_init 15 = .ok (.newarray .int, 2) := by decide +kernel
theorem dX7_init_17 : decode cX7_init 17 = .ok (.putfield 15, 3) := by decide +kernel
theorem dX7_init_20 : decode cX7_init 20 = .ok (.aload_n 0, 1) := by decide +kernel
theorem dX7_init_21 : decode cX7_init 21 = .ok (.bipush 30, 2) := by decide +kernel
theorem dX7_init_23 : decode cX7_init 23 = .ok (.newarray .int, 2) := by decide +kernel
theorem dX7_init_25 : decode cX7_init 25 = .ok (.putfield 18, 3) := by decide +kernel
theorem dX7_init_28 : decode cX7_init 28 = .ok (.return_, 1) := by decide +kernel
theorem dX4_init_0 : decode cX4_init 0 = .ok (.aload_n 0, 1) := by decide +kernel
theorem dX4_init_1 : decode cX4_init 1 = .ok (.invokespecial 3, 3) := by decide +kernel
theorem dX4_init_4 : decode cX4_init 4 = .ok (.return_, 1) := by decide +kernel
theorem dX8_init_0 : decode cX8_init 0 = .ok (.aload_n 0, 1) := by decide +kernel
theorem dX8_init_1 : decode cX8_init 1 = .ok (.invokespecial 3, 3) := by decide +kernel
theorem dX8_init_4 : decode cX8_init 4 = .ok (.aload_n 0, 1) := by decide +kernel
theorem dX8_init_5 : decode cX8_init 5 = .ok (.bipush 60, 2) := by decide +kernel
theorem dX8_init_7 : decode cX8_init 7 = .ok (.newarray .char, 2) := by decide +kernel
theorem dX8_init_9 : decode cX8_init 9 = .ok (.putfield 9, 3) := by decide +kernel
theorem dX8_init_12 : decode cX8_init 12 = .ok (.aload_n 0, 1) := by decide +kernel
theorem dX8_init_13 : decode cX8_init 13 = .ok (.new 15, 3) := by decide +kernel
theorem dX8_init_16 : decode cX8_init 16 = .ok (.dup, 1) := by decide +kernel
theorem dX8_init_17 : decode cX8_init 17 = .ok (.invokespecial 17, 3) := by decide +kernel
theorem dX8_init_20 : decode cX8_init 20 = .ok (.putfield 18, 3) := by decide +kernel
theorem dX8_init_23 : decode cX8_init 23 = .ok (.return_, 1) := by decide +kernel
theorem dX10_init_0 : decode cX10_init 0 = .ok (.aload_n 0, 1) := by decide +kernel
theorem dX10_init_1 : decode cX10_init 1 = .ok (.invokespecial 3, 3) := by decide +kernel
theorem dX10_init_4 : decode cX10_init 4 = .ok (.aload_n 0, 1) := by decide +kernel
theorem dX10_init_5 : decode cX10_init 5 = .ok (.bipush 32, 2) := by decide +kernel
theorem dX10_init_7 : decode cX10_init 7 = .ok (.newarray .int, 2) := by decide +kernel
theorem dX10_init_9 : decode cX10_init 9 = .ok (.putfield 9, 3) := by decide +kernel
theorem dX10_init_12 : decode cX10_init 12 = .ok (.aload_n 0, 1) := by decide +kernel
theorem dX10_init_13 : decode cX10_init 13 = .ok (.bipush 12, 2) := by decide +kernel
theorem dX10_init_15 : decode cX10_init 15 = .ok (.anewarray 13, 3) := by decide +kernel
theorem dX10_init_18 : decode cX10_init 18 = .ok (.putfield 15, 3) := by decide +kernel
theorem dX10_init_21 : decode cX10_init 21 = .ok (.aload_n 0, 1) := by decide +kernel
theorem dX10_init_22 : decode cX10_init 22 = .ok (.bipush 20, 2) := by decide +kernel
theorem dX10_init_24 : decode cX10_init 24 = .ok (.anewarray 19, 3) := by decide +kernel
theorem dX10_init_27 : decode cX10_init 27 = .ok (.putfield 21, 3) := by decide +kernel
theorem dX10_init_30 : decode cX10_init 30 = .ok (.aload_n 0, 1) := by decide +kernel
theorem dX10_init_31 : decode cX10_init 31 = .ok (.bipush 6, 2) := by decide +kernel
theorem dX10_init_33 : decode cX10_init 33 = .ok (.anewarray 25, 3) := by decide +kernel
theorem dX10_init_36 : decode cX10_init 36 = .ok (.putfield 27, 3) := by decide +kernel
theorem dX10_init_39 : decode cX10_init 39 = .ok (.aload_n 0, 1) := by decide +kernel
theorem dX10_init_40 : decode cX10_init 40 = .ok (.new 31, 3) := by decide +kernel
theorem dX10_init_43 : decode cX10_init 43 = .ok (.dup, 1) := by decide +kernel
theorem dX10_init_44 : decode cX10_init 44 = .ok (.invokespecial 33, 3) := by decide +kernel
theorem dX10_init_47 : decode cX10_init 47 = .ok (.putfield 34, 3) := by decide +kernel
theorem dX10_init_50 : decode cX10_init 50 = .ok (.aload_n 0, 1) := by decide +kernel
theorem dX10_init_51 : decode cX10_init 51 = .ok (.new 38, 3) := by decide +kernel
theorem dX10_init_54 : decode cX10_init 54 = .ok (.dup, 1) := by decide +kernel
theorem dX10_init_55 : decode cX10_init 55 = .ok (.invokespecial 40, 3) := by decide +kernel
theorem dX10_init_58 : decode cX10_init 58 = .ok (.putfield 41, 3) := by decide +kernel
theorem dX10_init_61 : decode cX10_init 61 = .ok (.aload_n 0, 1) := by decide +kernel
theorem dX10_init_62 : decode cX10_init 62 = .ok (.new 45, 3) := by decide +kernel
theorem dX10_init_65 : decode cX10_init 65 = .ok (.dup, 1) := by decide +kernel
theorem dX10_init_66 : decode cX10_init 66 = .ok (.invokespecial 47, 3) := by decide +kernel
theorem dX10_init_69 : decode cX10_init 69 = .ok (.putfield 48, 3) := by decide +kernel
theorem dX10_init_72 : decode cX10_init 72 = .ok (.aload_n 0, 1) := by decide +kernel
theorem dX10_init_73 : decode cX10_init 73 = .ok (.new 52, 3) := by decide +kernel
theorem dX10_init_76 : decode cX10_init 76 = .ok (.dup, 1) := by decide +kernel
theorem dX10_init_77 : decode cX10_init 77 = .ok (.invokespecial 54, 3) := by decide +kernel
theorem dX10_init_80 : decode cX10_init 80 = .ok (.putfield 55, 3) := by decide +kernel
theorem dX10_init_83 : decode cX10_init 83 = .ok (.aload_n 0, 1) := by decide +kernel
theorem dX10_init_84 : decode cX10_init 84 = .ok (.bipush 60, 2) := by decide +kernel
theorem dX10_init_86 : decode cX10_init 86 = .ok (.anewarray 59, 3) := by decide +kernel
theorem dX10_init_89 : decode cX10_init 89 = .ok (.putfield 61, 3) := by decide +kernel
theorem dX10_init_92 : decode cX10_init 92 = .ok (.iconst 0, 1) := by decide +kernel
theorem dX10_init_93 : decode cX10_init 93 = .ok (.istore_n 1, 1) := by decide +kernel
theorem dX10_init_94 : decode cX10_init 94 = .ok (.iload_n 1, 1) := by decide +kernel
theorem dX10_init_95 : decode cX10_init 95 = .ok (.bipush 32, 2) := by decide +kernel
theorem dX10_init_97 : decode cX10_init 97 = .ok (.if_icmp .ge 18, 3) := by decide +kernel
theorem dX10_init_100 : decode cX10_init 100 = .ok (.aload_n 0, 1) := by decide +kernel
theorem dX10_init_101 : decode cX10_init 101 = .ok (.getfield 9, 3) := by decide +kernel
theorem dX10_init_104 : decode cX10_init 104 = .ok (.iload_n 1, 1) := by decide +kernel
theorem dX10_init_105 : decode cX10_init 105 = .ok (.iconst 1, 1) := by decide +kernel
theorem dX10_init_106 : decode cX10_init 106 = .ok (.iload_n 1, 1) := by decide +kernel
theorem dX10_init_107 : decode cX10_init 107 = .ok (.ishl, 1) := by decide +kernel
theorem dX10_init_108 : decode cX10_init 108 = .ok (.iastore, 1) := by decide +kernel
theorem dX10_init_109 : decode cX10_init 109 = .ok (.iinc 1 1, 3) := by decide +kernel
theorem dX10_init_112 : decode cX10_init 112 = .ok (.goto (-18), 3) := by decide +kernel
theorem dX10_init_115 : decode cX10_init 115 = .ok (.iconst 0, 1) := by decide +kernel
theorem dX10_init_116 : decode cX10_init 116 = .ok (.istore_n 1, 1) := by decide +kernel
theorem dX10_init_117 : decode cX10_init 117 = .ok (.iload_n 1, 1) := by decide +kernel
theorem dX10_init_118 : decode cX10_init 118 = .ok (.bipush 12, 2) := by decide +kernel
theorem dX10_init_120 : decode cX10_init 120 = .ok (.if_icmp .ge 22, 3) := by decide +kernel
theorem dX10_init_123 : decode cX10_init 123 = .ok (.aload_n 0, 1) := by decide +kernel
theorem dX10_init_124 : decode cX10_init 124 = .ok (.getfield 15, 3) := by decide +kernel
theorem dX10_init_127 : decode cX10_init 127 = .ok (.iload_n 1, 1) := by decide +kernel
theorem dX10_init_128 : decode cX10_init 128 = .ok (.new 13, 3) := by decide +kernel
theorem dX10_init_131 : decode cX10_init 131 = .ok (.dup, 1) := by decide +kernel
theorem dX10_init_132 : decode cX10_init 132 = .ok (.invokespecial 65, 3) := by decide +kernel
theorem dX10_init_135 : decode cX10_init 135 = .ok (.aastore, 1) := by decide +kernel
theorem dX10_init_136 : decode cX10_init 136 = .ok (.iinc 1 1, 3) := by decide +kernel
theorem dX10_init_139 : decode cX10_init 139 = .ok (.goto (-22), 3) := by decide +kernel
theorem dX10_init_142 : decode cX10_init 142 = .ok (.return_, 1) := by decide +kernel
