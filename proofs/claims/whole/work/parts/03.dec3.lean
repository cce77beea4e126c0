theorem d_M_join_89 : decode b_M_join 89 = .ok (.getfield 16, 3) := by decide +kernel
theorem d_M_join_92 : decode b_M_join 92 = .ok (.iload_n 1, 1) := by decide +kernel
theorem d_M_join_93 : decode b_M_join 93 = .ok (.iaload, 1) := by decide +kernel
theorem d_M_join_94 : decode b_M_join 94 = .ok (.aload_n 0, 1) := by decide +kernel
theorem d_M_join_95 : decode b_M_join 95 = .ok (.getfield 16, 3) := by decide +kernel
theorem d_M_join_98 : decode b_M_join 98 = .ok (.iload_n 2, 1) := by decide +kernel
theorem d_M_join_99 : decode b_M_join 99 = .ok (.iaload, 1) := by decide +kernel
theorem d_M_join_100 : decode b_M_join 100 = .ok (.iadd, 1) := by decide +kernel
theorem d_M_join_101 : decode b_M_join 101 = .ok (.bipush 100, 2) := by decide +kernel
theorem d_M_join_103 : decode b_M_join 103 = .ok (.if_icmp .le 7, 3) := by decide +kernel
theorem d_M_join_106 : decode b_M_join 106 = .ok (.iconst 2, 1) := by decide +kernel
theorem d_M_join_107 : decode b_M_join 107 = .ok (.goto 4, 3) := by decide +kernel
theorem d_M_join_110 : decode b_M_join 110 = .ok (.iconst 0, 1) := by decide +kernel
theorem d_M_join_111 : decode b_M_join 111 = .ok (.invokevirtual 50, 3) := by decide +kernel
theorem d_M_join_114 : decode b_M_join 114 = .ok (.ifCond .eq 5, 3) := by decide +kernel
theorem d_M_join_117 : decode b_M_join 117 = .ok (.iconst 0, 1) := by decide +kernel
theorem d_M_join_118 : decode b_M_join 118 = .ok (.ireturn, 1) := by decide +kernel
theorem d_M_join_119 : decode b_M_join 119 = .ok (.aload_n 0, 1) := by decide +kernel
theorem d_M_join_120 : decode b_M_join 120 = .ok (.aload_n 0, 1) := by decide +kernel
theorem d_M_join_121 : decode b_M_join 121 = .ok (.getfield 7, 3) := by decide +kernel
theorem d_M_join_124 : decode b_M_join 124 = .ok (.iload_n 1, 1) := by decide +kernel
theorem d_M_join_125 : decode b_M_join 125 = .ok (.iaload, 1) := by decide +kernel
theorem d_M_join_126 : decode b_M_join 126 = .ok (.aload_n 0, 1) := by decide +kernel
theorem d_M_join_127 : decode b_M_join 127 = .ok (.getfield 13, 3) := by decide +kernel
theorem d_M_join_130 : decode b_M_join 130 = .ok (.iload_n 1, 1) := by decide +kernel
theorem d_M_join_131 : decode b_M_join 131 = .ok (.iaload, 1) := by decide +kernel
theorem d_M_join_132 : decode b_M_join 132 = .ok (.invokevirtual 53, 3) := by decide +kernel
theorem d_M_join_135 : decode b_M_join 135 = .ok (.istore 4, 2) := by decide +kernel
theorem d_M_join_137 : decode b_M_join 137 = .ok (.aload_n 0, 1) := by decide +kernel
theorem d_M_join_138 : decode b_M_join 138 = .ok (.getfield 7, 3) := by decide +kernel
theorem d_M_join_141 : decode b_M_join 141 = .ok (.iload_n 1, 1) := by decide +kernel
theorem d_M_join_142 : decode b_M_join 142 = .ok (.iaload, 1) := by decide +kernel
theorem d_M_join_143 : decode b_M_join 143 = .ok (.iconst 4, 1) := by decide +kernel
theorem d_M_join_144 : decode b_M_join 144 = .ok (.if_icmp .ne 30, 3) := by decide +kernel
theorem d_M_join_147 : decode b_M_join 147 = .ok (.aload_n 0, 1) := by decide +kernel
theorem d_M_join_148 : decode b_M_join 148 = .ok (.iload_n 1, 1) := by decide +kernel
theorem d_M_join_149 : decode b_M_join 149 = .ok (.iconst 0, 1) := by decide +kernel
theorem d_M_join_150 : decode b_M_join 150 = .ok (.aload_n 0, 1) := by decide +kernel
theorem d_M_join_151 : decode b_M_join 151 = .ok (.getfield 16, 3) := by decide +kernel
theorem d_M_join_154 : decode b_M_join 154 = .ok (.iload_n 1, 1) := by decide +kernel
theorem d_M_join_155 : decode b_M_join 155 = .ok (.iaload, 1) := by decide +kernel
theorem d_M_join_156 : decode b_M_join 156 = .ok (.invokevirtual 63, 3) := by decide +kernel
theorem d_M_join_159 : decode b_M_join 159 = .ok (.aload_n 0, 1) := by decide +kernel
theorem d_M_join_160 : decode b_M_join 160 = .ok (.iload_n 2, 1) := by decide +kernel
theorem d_M_join_161 : decode b_M_join 161 = .ok (.iconst 0, 1) := by decide +kernel
theorem d_M_join_162 : decode b_M_join 162 = .ok (.aload_n 0, 1) := by decide +kernel
theorem d_M_join_163 : decode b_M_join 163 = .ok (.getfield 16, 3) := by decide +kernel
theorem d_M_join_166 : decode b_M_join 166 = .ok (.iload_n 2, 1) := by decide +kernel
theorem d_M_join_167 : decode b_M_join 167 = .ok (.iaload, 1) := by decide +kernel
theorem d_M_join_168 : decode b_M_join 168 = .ok (.invokevirtual 63, 3) := by decide +kernel
theorem d_M_join_171 : decode b_M_join 171 = .ok (.iload 4, 2) := by decide +kernel
theorem d_M_join_173 : decode b_M_join 173 = .ok (.ireturn, 1) := by decide +kernel
theorem d_M_join_174 : decode b_M_join 174 = .ok (.iconst 0, 1) := by decide +kernel
theorem d_M_join_175 : decode b_M_join 175 = .ok (.istore 5, 2) := by decide +kernel
theorem d_M_join_177 : decode b_M_join 177 = .ok (.iconst 0, 1) := by decide +kernel
theorem d_M_join_178 : decode b_M_join 178 = .ok (.istore 6, 2) := by decide +kernel
theorem d_M_join_180 : decode b_M_join 180 = .ok (.iload 5, 2) := by decide +kernel
theorem d_M_join_182 : decode b_M_join 182 = .ok (.aload_n 0, 1) := by decide +kernel
theorem d_M_join_183 : decode b_M_join 183 = .ok (.getfield 16, 3) := by decide +kernel
theorem d_M_join_186 : decode b_M_join 186 = .ok (.iload_n 1, 1) := by decide +kernel
theorem d_M_join_187 : decode b_M_join 187 = .ok (.iaload, 1) := by decide +kernel
theorem d_M_join_188 : decode b_M_join 188 = .ok (.if_icmp .lt 14, 3) := by decide +kernel
theorem d_M_join_191 : decode b_M_join 191 = .ok (.iload 6, 2) := by decide +kernel
theorem d_M_join_193 : decode b_M_join 193 = .ok (.aload_n 0, 1) := by decide +kernel
theorem d_M_join_194 : decode b_M_join 194 = .ok (.getfield 16, 3) := by decide +kernel
theorem d_M_join_197 : decode b_M_join 197 = .ok (.iload_n 2, 1) := by decide +kernel
theorem d_M_join_198 : decode b_M_join 198 = .ok (.iaload, 1) := by decide +kernel
theorem d_M_join_199 : decode b_M_join 199 = .ok (.if_icmp .ge 131, 3) := by decide +kernel
theorem d_M_join_202 : decode b_M_join 202 = .ok (.iload 6, 2) := by decide +kernel
theorem d_M_join_204 : decode b_M_join 204 = .ok (.aload_n 0, 1) := by decide +kernel
theorem d_M_join_205 : decode b_M_join 205 = .ok (.getfield 16, 3) := by decide +kernel
theorem d_M_join_208 : decode b_M_join 208 = .ok (.iload_n 2, 1) := by decide +kernel
theorem d_M_join_209 : decode b_M_join 209 = .ok (.iaload, 1) := by decide +kernel
theorem d_M_join_210 : decode b_M_join 210 = .ok (.if_icmp .eq 41, 3) := by decide +kernel
theorem d_M_join_213 : decode b_M_join 213 = .ok (.iload 5, 2) := by decide +kernel
theorem d_M_join_215 : decode b_M_join 215 = .ok (.aload_n 0, 1) := by decide +kernel
theorem d_M_join_216 : decode b_M_join 216 = .ok (.getfield 16, 3) := by decide +kernel
theorem d_M_join_219 : decode b_M_join 219 = .ok (.iload_n 1, 1) := by decide +kernel
theorem d_M_join_220 : decode b_M_join 220 = .ok (.iaload, 1) := by decide +kernel
theorem d_M_join_221 : decode b_M_join 221 = .ok (.if_icmp .ge 34, 3) := by decide +kernel
theorem d_M_join_224 : decode b_M_join 224 = .ok (.aload_n 0, 1) := by decide +kernel
theorem d_M_join_225 : decode b_M_join 225 = .ok (.getfield 19, 3) := by decide +kernel
theorem d_M_join_228 : decode b_M_join 228 = .ok (.bipush 100, 2) := by decide +kernel
theorem d_M_join_230 : decode b_M_join 230 = .ok (.iload_n 1, 1) := by decide +kernel
theorem d_M_join_231 : decode b_M_join 231 = .ok (.imul, 1) := by decide +kernel
theorem d_M_join_232 : decode b_M_join 232 = .ok (.iload 5, 2) := by decide +kernel
theorem d_M_join_234 : decode b_M_join 234 = .ok (.iadd, 1) := by decide +kernel
theorem d_M_join_235 : decode b_M_join 235 = .ok (.iaload, 1) := by decide +kernel
theorem d_M_join_236 : decode b_M_join 236 = .ok (.aload_n 0, 1) := by decide +kernel
theorem d_M_join_237 : decode b_M_join 237 = .ok (.getfield 19, 3) := by decide +kernel
theorem d_M_join_240 : decode b_M_join 240 = .ok (.bipush 100, 2) := by decide +kernel
theorem d_M_join_242 : decode b_M_join 242 = .ok (.iload_n 2, 1) := by decide +kernel
theorem d_M_join_243 : decode b_M_join 243 = .ok (.imul, 1) := by decide +kernel
theorem d_M_join_244 : decode b_M_join 244 = .ok (.iload 6, 2) := by decide +kernel
theorem d_M_join_246 : decode b_M_join 246 = .ok (.iadd, 1) := by decide +kernel
theorem d_M_join_247 : decode b_M_join 247 = .ok (.iaload, 1) := by decide +kernel
theorem d_M_join_248 : decode b_M_join 248 = .ok (.if_icmp .gt 7, 3) := by decide +kernel
theorem d_M_join_251 : decode b_M_join 251 = .ok (.iconst 1, 1) := by decide +kernel
theorem d_M_join_252 : decode b_M_join 252 = .ok (.goto 4, 3) := by decide +kernel
theorem d_M_join_255 : decode b_M_join 255 = .ok (.iconst 0, 1) := by decide +kernel
theorem d_M_join_256 : decode b_M_join 256 = .ok (.istore 7, 2) := by decide +kernel
theorem d_M_join_258 : decode b_M_join 258 = .ok (.aload_n 0, 1) := by decide +kernel
theorem d_M_join_259 : decode b_M_join 259 = .ok (.iconst 0, 1) := by decide +kernel
theorem d_M_join_260 : decode b_M_join 260 = .ok (.iload 7, 2) := by decide +kernel
theorem d_M_join_262 : decode b_M_join 262 = .ok (.ifCond .eq 18, 3) := by decide +kernel
theorem d_M_join_265 : decode b_M_join 265 = .ok (.aload_n 0, 1) := by decide +kernel
theorem d_M_join_266 : decode b_M_join 266 = .ok (.getfield 19, 3) := by decide +kernel
theorem d_M_join_269 : decode b_M_join 269 = .ok (.bipush 100, 2) := by decide +kernel
theorem d_M_join_271 : decode b_M_join 271 = .ok (.iload_n 1, 1) := by decide +kernel
theorem d_M_join_272 : decode b_M_join 272 = .ok (.imul, 1) := by decide +kernel
theorem d_M_join_273 : decode b_M_join 273 = .ok (.iload 5, 2) := by decide +kernel
theorem d_M_join_275 : decode b_M_join 275 = .ok (.iadd, 1) := by decide +kernel
theorem d_M_join_276 : decode b_M_join 276 = .ok (.iaload, 1) := by decide +kernel
theorem d_M_join_277 : decode b_M_join 277 = .ok (.goto 15, 3) := by decide +kernel
theorem d_M_join_280 : decode b_M_join 280 = .ok (.aload_n 0, 1) := by decide +kernel
theorem d_M_join_281 : decode b_M_join 281 = .ok (.getfield 19, 3) := by decide +kernel
theorem d_M_join_284 : decode b_M_join 284 = .ok (.bipush 100, 2) := by decide +kernel
theorem d_M_join_286 : decode b_M_join 286 = .ok (.iload_n 2, 1) := by decide +kernel
theorem d_M_join_287 : decode b_M_join 287 = .ok (.imul, 1) := by decide +kernel
theorem d_M_join_288 : decode b_M_join 288 = .ok (.iload 6, 2) := by decide +kernel
theorem d_M_join_290 : decode b_M_join 290 = .ok (.iadd, 1) := by decide +kernel
theorem d_M_join_291 : decode b_M_join 291 = .ok (.iaload, 1) := by decide +kernel
theorem d_M_join_292 : decode b_M_join 292 = .ok (.invokevirtual 42, 3) := by decide +kernel
theorem d_M_join_295 : decode b_M_join 295 = .ok (.iload 7, 2) := by decide +kernel
theorem d_M_join_297 : decode b_M_join 297 = .ok (.ifCond .eq 10, 3) := by decide +kernel
theorem d_M_join_300 : decode b_M_join 300 = .ok (.iload 5, 2) := by decide +kernel
theorem d_M_join_302 : decode b_M_join 302 = .ok (.iconst 1, 1) := by decide +kernel
theorem d_M_join_303 : decode b_M_join 303 = .ok (.iadd, 1) := by decide +kernel
theorem d_M_join_304 : decode b_M_join 304 = .ok (.goto 5, 3) := by decide +kernel
theorem d_M_join_307 : decode b_M_join 307 = .ok (.iload 5, 2) := by decide +kernel
theorem d_M_join_309 : decode b_M_join 309 = .ok (.istore 5, 2) := by decide +kernel
theorem d_M_join_311 : decode b_M_join 311 = .ok (.iload 7, 2) := by decide +kernel
theorem d_M_join_313 : decode b_M_join 313 = .ok (.ifCond .eq 8, 3) := by decide +kernel
theorem d_M_join_316 : decode b_M_join 316 = .ok (.iload 6, 2) := by decide +kernel
theorem d_M_join_318 : decode b_M_join 318 = .ok (.goto 7, 3) := by decide +kernel
theorem d_M_join_321 : decode b_M_join 321 = .ok (.iload 6, 2) := by decide +kernel
theorem d_M_join_323 : decode b_M_join 323 = .ok (.iconst 1, 1) := by decide +kernel
theorem d_M_join_324 : decode b_M_join 324 = .ok (.iadd, 1) := by decide +kernel
theorem d_M_join_325 : decode b_M_join 325 = .ok (.istore 6, 2) := by decide +kernel
theorem d_M_join_327 : decode b_M_join 327 = .ok (.goto (-147), 3) := by decide +kernel
theorem d_M_join_330 : decode b_M_join 330 = .ok (.iload 4, 2) := by decide +kernel
theorem d_M_join_332 : decode b_M_join 332 = .ok (.ireturn, 1) := by decide +kernel
theorem d_M_bind_0 : decode b_M_bind 0 = .ok (.aload_n 0, 1) := by decide +kernel
theorem d_M_bind_1 : decode b_M_bind 1 = .ok (.iload_n 1, 1) := by decide +kernel
theorem d_M_bind_2 : decode b_M_bind 2 = .ok (.invokevirtual 35, 3) := by decide +kernel
theorem d_M_bind_5 : decode b_M_bind 5 = .ok (.ifCond .eq 26, 3) := by decide +kernel
theorem d_M_bind_8 : decode b_M_bind 8 = .ok (.aload_n 0, 1) := by decide +kernel
theorem d_M_bind_9 : decode b_M_bind 9 = .ok (.iload_n 1, 1) := by decide +kernel
theorem d_M_bind_10 : decode b_M_bind 10 = .ok (.invokevirtual 39, 3) := by decide +kernel
theorem d_M_bind_13 : decode b_M_bind 13 = .ok (.ifCond .eq 18, 3) := by decide +kernel
theorem d_M_bind_16 : decode b_M_bind 16 = .ok (.iload_n 2, 1) := by decide +kernel
theorem d_M_bind_17 : decode b_M_bind 17 = .ok (.ifCond .lt 14, 3) := by decide +kernel
theorem d_M_bind_20 : decode b_M_bind 20 = .ok (.iload_n 2, 1) := by decide +kernel
theorem d_M_bind_21 : decode b_M_bind 21 = .ok (.sipush 255, 3) := by decide +kernel
theorem d_M_bind_24 : decode b_M_bind 24 = .ok (.if_icmp .gt 7, 3) := by decide +kernel
theorem d_M_bind_27 : decode b_M_bind 27 = .ok (.iconst 1, 1) := by decide +kernel
theorem d_M_bind_28 : decode b_M_bind 28 = .ok (.goto 4, 3) := by decide +kernel
theorem d_M_bind_31 : decode b_M_bind 31 = .ok (.iconst 0, 1) := by decide +kernel
theorem d_M_bind_32 : decode b_M_bind 32 = .ok (.istore 4, 2) := by decide +kernel
theorem d_M_bind_34 : decode b_M_bind 34 = .ok (.iload 4, 2) := by decide +kernel
theorem d_M_bind_36 : decode b_M_bind 36 = .ok (.ifCond .eq 12, 3) := by decide +kernel
theorem d_M_bind_39 : decode b_M_bind 39 = .ok (.aload_n 0, 1) := by decide +kernel
theorem d_M_bind_40 : decode b_M_bind 40 = .ok (.iload_n 1, 1) := by decide +kernel
theorem d_M_bind_41 : decode b_M_bind 41 = .ok (.iload_n 2, 1) := by decide +kernel
theorem d_M_bind_42 : decode b_M_bind 42 = .ok (.invokevirtual 67, 3) := by decide +kernel
theorem d_M_bind_45 : decode b_M_bind 45 = .ok (.goto 4, 3) := by decide +kernel
theorem d_M_bind_48 : decode b_M_bind 48 = .ok (.iconst 0, 1) := by decide +kernel
theorem d_M_bind_49 : decode b_M_bind 49 = .ok (.istore 5, 2) := by decide +kernel
theorem d_M_bind_51 : decode b_M_bind 51 = .ok (.iload 4, 2) := by decide +kernel
theorem d_M_bind_53 : decode b_M_bind 53 = .ok (.ifCond .eq 18, 3) := by decide +kernel
theorem d_M_bind_56 : decode b_M_bind 56 = .ok (.aload_n 0, 1) := by decide +kernel
theorem d_M_bind_57 : decode b_M_bind 57 = .ok (.iload_n 1, 1) := by decide +kernel
theorem d_M_bind_58 : decode b_M_bind 58 = .ok (.iload 5, 2) := by decide +kernel
theorem d_M_bind_60 : decode b_M_bind 60 = .ok (.iload_n 2, 1) := by decide +kernel
theorem d_M_bind_61 : decode b_M_bind 61 = .ok (.invokevirtual 70, 3) := by decide +kernel
theorem d_M_bind_64 : decode b_M_bind 64 = .ok (.ifCond .eq 7, 3) := by decide +kernel
theorem d_M_bind_67 : decode b_M_bind 67 = .ok (.iconst 1, 1) := by decide +kernel
theorem d_M_bind_68 : decode b_M_bind 68 = .ok (.goto 4, 3) := by decide +kernel
theorem d_M_bind_71 : decode b_M_bind 71 = .ok (.iconst 0, 1) := by decide +kernel
theorem d_M_bind_72 : decode b_M_bind 72 = .ok (.istore 6, 2) := by decide +kernel
theorem d_M_bind_74 : decode b_M_bind 74 = .ok (.aload_n 0, 1) := by decide +kernel
theorem d_M_bind_75 : decode b_M_bind 75 = .ok (.iload 4, 2) := by decide +kernel
theorem d_M_bind_77 : decode b_M_bind 77 = .ok (.ifCond .ne 7, 3) := by decide +kernel
theorem d_M_bind_80 : decode b_M_bind 80 = .ok (.iconst 1, 1) := by decide +kernel
theorem d_M_bind_81 : decode b_M_bind 81 = .ok (.goto 31, 3) := by decide +kernel
theorem d_M_bind_84 : decode b_M_bind 84 = .ok (.aload_n 0, 1) := by decide +kernel
theorem d_M_bind_85 : decode b_M_bind 85 = .ok (.invokevirtual 46, 3) := by decide +kernel
theorem d_M_bind_88 : decode b_M_bind 88 = .ok (.ifCond .ne 19, 3) := by decide +kernel
theorem d_M_bind_91 : decode b_M_bind 91 = .ok (.iload 6, 2) := by decide +kernel
theorem d_M_bind_93 : decode b_M_bind 93 = .ok (.ifCond .ne 18, 3) := by decide +kernel
theorem d_M_bind_96 : decode b_M_bind 96 = .ok (.aload_n 0, 1) := by decide +kernel
theorem d_M_bind_97 : decode b_M_bind 97 = .ok (.getfield 16, 3) := by decide +kernel
theorem d_M_bind_100 : decode b_M_bind 100 = .ok (.iload_n 1, 1) := by decide +kernel
theorem d_M_bind_101 : decode b_M_bind 101 = .ok (.iaload, 1) := by decide +kernel
theorem d_M_bind_102 : decode b_M_bind 102 = .ok (.bipush 100, 2) := by decide +kernel
theorem d_M_bind_104 : decode b_M_bind 104 = .ok (.if_icmp .lt 7, 3) := by decide +kernel
theorem d_M_bind_107 : decode b_M_bind 107 = .ok (.iconst 2, 1) := by decide +kernel
theorem d_M_bind_108 : decode b_M_bind 108 = .ok (.goto 4, 3) := by decide +kernel
theorem d_M_bind_111 : decode b_M_bind 111 = .ok (.iconst 0, 1) := by decide +kernel
theorem d_M_bind_112 : decode b_M_bind 112 = .ok (.invokevirtual 50, 3) := by decide +kernel
theorem d_M_bind_115 : decode b_M_bind 115 = .ok (.ifCond .eq 5, 3) := by decide +kernel
theorem d_M_bind_118 : decode b_M_bind 118 = .ok (.iconst 0, 1) := by decide +kernel
theorem d_M_bind_119 : decode b_M_bind 119 = .ok (.ireturn, 1) := by decide +kernel
theorem d_M_bind_120 : decode b_M_bind 120 = .ok (.aload_n 0, 1) := by decide +kernel
theorem d_M_bind_121 : decode b_M_bind 121 = .ok (.iconst 3, 1) := by decide +kernel
theorem d_M_bind_122 : decode b_M_bind 122 = .ok (.aload_n 0, 1) := by decide +kernel
theorem d_M_bind_123 : decode b_M_bind 123 = .ok (.getfield 13, 3) := by decide +kernel
theorem d_M_bind_126 : decode b_M_bind 126 = .ok (.iload_n 1, 1) := by decide +kernel
theorem d_M_bind_127 : decode b_M_bind 127 = .ok (.iaload, 1) := by decide +kernel
theorem d_M_bind_128 : decode b_M_bind 128 = .ok (.invokevirtual 53, 3) := by decide +kernel
theorem d_M_bind_131 : decode b_M_bind 131 = .ok (.istore 7, 2) := by decide +kernel
theorem d_M_bind_133 : decode b_M_bind 133 = .ok (.aload_n 0, 1) := by decide +kernel
theorem d_M_bind_134 : decode b_M_bind 134 = .ok (.iload_n 1, 1) := by decide +kernel
theorem d_M_bind_135 : decode b_M_bind 135 = .ok (.iconst 0, 1) := by decide +kernel
theorem d_M_bind_136 : decode b_M_bind 136 = .ok (.iload 5, 2) := by decide +kernel
theorem d_M_bind_138 : decode b_M_bind 138 = .ok (.invokevirtual 63, 3) := by decide +kernel
theorem d_M_bind_141 : decode b_M_bind 141 = .ok (.aload_n 0, 1) := by decide +kernel
theorem d_M_bind_142 : decode b_M_bind 142 = .ok (.iload_n 2, 1) := by decide +kernel
theorem d_M_bind_143 : decode b_M_bind 143 = .ok (.iload_n 3, 1) := by decide +kernel
theorem d_M_bind_144 : decode b_M_bind 144 = .ok (.invokevirtual 42, 3) := by decide +kernel
theorem d_M_bind_147 : decode b_M_bind 147 = .ok (.aload_n 0, 1) := by decide +kernel
theorem d_M_bind_148 : decode b_M_bind 148 = .ok (.iload_n 1, 1) := by decide +kernel
theorem d_M_bind_149 : decode b_M_bind 149 = .ok (.iload 6, 2) := by decide +kernel
theorem d_M_bind_151 : decode b_M_bind 151 = .ok (.ifCond .eq 10, 3) := by decide +kernel
theorem d_M_bind_154 : decode b_M_bind 154 = .ok (.iload 5, 2) := by decide +kernel
theorem d_M_bind_156 : decode b_M_bind 156 = .ok (.iconst 1, 1) := by decide +kernel
theorem d_M_bind_157 : decode b_M_bind 157 = .ok (.iadd, 1) := by decide +kernel
theorem d_M_bind_158 : decode b_M_bind 158 = .ok (.goto 5, 3) := by decide +kernel
theorem d_M_bind_161 : decode b_M_bind 161 = .ok (.iload 5, 2) := by decide +kernel
theorem d_M_bind_163 : decode b_M_bind 163 = .ok (.aload_n 0, 1) := by decide +kernel
theorem d_M_bind_164 : decode b_M_bind 164 = .ok (.getfield 16, 3) := by decide +kernel
theorem d_M_bind_167 : decode b_M_bind 167 = .ok (.iload_n 1, 1) := by decide +kernel
theorem d_M_bind_168 : decode b_M_bind 168 = .ok (.iaload, 1) := by decide +kernel
theorem d_M_bind_169 : decode b_M_bind 169 = .ok (.invokevirtual 63, 3) := by decide +kernel
theorem d_M_bind_172 : decode b_M_bind 172 = .ok (.iload 7, 2) := by decide +kernel
theorem d_M_bind_174 : decode b_M_bind 174 = .ok (.ireturn, 1) := by decide +kernel
theorem d_M_placeOf_0 : decode b_M_placeOf 0 = .ok (.iconst 0, 1) := by decide +kernel
theorem d_M_placeOf_1 : decode b_M_placeOf 1 = .ok (.istore_n 3, 1) := by decide +kernel
theorem d_M_placeOf_2 : decode b_M_placeOf 2 = .ok (.iload_n 3, 1) := by decide +kernel
theorem d_M_placeOf_3 : decode b_M_placeOf 3 = .ok (.aload_n 0, 1) := by decide +kernel
theorem d_M_placeOf_4 : decode b_M_placeOf 4 = .ok (.getfield 16, 3) := by decide +kernel
theorem d_M_placeOf_7 : decode b_M_placeOf 7 = .ok (.iload_n 1, 1) := by decide +kernel
theorem d_M_placeOf_8 : decode b_M_placeOf 8 = .ok (.iaload, 1) := by decide +kernel
theorem d_M_placeOf_9 : decode b_M_placeOf 9 = .ok (.if_icmp .ge 25, 3) := by decide +kernel
theorem d_M_placeOf_12 : decode b_M_placeOf 12 = .ok (.aload_n 0, 1) := by decide +kernel
theorem d_M_placeOf_13 : decode b_M_placeOf 13 = .ok (.getfield 22, 3) := by decide +kernel
theorem d_M_placeOf_16 : decode b_M_placeOf 16 = .ok (.bipush 100, 2) := by decide +kernel
theorem d_M_placeOf_18 : decode b_M_placeOf 18 = .ok (.iload_n 1, 1) := by decide +kernel
theorem d_M_placeOf_19 : decode b_M_placeOf 19 = .ok (.imul, 1) := by decide +kernel
theorem d_M_placeOf_20 : decode b_M_placeOf 20 = .ok (.iload_n 3, 1) := by decide +kernel
theorem d_M_placeOf_21 : decode b_M_placeOf 21 = .ok (.iadd, 1) := by decide +kernel
theorem d_M_placeOf_22 : decode b_M_placeOf 22 = .ok (.iaload, 1) := by decide +kernel
theorem d_M_placeOf_23 : decode b_M_placeOf 23 = .ok (.iload_n 2, 1) := by decide +kernel
theorem d_M_placeOf_24 : decode b_M_placeOf 24 = .ok (.if_icmp .ge 10, 3) := by decide +kernel
theorem d_M_placeOf_27 : decode b_M_placeOf 27 = .ok (.iload_n 3, 1) := by decide +kernel
theorem d_M_placeOf_28 : decode b_M_placeOf 28 = .ok (.iconst 1, 1) := by decide +kernel
theorem d_M_placeOf_29 : decode b_M_placeOf 29 = .ok (.iadd, 1) := by decide +kernel
theorem d_M_placeOf_30 : decode b_M_placeOf 30 = .ok (.istore_n 3, 1) := by decide +kernel
theorem d_M_placeOf_31 : decode b_M_placeOf 31 = .ok (.goto (-29), 3) := by decide +kernel
theorem d_M_placeOf_34 : decode b_M_placeOf 34 = .ok (.iload_n 3, 1) := by decide +kernel
theorem d_M_placeOf_35 : decode b_M_placeOf 35 = .ok (.ireturn, 1) := by decide +kernel
theorem d_M_hasAt_0 : decode b_M_hasAt 0 = .ok (.iload_n 2, 1) := by decide +kernel
theorem d_M_hasAt_1 : decode b_M_hasAt 1 = .ok (.aload_n 0, 1) := by decide +kernel
theorem d_M_hasAt_2 : decode b_M_hasAt 2 = .ok (.getfield 16, 3) := by decide +kernel
theorem d_M_hasAt_5 : decode b_M_hasAt 5 = .ok (.iload_n 1, 1) := by decide +kernel
theorem d_M_hasAt_6 : decode b_M_hasAt 6 = .ok (.iaload, 1) := by decide +kernel
theorem d_M_hasAt_7 : decode b_M_hasAt 7 = .ok (.if_icmp .ge 22, 3) := by decide +kernel
theorem d_M_hasAt_10 : decode b_M_hasAt 10 = .ok (.aload_n 0, 1) := by decide +kernel
theorem d_M_hasAt_11 : decode b_M_hasAt 11 = .ok (.getfield 22, 3) := by decide +kernel
theorem d_M_hasAt_14 : decode b_M_hasAt 14 = .ok (.bipush 100, 2) := by decide +kernel
theorem d_M_hasAt_16 : decode b_M_hasAt 16 = .ok (.iload_n 1, 1) := by decide +kernel
theorem d_M_hasAt_17 : decode b_M_hasAt 17 = .ok (.imul, 1) := by decide +kernel
theorem d_M_hasAt_18 : decode b_M_hasAt 18 = .ok (.iload_n 2, 1) := by decide +kernel
theorem d_M_hasAt_19 : decode b_M_hasAt 19 = .ok (.iadd, 1) := by decide +kernel
theorem d_M_hasAt_20 : decode b_M_hasAt 20 = .ok (.iaload, 1) := by decide +kernel
theorem d_M_hasAt_21 : decode b_M_hasAt 21 = .ok (.iload_n 3, 1) := by decide +kernel
theorem d_M_hasAt_22 : decode b_M_hasAt 22 = .ok (.if_icmp .ne 7, 3) := by decide +kernel
theorem d_M_hasAt_25 : decode b_M_hasAt 25 = .ok (.iconst 1, 1) := by decide +kernel
theorem d_M_hasAt_26 : decode b_M_hasAt 26 = .ok (.goto 4, 3) := by decide +kernel
theorem d_M_hasAt_29 : decode b_M_hasAt 29 = .ok (.iconst 0, 1) := by decide +kernel
theorem d_M_hasAt_30 : decode b_M_hasAt 30 = .ok (.ireturn, 1) := by decide +kernel
theorem d_M_value_0 : decode b_M_value 0 = .ok (.aload_n 0, 1) := by decide +kernel
theorem d_M_value_1 : decode b_M_value 1 = .ok (.iload_n 1, 1) := by decide +kernel
theorem d_M_value_2 : decode b_M_value 2 = .ok (.invokevirtual 35, 3) := by decide +kernel
theorem d_M_value_5 : decode b_M_value 5 = .ok (.ifCond .eq 15, 3) := by decide +kernel
theorem d_M_value_8 : decode b_M_value 8 = .ok (.aload_n 0, 1) := by decide +kernel
theorem d_M_value_9 : decode b_M_value 9 = .ok (.iload_n 1, 1) := by decide +kernel
theorem d_M_value_10 : decode b_M_value 10 = .ok (.invokevirtual 39, 3) := by decide +kernel
theorem d_M_value_13 : decode b_M_value 13 = .ok (.ifCond .eq 7, 3) := by decide +kernel
theorem d_M_value_16 : decode b_M_value 16 = .ok (.iconst 1, 1) := by decide +kernel
theorem d_M_value_17 : decode b_M_value 17 = .ok (.goto 4, 3) := by decide +kernel
theorem d_M_value_20 : decode b_M_value 20 = .ok (.iconst 0, 1) := by decide +kernel
theorem d_M_value_21 : decode b_M_value 21 = .ok (.istore_n 3, 1) := by decide +kernel
theorem d_M_value_22 : decode b_M_value 22 = .ok (.iload_n 3, 1) := by decide +kernel
theorem d_M_value_23 : decode b_M_value 23 = .ok (.ifCond .eq 12, 3) := by decide +kernel
theorem d_M_value_26 : decode b_M_value 26 = .ok (.aload_n 0, 1) := by decide +kernel
theorem d_M_value_27 : decode b_M_value 27 = .ok (.iload_n 1, 1) := by decide +kernel
theorem d_M_value_28 : decode b_M_value 28 = .ok (.iload_n 2, 1) := by decide +kernel
theorem d_M_value_29 : decode b_M_value 29 = .ok (.invokevirtual 67, 3) := by decide +kernel
theorem d_M_value_32 : decode b_M_value 32 = .ok (.goto 4, 3) := by decide +kernel
theorem d_M_value_35 : decode b_M_value 35 = .ok (.iconst 0, 1) := by decide +kernel
theorem d_M_value_36 : decode b_M_value 36 = .ok (.istore 4, 2) := by decide +kernel
theorem d_M_value_38 : decode b_M_value 38 = .ok (.aload_n 0, 1) := by decide +kernel
theorem d_M_value_39 : decode b_M_value 39 = .ok (.iload_n 3, 1) := by decide +kernel
theorem d_M_value_40 : decode b_M_value 40 = .ok (.ifCond .ne 7, 3) := by decide +kernel
theorem d_M_value_43 : decode b_M_value 43 = .ok (.iconst 1, 1) := by decide +kernel
theorem d_M_value_44 : decode b_M_value 44 = .ok (.goto 19, 3) := by decide +kernel
theorem d_M_value_47 : decode b_M_value 47 = .ok (.aload_n 0, 1) := by decide +kernel
theorem d_M_value_48 : decode b_M_value 48 = .ok (.iload_n 1, 1) := by decide +kernel
theorem d_M_value_49 : decode b_M_value 49 = .ok (.iload 4, 2) := by decide +kernel
theorem d_M_value_51 : decode b_M_value 51 = .ok (.iload_n 2, 1) := by decide +kernel
theorem d_M_value_52 : decode b_M_value 52 = .ok (.invokevirtual 70, 3) := by decide +kernel
theorem d_M_value_55 : decode b_M_value 55 = .ok (.ifCond .ne 7, 3) := by decide +kernel
theorem d_M_value_58 : decode b_M_value 58 = .ok (.iconst 2, 1) := by decide +kernel
theorem d_M_value_59 : decode b_M_value 59 = .ok (.goto 4, 3) := by decide +kernel
theorem d_M_value_62 : decode b_M_value 62 = .ok (.iconst 0, 1) := by decide +kernel
theorem d_M_value_63 : decode b_M_value 63 = .ok (.invokevirtual 50, 3) := by decide +kernel
theorem d_M_value_66 : decode b_M_value 66 = .ok (.ifCond .eq 5, 3) := by decide +kernel
theorem d_M_value_69 : decode b_M_value 69 = .ok (.iconst 0, 1) := by decide +kernel
theorem d_M_value_70 : decode b_M_value 70 = .ok (.ireturn, 1) := by decide +kernel
theorem d_M_value_71 : decode b_M_value 71 = .ok (.aload_n 0, 1) := by decide +kernel
theorem d_M_value_72 : decode b_M_value 72 = .ok (.getfield 19, 3) := by decide +kernel
theorem d_M_value_75 : decode b_M_value 75 = .ok (.bipush 100, 2) := by decide +kernel
theorem d_M_value_77 : decode b_M_value 77 = .ok (.iload_n 1, 1) := by decide +kernel
theorem d_M_value_78 : decode b_M_value 78 = .ok (.imul, 1) := by decide +kernel
theorem d_M_value_79 : decode b_M_value 79 = .ok (.iload 4, 2) := by decide +kernel
theorem d_M_value_81 : decode b_M_value 81 = .ok (.iadd, 1) := by decide +kernel
theorem d_M_value_82 : decode b_M_value 82 = .ok (.iaload, 1) := by decide +kernel
theorem d_M_value_83 : decode b_M_value 83 = .ok (.ireturn, 1) := by decide +kernel
theorem d_M_update_0 : decode b_M_update 0 = .ok (.aload_n 0, 1) := by decide +kernel
theorem d_M_update_1 : decode b_M_update 1 = .ok (.iload_n 1, 1) := by decide +kernel
theorem d_M_update_2 : decode b_M_update 2 = .ok (.invokevirtual 35, 3) := by decide +kernel
theorem d_M_update_5 : decode b_M_update 5 = .ok (.ifCond .eq 17, 3) := by decide +kernel
theorem d_M_update_8 : decode b_M_update 8 = .ok (.aload_n 0, 1) := by decide +kernel
theorem d_M_update_9 : decode b_M_update 9 = .ok (.getfield 7, 3) := by decide +kernel
theorem d_M_update_12 : decode b_M_update 12 = .ok (.iload_n 1, 1) := by decide +kernel
theorem d_M_update_13 : decode b_M_update 13 = .ok (.iaload, 1) := by decide +kernel
theorem d_M_update_14 : decode b_M_update 14 = .ok (.iconst 2, 1) := by decide +kernel
theorem d_M_update_15 : decode b_M_update 15 = .ok (.if_icmp .ne 7, 3) := by decide +kernel
theorem d_M_update_18 : decode b_M_update 18 = .ok (.iconst 1, 1) := by decide +kernel
theorem d_M_update_19 : decode b_M_update 19 = .ok (.goto 4, 3) := by decide +kernel
theorem d_M_update_22 : decode b_M_update 22 = .ok (.iconst 0, 1) := by decide +kernel
theorem d_M_update_23 : decode b_M_update 23 = .ok (.istore 4, 2) := by decide +kernel
theorem d_M_update_25 : decode b_M_update 25 = .ok (.aload_n 0, 1) := by decide +kernel
theorem d_M_update_26 : decode b_M_update 26 = .ok (.iload 4, 2) := by decide +kernel
theorem d_M_update_28 : decode b_M_update 28 = .ok (.ifCond .ne 7, 3) := by decide +kernel
theorem d_M_update_31 : decode b_M_update 31 = .ok (.iconst 1, 1) := by decide +kernel
theorem d_M_update_32 : decode b_M_update 32 = .ok (.goto 33, 3) := by decide +kernel
theorem d_M_update_35 : decode b_M_update 35 = .ok (.aload_n 0, 1) := by decide +kernel
theorem d_M_update_36 : decode b_M_update 36 = .ok (.invokevirtual 46, 3) := by decide +kernel
theorem d_M_update_39 : decode b_M_update 39 = .ok (.ifCond .eq 7, 3) := by decide +kernel
theorem d_M_update_42 : decode b_M_update 42 = .ok (.iconst 2, 1) := by decide +kernel
theorem d_M_update_43 : decode b_M_update 43 = .ok (.goto 22, 3) := by decide +kernel
theorem d_M_update_46 : decode b_M_update 46 = .ok (.iload_n 2, 1) := by decide +kernel
theorem d_M_update_47 : decode b_M_update 47 = .ok (.ifCond .lt 13, 3) := by decide +kernel
theorem d_M_update_50 : decode b_M_update 50 = .ok (.iload_n 2, 1) := by decide +kernel
theorem d_M_update_51 : decode b_M_update 51 = .ok (.aload_n 0, 1) := by decide +kernel
theorem d_M_update_52 : decode b_M_update 52 = .ok (.getfield 16, 3) := by decide +kernel
theorem d_M_update_55 : decode b_M_update 55 = .ok (.iload_n 1, 1) := by decide +kernel
theorem d_M_update_56 : decode b_M_update 56 = .ok (.iaload, 1) := by decide +kernel
theorem d_M_update_57 : decode b_M_update 57 = .ok (.if_icmp .lt 7, 3) := by decide +kernel
theorem d_M_update_60 : decode b_M_update 60 = .ok (.iconst 3, 1) := by decide +kernel
theorem d_M_update_61 : decode b_M_update 61 = .ok (.goto 4, 3) := by decide +kernel
theorem d_M_update_64 : decode b_M_update 64 = .ok (.iconst 0, 1) := by decide +kernel
theorem d_M_update_65 : decode b_M_update 65 = .ok (.invokevirtual 50, 3) := by decide +kernel
theorem d_M_update_68 : decode b_M_update 68 = .ok (.ifCond .eq 5, 3) := by decide +kernel
theorem d_M_update_71 : decode b_M_update 71 = .ok (.iconst 0, 1) := by decide +kernel
theorem d_M_update_72 : decode b_M_update 72 = .ok (.ireturn, 1) := by decide +kernel
theorem d_M_update_73 : decode b_M_update 73 = .ok (.aload_n 0, 1) := by decide +kernel
theorem d_M_update_74 : decode b_M_update 74 = .ok (.iconst 2, 1) := by decide +kernel
theorem d_M_update_75 : decode b_M_update 75 = .ok (.aload_n 0, 1) := by decide +kernel
theorem d_M_update_76 : decode b_M_update 76 = .ok (.getfield 13, 3) := by decide +kernel
theorem d_M_update_79 : decode b_M_update 79 = .ok (.iload_n 1, 1) := by decide +kernel
theorem d_M_update_80 : decode b_M_update 80 = .ok (.iaload, 1) := by decide +kernel
theorem d_M_update_81 : decode b_M_update 81 = .ok (.invokevirtual 53, 3) := by decide +kernel
theorem d_M_update_84 : decode b_M_update 84 = .ok (.istore 5, 2) := by decide +kernel
theorem d_M_update_86 : decode b_M_update 86 = .ok (.aload_n 0, 1) := by decide +kernel
theorem d_M_update_87 : decode b_M_update 87 = .ok (.iload_n 1, 1) := by decide +kernel
theorem d_M_update_88 : decode b_M_update 88 = .ok (.iconst 0, 1) := by decide +kernel
theorem d_M_update_89 : decode b_M_update 89 = .ok (.iload_n 2, 1) := by decide +kernel
theorem d_M_update_90 : decode b_M_update 90 = .ok (.invokevirtual 63, 3) := by decide +kernel
theorem d_M_update_93 : decode b_M_update 93 = .ok (.aload_n 0, 1) := by decide +kernel
theorem d_M_update_94 : decode b_M_update 94 = .ok (.iconst 0, 1) := by decide +kernel
theorem d_M_update_95 : decode b_M_update 95 = .ok (.iload_n 3, 1) := by decide +kernel
theorem d_M_update_96 : decode b_M_update 96 = .ok (.invokevirtual 42, 3) := by decide +kernel
theorem d_M_update_99 : decode b_M_update 99 = .ok (.aload_n 0, 1) := by decide +kernel
theorem d_M_update_100 : decode b_M_update 100 = .ok (.iload_n 1, 1) := by decide +kernel
theorem d_M_update_101 : decode b_M_update 101 = .ok (.iload_n 2, 1) := by decide +kernel
theorem d_M_update_102 : decode b_M_update 102 = .ok (.iconst 1, 1) := by decide +kernel
theorem d_M_update_103 : decode b_M_update 103 = .ok (.iadd, 1) := by decide +kernel
theorem d_M_update_104 : decode b_M_update 104 = .ok (.aload_n 0, 1) := by decide +kernel
theorem d_M_update_105 : decode b_M_update 105 = .ok (.getfield 16, 3) := by decide +kernel
theorem d_M_update_108 : decode b_M_update 108 = .ok (.iload_n 1, 1) := by decide +kernel
theorem d_M_update_109 : decode b_M_update 109 = .ok (.iaload, 1) := by decide +kernel
theorem d_M_update_110 : decode b_M_update 110 = .ok (.invokevirtual 63, 3) := by decide +kernel
theorem d_M_update_113 : decode b_M_update 113 = .ok (.iload 5, 2) := by decide +kernel
theorem d_M_update_115 : decode b_M_update 115 = .ok (.ireturn, 1) := by decide +kernel
theorem d_M_at_0 : decode b_M_at 0 = .ok (.aload_n 0, 1) := by decide +kernel
theorem d_M_at_1 : decode b_M_at 1 = .ok (.aload_n 0, 1) := by decide +kernel
theorem d_M_at_2 : decode b_M_at 2 = .ok (.iload_n 1, 1) := by decide +kernel
theorem d_M_at_3 : decode b_M_at 3 = .ok (.invokevirtual 35, 3) := by decide +kernel
theorem d_M_at_6 : decode b_M_at 6 = .ok (.ifCond .ne 7, 3) := by decide +kernel
theorem d_M_at_9 : decode b_M_at 9 = .ok (.iconst 1, 1) := by decide +kernel
theorem d_M_at_10 : decode b_M_at 10 = .ok (.goto 22, 3) := by decide +kernel
theorem d_M_at_13 : decode b_M_at 13 = .ok (.iload_n 2, 1) := by decide +kernel
theorem d_M_at_14 : decode b_M_at 14 = .ok (.ifCond .lt 13, 3) := by decide +kernel
theorem d_M_at_17 : decode b_M_at 17 = .ok (.iload_n 2, 1) := by decide +kernel
theorem d_M_at_18 : decode b_M_at 18 = .ok (.aload_n 0, 1) := by decide +kernel
theorem d_M_at_19 : decode b_M_at 19 = .ok (.getfield 16, 3) := by decide +kernel
theorem d_M_at_22 : decode b_M_at 22 = .ok (.iload_n 1, 1) := by decide +kernel
theorem d_M_at_23 : decode b_M_at 23 = .ok (.iaload, 1) := by decide +kernel
theorem d_M_at_24 : decode b_M_at 24 = .ok (.if_icmp .lt 7, 3) := by decide +kernel
theorem d_M_at_27 : decode b_M_at 27 = .ok (.iconst 2, 1) := by decide +kernel
theorem d_M_at_28 : decode b_M_at 28 = .ok (.goto 4, 3) := by decide +kernel
theorem d_M_at_31 : decode b_M_at 31 = .ok (.iconst 0, 1) := by decide +kernel
theorem d_M_at_32 : decode b_M_at 32 = .ok (.invokevirtual 50, 3) := by decide +kernel
theorem d_M_at_35 : decode b_M_at 35 = .ok (.ifCond .eq 5, 3) := by decide +kernel
theorem d_M_at_38 : decode b_M_at 38 = .ok (.iconst 0, 1) := by decide +kernel
theorem d_M_at_39 : decode b_M_at 39 = .ok (.ireturn, 1) := by decide +kernel
theorem d_M_at_40 : decode b_M_at 40 = .ok (.aload_n 0, 1) := by decide +kernel
theorem d_M_at_41 : decode b_M_at 41 = .ok (.getfield 19, 3) := by decide +kernel
theorem d_M_at_44 : decode b_M_at 44 = .ok (.bipush 100, 2) := by decide +kernel
theorem d_M_at_46 : decode b_M_at 46 = .ok (.iload_n 1, 1) := by decide +kernel
theorem d_M_at_47 : decode b_M_at 47 = .ok (.imul, 1) := by decide +kernel
theorem d_M_at_48 : decode b_M_at 48 = .ok (.iload_n 2, 1) := by decide +kernel
theorem d_M_at_49 : decode b_M_at 49 = .ok (.iadd, 1) := by decide +kernel
theorem d_M_at_50 : decode b_M_at 50 = .ok (.iaload, 1) := by decide +kernel
theorem d_M_at_51 : decode b_M_at 51 = .ok (.ireturn, 1) := by decide +kernel
theorem d_M_size_0 : decode b_M_size 0 = .ok (.aload_n 0, 1) := by decide +kernel
theorem d_M_size_1 : decode b_M_size 1 = .ok (.aload_n 0, 1) := by decide +kernel
theorem d_M_size_2 : decode b_M_size 2 = .ok (.iload_n 1, 1) := by decide +kernel
theorem d_M_size_3 : decode b_M_size 3 = .ok (.invokevirtual 35, 3) := by decide +kernel
theorem d_M_size_6 : decode b_M_size 6 = .ok (.ifCond .eq 7, 3) := by decide +kernel
theorem d_M_size_9 : decode b_M_size 9 = .ok (.iconst 0, 1) := by decide +kernel
theorem d_M_size_10 : decode b_M_size 10 = .ok (.goto 4, 3) := by decide +kernel
theorem d_M_size_13 : decode b_M_size 13 = .ok (.iconst 1, 1) := by decide +kernel
theorem d_M_size_14 : decode b_M_size 14 = .ok (.invokevirtual 50, 3) := by decide +kernel
theorem d_M_size_17 : decode b_M_size 17 = .ok (.ifCond .eq 7, 3) := by decide +kernel
theorem d_M_size_20 : decode b_M_size 20 = .ok (.iconst 0, 1) := by decide +kernel
theorem d_M_size_21 : decode b_M_size 21 = .ok (.goto 9, 3) := by decide +kernel
theorem d_M_size_24 : decode b_M_size 24 = .ok (.aload_n 0, 1) := by decide +kernel
theorem d_M_size_25 : decode b_M_size 25 = .ok (.getfield 16, 3) := by decide +kernel
theorem d_M_size_28 : decode b_M_size 28 = .ok (.iload_n 1, 1) := by decide +kernel
theorem d_M_size_29 : decode b_M_size 29 = .ok (.iaload, 1) := by decide +kernel
theorem d_M_size_30 : decode b_M_size 30 = .ok (.ireturn, 1) := by decide +kernel
theorem d_M_parts_0 : decode b_M_parts 0 = .ok (.aload_n 0, 1) := by decide +kernel
theorem d_M_parts_1 : decode b_M_parts 1 = .ok (.aload_n 0, 1) := by decide +kernel
theorem d_M_parts_2 : decode b_M_parts 2 = .ok (.iload_n 1, 1) := by decide +kernel
theorem d_M_parts_3 : decode b_M_parts 3 = .ok (.invokevirtual 35, 3) := by decide +kernel
theorem d_M_parts_6 : decode b_M_parts 6 = .ok (.ifCond .eq 7, 3) := by decide +kernel
theorem d_M_parts_9 : decode b_M_parts 9 = .ok (.iconst 0, 1) := by decide +kernel
theorem d_M_parts_10 : decode b_M_parts 10 = .ok (.goto 4, 3) := by decide +kernel
theorem d_M_parts_13 : decode b_M_parts 13 = .ok (.iconst 1, 1) := by decide +kernel
theorem d_M_parts_14 : decode b_M_parts 14 = .ok (.invokevirtual 50, 3) := by decide +kernel
theorem d_M_parts_17 : decode b_M_parts 17 = .ok (.ifCond .eq 5, 3) := by decide +kernel
theorem d_M_parts_20 : decode b_M_parts 20 = .ok (.iconst 0, 1) := by decide +kernel
theorem d_M_parts_21 : decode b_M_parts 21 = .ok (.ireturn, 1) := by decide +kernel
theorem d_M_parts_22 : decode b_M_parts 22 = .ok (.aload_n 0, 1) := by decide +kernel
theorem d_M_parts_23 : decode b_M_parts 23 = .ok (.getfield 7, 3) := by decide +kernel
theorem d_M_parts_26 : decode b_M_parts 26 = .ok (.iload_n 1, 1) := by decide +kernel
theorem d_M_parts_27 : decode b_M_parts 27 = .ok (.iaload, 1) := by decide +kernel
theorem d_M_parts_28 : decode b_M_parts 28 = .ok (.iconst 2, 1) := by decide +kernel
theorem d_M_parts_29 : decode b_M_parts 29 = .ok (.if_icmp .ne 24, 3) := by decide +kernel
theorem d_M_parts_32 : decode b_M_parts 32 = .ok (.aload_n 0, 1) := by decide +kernel
theorem d_M_parts_33 : decode b_M_parts 33 = .ok (.getfield 13, 3) := by decide +kernel
theorem d_M_parts_36 : decode b_M_parts 36 = .ok (.iload_n 1, 1) := by decide +kernel
theorem d_M_parts_37 : decode b_M_parts 37 = .ok (.iaload, 1) := by decide +kernel
theorem d_M_parts_38 : decode b_M_parts 38 = .ok (.ifCond .ne 15, 3) := by decide +kernel
theorem d_M_parts_41 : decode b_M_parts 41 = .ok (.aload_n 0, 1) := by decide +kernel
theorem d_M_parts_42 : decode b_M_parts 42 = .ok (.getfield 25, 3) := by decide +kernel
theorem d_M_parts_45 : decode b_M_parts 45 = .ok (.aload_n 0, 1) := by decide +kernel
theorem d_M_parts_46 : decode b_M_parts 46 = .ok (.getfield 16, 3) := by decide +kernel
theorem d_M_parts_49 : decode b_M_parts 49 = .ok (.iload_n 1, 1) := by decide +kernel
theorem d_M_parts_50 : decode b_M_parts 50 = .ok (.iaload, 1) := by decide +kernel
theorem d_M_parts_51 : decode b_M_parts 51 = .ok (.iaload, 1) := by decide +kernel
theorem d_M_parts_52 : decode b_M_parts 52 = .ok (.ireturn, 1) := by decide +kernel
theorem d_M_parts_53 : decode b_M_parts 53 = .ok (.aload_n 0, 1) := by decide +kernel
theorem d_M_parts_54 : decode b_M_parts 54 = .ok (.getfield 7, 3) := by decide +kernel
theorem d_M_parts_57 : decode b_M_parts 57 = .ok (.iload_n 1, 1) := by decide +kernel
theorem d_M_parts_58 : decode b_M_parts 58 = .ok (.iaload, 1) := by decide +kernel
theorem d_M_parts_59 : decode b_M_parts 59 = .ok (.iconst 1, 1) := by decide +kernel
theorem d_M_parts_60 : decode b_M_parts 60 = .ok (.if_icmp .eq 13, 3) := by decide +kernel
theorem d_M_parts_63 : decode b_M_parts 63 = .ok (.aload_n 0, 1) := by decide +kernel
theorem d_M_parts_64 : decode b_M_parts 64 = .ok (.getfield 7, 3) := by decide +kernel
theorem d_M_parts_67 : decode b_M_parts 67 = .ok (.iload_n 1, 1) := by decide +kernel
theorem d_M_parts_68 : decode b_M_parts 68 = .ok (.iaload, 1) := by decide +kernel
theorem d_M_parts_69 : decode b_M_parts 69 = .ok (.iconst 2, 1) := by decide +kernel
theorem d_M_parts_70 : decode b_M_parts 70 = .ok (.if_icmp .ne 17, 3) := by decide +kernel
theorem d_M_parts_73 : decode b_M_parts 73 = .ok (.aload_n 0, 1) := by decide +kernel
theorem d_M_parts_74 : decode b_M_parts 74 = .ok (.getfield 13, 3) := by decide +kernel
theorem d_M_parts_77 : decode b_M_parts 77 = .ok (.iload_n 1, 1) := by decide +kernel
theorem d_M_parts_78 : decode b_M_parts 78 = .ok (.iaload, 1) := by decide +kernel
theorem d_M_parts_79 : decode b_M_parts 79 = .ok (.iconst 1, 1) := by decide +kernel
theorem d_M_parts_80 : decode b_M_parts 80 = .ok (.if_icmp .ne 7, 3) := by decide +kernel
theorem d_M_parts_83 : decode b_M_parts 83 = .ok (.iconst 1, 1) := by decide +kernel
theorem d_M_parts_84 : decode b_M_parts 84 = .ok (.goto 4, 3) := by decide +kernel
theorem d_M_parts_87 : decode b_M_parts 87 = .ok (.iconst 0, 1) := by decide +kernel
theorem d_M_parts_88 : decode b_M_parts 88 = .ok (.istore_n 2, 1) := by decide +kernel
theorem d_M_parts_89 : decode b_M_parts 89 = .ok (.iload_n 2, 1) := by decide +kernel
theorem d_M_parts_90 : decode b_M_parts 90 = .ok (.ifCond .eq 15, 3) := by decide +kernel
theorem d_M_parts_93 : decode b_M_parts 93 = .ok (.aload_n 0, 1) := by decide +kernel
theorem d_M_parts_94 : decode b_M_parts 94 = .ok (.getfield 16, 3) := by decide +kernel
theorem d_M_parts_97 : decode b_M_parts 97 = .ok (.iload_n 1, 1) := by decide +kernel
theorem d_M_parts_98 : decode b_M_parts 98 = .ok (.iaload, 1) := by decide +kernel
theorem d_M_parts_99 : decode b_M_parts 99 = .ok (.invokestatic 74, 3) := by decide +kernel
theorem d_M_parts_102 : decode b_M_parts 102 = .ok (.goto 17, 3) := by decide +kernel
theorem d_M_parts_105 : decode b_M_parts 105 = .ok (.aload_n 0, 1) := by decide +kernel
theorem d_M_parts_106 : decode b_M_parts 106 = .ok (.getfield 16, 3) := by decide +kernel
theorem d_M_parts_109 : decode b_M_parts 109 = .ok (.iload_n 1, 1) := by decide +kernel
theorem d_M_parts_110 : decode b_M_parts 110 = .ok (.iaload, 1) := by decide +kernel
theorem d_M_parts_111 : decode b_M_parts 111 = .ok (.ifCond .le 7, 3) := by decide +kernel
theorem d_M_parts_114 : decode b_M_parts 114 = .ok (.iconst 1, 1) := by decide +kernel
theorem d_M_parts_115 : decode b_M_parts 115 = .ok (.goto 4, 3) := by decide +kernel
theorem d_M_parts_118 : decode b_M_parts 118 = .ok (.iconst 0, 1) := by decide +kernel
theorem d_M_parts_119 : decode b_M_parts 119 = .ok (.ireturn, 1) := by decide +kernel
theorem d_M_bits_0 : decode b_M_bits 0 = .ok (.iconst 0, 1) := by decide +kernel
theorem d_M_bits_1 : decode b_M_bits 1 = .ok (.istore_n 1, 1) := by decide +kernel
theorem d_M_bits_2 : decode b_M_bits 2 = .ok (.iload_n 0, 1) := by decide +kernel
theorem d_M_bits_3 : decode b_M_bits 3 = .ok (.istore_n 2, 1) := by decide +kernel
theorem d_M_bits_4 : decode b_M_bits 4 = .ok (.iload_n 2, 1) := by decide +kernel
theorem d_M_bits_5 : decode b_M_bits 5 = .ok (.ifCond .le 16, 3) := by decide +kernel
theorem d_M_bits_8 : decode b_M_bits 8 = .ok (.iload_n 1, 1) := by decide +kernel
theorem d_M_bits_9 : decode b_M_bits 9 = .ok (.iload_n 2, 1) := by decide +kernel
theorem d_M_bits_10 : decode b_M_bits 10 = .ok (.iconst 2, 1) := by decide +kernel
theorem d_M_bits_11 : decode b_M_bits 11 = .ok (.irem, 1) := by decide +kernel
theorem d_M_bits_12 : decode b_M_bits 12 = .ok (.iadd, 1) := by decide +kernel
theorem d_M_bits_13 : decode b_M_bits 13 = .ok (.istore_n 1, 1) := by decide +kernel
theorem d_M_bits_14 : decode b_M_bits 14 = .ok (.iload_n 2, 1) := by decide +kernel
theorem d_M_bits_15 : decode b_M_bits 15 = .ok (.iconst 2, 1) := by decide +kernel
theorem d_M_bits_16 : decode b_M_bits 16 = .ok (.idiv, 1) := by decide +kernel
theorem d_M_bits_17 : decode b_M_bits 17 = .ok (.istore_n 2, 1) := by decide +kernel
theorem d_M_bits_18 : decode b_M_bits 18 = .ok (.goto (-14), 3) := by decide +kernel
theorem d_M_bits_21 : decode b_M_bits 21 = .ok (.iload_n 1, 1) := by decide +kernel
theorem d_M_bits_22 : decode b_M_bits 22 = .ok (.ireturn, 1) := by decide +kernel
theorem d_M_kind_0 : decode b_M_kind 0 = .ok (.aload_n 0, 1) := by decide +kernel
theorem d_M_kind_1 : decode b_M_kind 1 = .ok (.aload_n 0, 1) := by decide +kernel
theorem d_M_kind_2 : decode b_M_kind 2 = .ok (.iload_n 1, 1) := by decide +kernel
theorem d_M_kind_3 : decode b_M_kind 3 = .ok (.invokevirtual 35, 3) := by decide +kernel
theorem d_M_kind_6 : decode b_M_kind 6 = .ok (.ifCond .eq 7, 3) := by decide +kernel
theorem d_M_kind_9 : decode b_M_kind 9 = .ok (.iconst 0, 1) := by decide +kernel
theorem d_M_kind_10 : decode b_M_kind 10 = .ok (.goto 4, 3) := by decide +kernel
theorem d_M_kind_13 : decode b_M_kind 13 = .ok (.iconst 1, 1) := by decide +kernel
theorem d_M_kind_14 : decode b_M_kind 14 = .ok (.invokevirtual 50, 3) := by decide +kernel
theorem d_M_kind_17 : decode b_M_kind 17 = .ok (.ifCond .eq 7, 3) := by decide +kernel
theorem d_M_kind_20 : decode b_M_kind 20 = .ok (.iconst 0, 1) := by decide +kernel
theorem d_M_kind_21 : decode b_M_kind 21 = .ok (.goto 19, 3) := by decide +kernel
theorem d_M_kind_24 : decode b_M_kind 24 = .ok (.bipush 10, 2) := by decide +kernel
theorem d_M_kind_26 : decode b_M_kind 26 = .ok (.aload_n 0, 1) := by decide +kernel
theorem d_M_kind_27 : decode b_M_kind 27 = .ok (.getfield 7, 3) := by decide +kernel
theorem d_M_kind_30 : decode b_M_kind 30 = .ok (.iload_n 1, 1) := by decide +kernel
theorem d_M_kind_31 : decode b_M_kind 31 = .ok (.iaload, 1) := by decide +kernel
theorem d_M_kind_32 : decode b_M_kind 32 = .ok (.imul, 1) := by decide +kernel
theorem d_M_kind_33 : decode b_M_kind 33 = .ok (.aload_n 0, 1) := by decide +kernel
theorem d_M_kind_34 : decode b_M_kind 34 = .ok (.getfield 13, 3) := by decide +kernel
theorem d_M_kind_37 : decode b_M_kind 37 = .ok (.iload_n 1, 1) := by decide +kernel
theorem d_M_kind_38 : decode b_M_kind 38 = .ok (.iaload, 1) := by decide +kernel
theorem d_M_kind_39 : decode b_M_kind 39 = .ok (.iadd, 1) := by decide +kernel
theorem d_M_kind_40 : decode b_M_kind 40 = .ok (.ireturn, 1) := by decide +kernel
theorem d_M_versions_0 : decode b_M_versions 0 = .ok (.aload_n 0, 1) := by decide +kernel
theorem d_M_versions_1 : decode b_M_versions 1 = .ok (.iconst 0, 1) := by decide +kernel
theorem d_M_versions_2 : decode b_M_versions 2 = .ok (.putfield 28, 3) := by decide +kernel
theorem d_M_versions_5 : decode b_M_versions 5 = .ok (.aload_n 0, 1) := by decide +kernel
theorem d_M_versions_6 : decode b_M_versions 6 = .ok (.getfield 32, 3) := by decide +kernel
theorem d_M_versions_9 : decode b_M_versions 9 = .ok (.ireturn, 1) := by decide +kernel
