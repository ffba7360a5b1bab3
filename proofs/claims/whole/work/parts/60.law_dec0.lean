theorem d_LA_law_0 : decode code 0 = .ok (.new 8, 3) := by decide +kernel
theorem d_LA_law_3 : decode code 3 = .ok (.dup, 1) := by decide +kernel
theorem d_LA_law_4 : decode code 4 = .ok (.invokespecial 56, 3) := by decide +kernel
theorem d_LA_law_7 : decode code 7 = .ok (.astore_n 1, 1) := by decide +kernel
theorem d_LA_law_8 : decode code 8 = .ok (.new 57, 3) := by decide +kernel
theorem d_LA_law_11 : decode code 11 = .ok (.dup, 1) := by decide +kernel
theorem d_LA_law_12 : decode code 12 = .ok (.invokespecial 59, 3) := by decide +kernel
theorem d_LA_law_15 : decode code 15 = .ok (.astore_n 2, 1) := by decide +kernel
theorem d_LA_law_16 : decode code 16 = .ok (.iconst 1, 1) := by decide +kernel
theorem d_LA_law_17 : decode code 17 = .ok (.newarray .long, 2) := by decide +kernel
theorem d_LA_law_19 : decode code 19 = .ok (.astore_n 3, 1) := by decide +kernel
theorem d_LA_law_20 : decode code 20 = .ok (.iconst 0, 1) := by decide +kernel
theorem d_LA_law_21 : decode code 21 = .ok (.istore 4, 2) := by decide +kernel
theorem d_LA_law_23 : decode code 23 = .ok (.iload 4, 2) := by decide +kernel
theorem d_LA_law_25 : decode code 25 = .ok (.aload_n 0, 1) := by decide +kernel
theorem d_LA_law_26 : decode code 26 = .ok (.arraylength, 1) := by decide +kernel
theorem d_LA_law_27 : decode code 27 = .ok (.bipush 6, 2) := by decide +kernel
theorem d_LA_law_29 : decode code 29 = .ok (.isub, 1) := by decide +kernel
theorem d_LA_law_30 : decode code 30 = .ok (.if_icmp .gt (809), 3) := by decide +kernel
theorem d_LA_law_33 : decode code 33 = .ok (.aload_n 0, 1) := by decide +kernel
theorem d_LA_law_34 : decode code 34 = .ok (.iload 4, 2) := by decide +kernel
theorem d_LA_law_36 : decode code 36 = .ok (.iaload, 1) := by decide +kernel
theorem d_LA_law_37 : decode code 37 = .ok (.bipush 15, 2) := by decide +kernel
theorem d_LA_law_39 : decode code 39 = .ok (.iand, 1) := by decide +kernel
theorem d_LA_law_40 : decode code 40 = .ok (.tableswitch 793 0 13 #[72, 156, 224, 272, 285, 341, 385, 465, 521, 589, 602, 658, 726, 737], 72) := by decide +kernel
theorem d_LA_law_112 : decode code 112 = .ok (.aload_n 1, 1) := by decide +kernel
theorem d_LA_law_113 : decode code 113 = .ok (.aload_n 0, 1) := by decide +kernel
theorem d_LA_law_114 : decode code 114 = .ok (.iload 4, 2) := by decide +kernel
theorem d_LA_law_116 : decode code 116 = .ok (.iconst 1, 1) := by decide +kernel
theorem d_LA_law_117 : decode code 117 = .ok (.iadd, 1) := by decide +kernel
theorem d_LA_law_118 : decode code 118 = .ok (.iaload, 1) := by decide +kernel
theorem d_LA_law_119 : decode code 119 = .ok (.aload_n 0, 1) := by decide +kernel
theorem d_LA_law_120 : decode code 120 = .ok (.iload 4, 2) := by decide +kernel
theorem d_LA_law_122 : decode code 122 = .ok (.iconst 2, 1) := by decide +kernel
theorem d_LA_law_123 : decode code 123 = .ok (.iadd, 1) := by decide +kernel
theorem d_LA_law_124 : decode code 124 = .ok (.iaload, 1) := by decide +kernel
theorem d_LA_law_125 : decode code 125 = .ok (.aload_n 0, 1) := by decide +kernel
theorem d_LA_law_126 : decode code 126 = .ok (.iload 4, 2) := by decide +kernel
theorem d_LA_law_128 : decode code 128 = .ok (.iconst 3, 1) := by decide +kernel
theorem d_LA_law_129 : decode code 129 = .ok (.iadd, 1) := by decide +kernel
theorem d_LA_law_130 : decode code 130 = .ok (.iaload, 1) := by decide +kernel
theorem d_LA_law_131 : decode code 131 = .ok (.aload_n 0, 1) := by decide +kernel
theorem d_LA_law_132 : decode code 132 = .ok (.iload 4, 2) := by decide +kernel
theorem d_LA_law_134 : decode code 134 = .ok (.iconst 4, 1) := by decide +kernel
theorem d_LA_law_135 : decode code 135 = .ok (.iadd, 1) := by decide +kernel
theorem d_LA_law_136 : decode code 136 = .ok (.iaload, 1) := by decide +kernel
theorem d_LA_law_137 : decode code 137 = .ok (.aload_n 0, 1) := by decide +kernel
theorem d_LA_law_138 : decode code 138 = .ok (.iload 4, 2) := by decide +kernel
theorem d_LA_law_140 : decode code 140 = .ok (.iconst 5, 1) := by decide +kernel
theorem d_LA_law_141 : decode code 141 = .ok (.iadd, 1) := by decide +kernel
theorem d_LA_law_142 : decode code 142 = .ok (.iaload, 1) := by decide +kernel
theorem d_LA_law_143 : decode code 143 = .ok (.invokestatic 60, 3) := by decide +kernel
theorem d_LA_law_146 : decode code 146 = .ok (.istore 5, 2) := by decide +kernel
theorem d_LA_law_148 : decode code 148 = .ok (.aload_n 2, 1) := by decide +kernel
theorem d_LA_law_149 : decode code 149 = .ok (.aload_n 0, 1) := by decide +kernel
theorem d_LA_law_150 : decode code 150 = .ok (.iload 4, 2) := by decide +kernel
theorem d_LA_law_152 : decode code 152 = .ok (.iconst 1, 1) := by decide +kernel
theorem d_LA_law_153 : decode code 153 = .ok (.iadd, 1) := by decide +kernel
theorem d_LA_law_154 : decode code 154 = .ok (.iaload, 1) := by decide +kernel
theorem d_LA_law_155 : decode code 155 = .ok (.aload_n 0, 1) := by decide +kernel
theorem d_LA_law_156 : decode code 156 = .ok (.iload 4, 2) := by decide +kernel
theorem d_LA_law_158 : decode code 158 = .ok (.iconst 2, 1) := by decide +kernel
theorem d_LA_law_159 : decode code 159 = .ok (.iadd, 1) := by decide +kernel
theorem d_LA_law_160 : decode code 160 = .ok (.iaload, 1) := by decide +kernel
theorem d_LA_law_161 : decode code 161 = .ok (.aload_n 0, 1) := by decide +kernel
theorem d_LA_law_162 : decode code 162 = .ok (.iload 4, 2) := by decide +kernel
theorem d_LA_law_164 : decode code 164 = .ok (.iconst 3, 1) := by decide +kernel
theorem d_LA_law_165 : decode code 165 = .ok (.iadd, 1) := by decide +kernel
theorem d_LA_law_166 : decode code 166 = .ok (.iaload, 1) := by decide +kernel
theorem d_LA_law_167 : decode code 167 = .ok (.aload_n 0, 1) := by decide +kernel
theorem d_LA_law_168 : decode code 168 = .ok (.iload 4, 2) := by decide +kernel
theorem d_LA_law_170 : decode code 170 = .ok (.iconst 4, 1) := by decide +kernel
theorem d_LA_law_171 : decode code 171 = .ok (.iadd, 1) := by decide +kernel
theorem d_LA_law_172 : decode code 172 = .ok (.iaload, 1) := by decide +kernel
theorem d_LA_law_173 : decode code 173 = .ok (.aload_n 0, 1) := by decide +kernel
theorem d_LA_law_174 : decode code 174 = .ok (.iload 4, 2) := by decide +kernel
theorem d_LA_law_176 : decode code 176 = .ok (.iconst 5, 1) := by decide +kernel
theorem d_LA_law_177 : decode code 177 = .ok (.iadd, 1) := by decide +kernel
theorem d_LA_law_178 : decode code 178 = .ok (.iaload, 1) := by decide +kernel
theorem d_LA_law_179 : decode code 179 = .ok (.invokevirtual 65, 3) := by decide +kernel
theorem d_LA_law_182 : decode code 182 = .ok (.aload_n 2, 1) := by decide +kernel
theorem d_LA_law_183 : decode code 183 = .ok (.invokevirtual 66, 3) := by decide +kernel
theorem d_LA_law_186 : decode code 186 = .ok (.iload 5, 2) := by decide +kernel
theorem d_LA_law_188 : decode code 188 = .ok (.if_icmp .eq (5), 3) := by decide +kernel
theorem d_LA_law_191 : decode code 191 = .ok (.iconst 0, 1) := by decide +kernel
theorem d_LA_law_192 : decode code 192 = .ok (.ireturn, 1) := by decide +kernel
theorem d_LA_law_193 : decode code 193 = .ok (.goto (640), 3) := by decide +kernel
theorem d_LA_law_196 : decode code 196 = .ok (.aload_n 1, 1) := by decide +kernel
theorem d_LA_law_197 : decode code 197 = .ok (.aload_n 0, 1) := by decide +kernel
theorem d_LA_law_198 : decode code 198 = .ok (.iload 4, 2) := by decide +kernel
theorem d_LA_law_200 : decode code 200 = .ok (.iconst 1, 1) := by decide +kernel
theorem d_LA_law_201 : decode code 201 = .ok (.iadd, 1) := by decide +kernel
theorem d_LA_law_202 : decode code 202 = .ok (.iaload, 1) := by decide +kernel
theorem d_LA_law_203 : decode code 203 = .ok (.aload_n 0, 1) := by decide +kernel
theorem d_LA_law_204 : decode code 204 = .ok (.iload 4, 2) := by decide +kernel
theorem d_LA_law_206 : decode code 206 = .ok (.iconst 2, 1) := by decide +kernel
theorem d_LA_law_207 : decode code 207 = .ok (.iadd, 1) := by decide +kernel
theorem d_LA_law_208 : decode code 208 = .ok (.iaload, 1) := by decide +kernel
theorem d_LA_law_209 : decode code 209 = .ok (.aload_n 3, 1) := by decide +kernel
theorem d_LA_law_210 : decode code 210 = .ok (.invokestatic 69, 3) := by decide +kernel
theorem d_LA_law_213 : decode code 213 = .ok (.istore 5, 2) := by decide +kernel
theorem d_LA_law_215 : decode code 215 = .ok (.aload_n 2, 1) := by decide +kernel
theorem d_LA_law_216 : decode code 216 = .ok (.aload_n 0, 1) := by decide +kernel
theorem d_LA_law_217 : decode code 217 = .ok (.iload 4, 2) := by decide +kernel
theorem d_LA_law_219 : decode code 219 = .ok (.iconst 1, 1) := by decide +kernel
theorem d_LA_law_220 : decode code 220 = .ok (.iadd, 1) := by decide +kernel
theorem d_LA_law_221 : decode code 221 = .ok (.iaload, 1) := by decide +kernel
theorem d_LA_law_222 : decode code 222 = .ok (.aload_n 0, 1) := by decide +kernel
theorem d_LA_law_223 : decode code 223 = .ok (.iload 4, 2) := by decide +kernel
theorem d_LA_law_225 : decode code 225 = .ok (.iconst 2, 1) := by decide +kernel
theorem d_LA_law_226 : decode code 226 = .ok (.iadd, 1) := by decide +kernel
theorem d_LA_law_227 : decode code 227 = .ok (.iaload, 1) := by decide +kernel
theorem d_LA_law_228 : decode code 228 = .ok (.invokevirtual 72, 3) := by decide +kernel
theorem d_LA_law_231 : decode code 231 = .ok (.istore 6, 2) := by decide +kernel
theorem d_LA_law_233 : decode code 233 = .ok (.aload_n 2, 1) := by decide +kernel
theorem d_LA_law_234 : decode code 234 = .ok (.invokevirtual 66, 3) := by decide +kernel
theorem d_LA_law_237 : decode code 237 = .ok (.iload 5, 2) := by decide +kernel
theorem d_LA_law_239 : decode code 239 = .ok (.if_icmp .eq (5), 3) := by decide +kernel
theorem d_LA_law_242 : decode code 242 = .ok (.iconst 0, 1) := by decide +kernel
theorem d_LA_law_243 : decode code 243 = .ok (.ireturn, 1) := by decide +kernel
theorem d_LA_law_244 : decode code 244 = .ok (.iload 5, 2) := by decide +kernel
theorem d_LA_law_246 : decode code 246 = .ok (.ifCond .ne (15), 3) := by decide +kernel
theorem d_LA_law_249 : decode code 249 = .ok (.aload_n 3, 1) := by decide +kernel
theorem d_LA_law_250 : decode code 250 = .ok (.iconst 0, 1) := by decide +kernel
theorem d_LA_law_251 : decode code 251 = .ok (.laload, 1) := by decide +kernel
theorem d_LA_law_252 : decode code 252 = .ok (.iload 6, 2) := by decide +kernel
theorem d_LA_law_254 : decode code 254 = .ok (.i2l, 1) := by decide +kernel
theorem d_LA_law_255 : decode code 255 = .ok (.lcmp, 1) := by decide +kernel
theorem d_LA_law_256 : decode code 256 = .ok (.ifCond .eq (5), 3) := by decide +kernel
theorem d_LA_law_259 : decode code 259 = .ok (.iconst 0, 1) := by decide +kernel
theorem d_LA_law_260 : decode code 260 = .ok (.ireturn, 1) := by decide +kernel
theorem d_LA_law_261 : decode code 261 = .ok (.goto (572), 3) := by decide +kernel
theorem d_LA_law_264 : decode code 264 = .ok (.aload_n 1, 1) := by decide +kernel
theorem d_LA_law_265 : decode code 265 = .ok (.aload_n 0, 1) := by decide +kernel
theorem d_LA_law_266 : decode code 266 = .ok (.iload 4, 2) := by decide +kernel
theorem d_LA_law_268 : decode code 268 = .ok (.iconst 1, 1) := by decide +kernel
theorem d_LA_law_269 : decode code 269 = .ok (.iadd, 1) := by decide +kernel
theorem d_LA_law_270 : decode code 270 = .ok (.iaload, 1) := by decide +kernel
theorem d_LA_law_271 : decode code 271 = .ok (.aload_n 0, 1) := by decide +kernel
theorem d_LA_law_272 : decode code 272 = .ok (.iload 4, 2) := by decide +kernel
theorem d_LA_law_274 : decode code 274 = .ok (.iconst 2, 1) := by decide +kernel
theorem d_LA_law_275 : decode code 275 = .ok (.iadd, 1) := by decide +kernel
theorem d_LA_law_276 : decode code 276 = .ok (.iaload, 1) := by decide +kernel
theorem d_LA_law_277 : decode code 277 = .ok (.invokestatic 73, 3) := by decide +kernel
theorem d_LA_law_280 : decode code 280 = .ok (.istore 5, 2) := by decide +kernel
theorem d_LA_law_282 : decode code 282 = .ok (.aload_n 2, 1) := by decide +kernel
theorem d_LA_law_283 : decode code 283 = .ok (.aload_n 0, 1) := by decide +kernel
theorem d_LA_law_284 : decode code 284 = .ok (.iload 4, 2) := by decide +kernel
theorem d_LA_law_286 : decode code 286 = .ok (.iconst 1, 1) := by decide +kernel
theorem d_LA_law_287 : decode code 287 = .ok (.iadd, 1) := by decide +kernel
theorem d_LA_law_288 : decode code 288 = .ok (.iaload, 1) := by decide +kernel
theorem d_LA_law_289 : decode code 289 = .ok (.aload_n 0, 1) := by decide +kernel
theorem d_LA_law_290 : decode code 290 = .ok (.iload 4, 2) := by decide +kernel
theorem d_LA_law_292 : decode code 292 = .ok (.iconst 2, 1) := by decide +kernel
theorem d_LA_law_293 : decode code 293 = .ok (.iadd, 1) := by decide +kernel
theorem d_LA_law_294 : decode code 294 = .ok (.iaload, 1) := by decide +kernel
theorem d_LA_law_295 : decode code 295 = .ok (.invokevirtual 76, 3) := by decide +kernel
theorem d_LA_law_298 : decode code 298 = .ok (.aload_n 2, 1) := by decide +kernel
theorem d_LA_law_299 : decode code 299 = .ok (.invokevirtual 66, 3) := by decide +kernel
theorem d_LA_law_302 : decode code 302 = .ok (.iload 5, 2) := by decide +kernel
theorem d_LA_law_304 : decode code 304 = .ok (.if_icmp .eq (5), 3) := by decide +kernel
theorem d_LA_law_307 : decode code 307 = .ok (.iconst 0, 1) := by decide +kernel
theorem d_LA_law_308 : decode code 308 = .ok (.ireturn, 1) := by decide +kernel
theorem d_LA_law_309 : decode code 309 = .ok (.goto (524), 3) := by decide +kernel
theorem d_LA_law_312 : decode code 312 = .ok (.aload_n 1, 1) := by decide +kernel
theorem d_LA_law_313 : decode code 313 = .ok (.invokevirtual 77, 3) := by decide +kernel
theorem d_LA_law_316 : decode code 316 = .ok (.aload_n 2, 1) := by decide +kernel
theorem d_LA_law_317 : decode code 317 = .ok (.invokevirtual 80, 3) := by decide +kernel
theorem d_LA_law_320 : decode code 320 = .ok (.if_icmp .eq (513), 3) := by decide +kernel
theorem d_LA_law_323 : decode code 323 = .ok (.iconst 0, 1) := by decide +kernel
