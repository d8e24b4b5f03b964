theorem d_la_law_3 : decode code 3 = .ok (.dup, 1) := by decide +kernel
theorem d_la_law_4 : decode code 4 = .ok (.aload_n 0, 1) := by decide +kernel
theorem d_la_law_5 : decode code 5 = .ok (.iconst 0, 1) := by decide +kernel
theorem d_la_law_6 : decode code 6 = .ok (.invokestatic 71, 3) := by decide +kernel
theorem d_la_law_9 : decode code 9 = .ok (.aload_n 0, 1) := by decide +kernel
theorem d_la_law_10 : decode code 10 = .ok (.iconst 1, 1) := by decide +kernel
theorem d_la_law_11 : decode code 11 = .ok (.invokestatic 71, 3) := by decide +kernel
theorem d_la_law_14 : decode code 14 = .ok (.invokespecial 77, 3) := by decide +kernel
theorem d_la_law_17 : decode code 17 = .ok (.astore_n 1, 1) := by decide +kernel
theorem d_la_law_18 : decode code 18 = .ok (.new 80, 3) := by decide +kernel
theorem d_la_law_21 : decode code 21 = .ok (.dup, 1) := by decide +kernel
theorem d_la_law_22 : decode code 22 = .ok (.aload_n 0, 1) := by decide +kernel
theorem d_la_law_23 : decode code 23 = .ok (.iconst 0, 1) := by decide +kernel
theorem d_la_law_24 : decode code 24 = .ok (.invokestatic 71, 3) := by decide +kernel
theorem d_la_law_27 : decode code 27 = .ok (.aload_n 0, 1) := by decide +kernel
theorem d_la_law_28 : decode code 28 = .ok (.iconst 1, 1) := by decide +kernel
theorem d_la_law_29 : decode code 29 = .ok (.invokestatic 71, 3) := by decide +kernel
theorem d_la_law_32 : decode code 32 = .ok (.invokespecial 82, 3) := by decide +kernel
theorem d_la_law_35 : decode code 35 = .ok (.astore_n 2, 1) := by decide +kernel
theorem d_la_law_36 : decode code 36 = .ok (.iconst 1, 1) := by decide +kernel
theorem d_la_law_37 : decode code 37 = .ok (.newarray .long, 2) := by decide +kernel
theorem d_la_law_39 : decode code 39 = .ok (.astore_n 3, 1) := by decide +kernel
theorem d_la_law_40 : decode code 40 = .ok (.iconst 2, 1) := by decide +kernel
theorem d_la_law_41 : decode code 41 = .ok (.istore 4, 2) := by decide +kernel
theorem d_la_law_43 : decode code 43 = .ok (.iload 4, 2) := by decide +kernel
theorem d_la_law_45 : decode code 45 = .ok (.aload_n 0, 1) := by decide +kernel
theorem d_la_law_46 : decode code 46 = .ok (.arraylength, 1) := by decide +kernel
theorem d_la_law_47 : decode code 47 = .ok (.iconst 5, 1) := by decide +kernel
theorem d_la_law_48 : decode code 48 = .ok (.isub, 1) := by decide +kernel
theorem d_la_law_49 : decode code 49 = .ok (.if_icmp .gt 1128, 3) := by decide +kernel
theorem d_la_law_52 : decode code 52 = .ok (.aload_n 0, 1) := by decide +kernel
theorem d_la_law_53 : decode code 53 = .ok (.iload 4, 2) := by decide +kernel
theorem d_la_law_55 : decode code 55 = .ok (.iaload, 1) := by decide +kernel
theorem d_la_law_56 : decode code 56 = .ok (.bipush 31, 2) := by decide +kernel
theorem d_la_law_58 : decode code 58 = .ok (.iand, 1) := by decide +kernel
theorem d_la_law_59 : decode code 59 = .ok (.tableswitch 1112 0 17 #[85, 129, 228, 241, 277, 368, 424, 480, 560, 635, 648, 704, 791, 858, 871, 938, 1001, 1056], 85) := by decide +kernel
theorem d_la_law_144 : decode code 144 = .ok (.aload_n 1, 1) := by decide +kernel
theorem d_la_law_145 : decode code 145 = .ok (.aload_n 3, 1) := by decide +kernel
theorem d_la_law_146 : decode code 146 = .ok (.invokestatic 83, 3) := by decide +kernel
theorem d_la_law_149 : decode code 149 = .ok (.istore 5, 2) := by decide +kernel
theorem d_la_law_151 : decode code 151 = .ok (.aload_n 2, 1) := by decide +kernel
theorem d_la_law_152 : decode code 152 = .ok (.invokevirtual 86, 3) := by decide +kernel
theorem d_la_law_155 : decode code 155 = .ok (.istore 6, 2) := by decide +kernel
theorem d_la_law_157 : decode code 157 = .ok (.aload_n 2, 1) := by decide +kernel
theorem d_la_law_158 : decode code 158 = .ok (.invokevirtual 87, 3) := by decide +kernel
theorem d_la_law_161 : decode code 161 = .ok (.iload 5, 2) := by decide +kernel
theorem d_la_law_163 : decode code 163 = .ok (.if_icmp .eq 5, 3) := by decide +kernel
theorem d_la_law_166 : decode code 166 = .ok (.iconst 0, 1) := by decide +kernel
theorem d_la_law_167 : decode code 167 = .ok (.ireturn, 1) := by decide +kernel
theorem d_la_law_168 : decode code 168 = .ok (.iload 5, 2) := by decide +kernel
theorem d_la_law_170 : decode code 170 = .ok (.ifCond .ne 15, 3) := by decide +kernel
theorem d_la_law_173 : decode code 173 = .ok (.aload_n 3, 1) := by decide +kernel
theorem d_la_law_174 : decode code 174 = .ok (.iconst 0, 1) := by decide +kernel
theorem d_la_law_175 : decode code 175 = .ok (.laload, 1) := by decide +kernel
theorem d_la_law_176 : decode code 176 = .ok (.iload 6, 2) := by decide +kernel
theorem d_la_law_178 : decode code 178 = .ok (.i2l, 1) := by decide +kernel
theorem d_la_law_179 : decode code 179 = .ok (.lcmp, 1) := by decide +kernel
theorem d_la_law_180 : decode code 180 = .ok (.ifCond .eq 5, 3) := by decide +kernel
theorem d_la_law_183 : decode code 183 = .ok (.iconst 0, 1) := by decide +kernel
theorem d_la_law_184 : decode code 184 = .ok (.ireturn, 1) := by decide +kernel
theorem d_la_law_185 : decode code 185 = .ok (.goto 986, 3) := by decide +kernel
theorem d_la_law_188 : decode code 188 = .ok (.aload_n 1, 1) := by decide +kernel
theorem d_la_law_189 : decode code 189 = .ok (.aload_n 0, 1) := by decide +kernel
theorem d_la_law_190 : decode code 190 = .ok (.iload 4, 2) := by decide +kernel
theorem d_la_law_192 : decode code 192 = .ok (.iconst 1, 1) := by decide +kernel
theorem d_la_law_193 : decode code 193 = .ok (.iadd, 1) := by decide +kernel
theorem d_la_law_194 : decode code 194 = .ok (.iaload, 1) := by decide +kernel
theorem d_la_law_195 : decode code 195 = .ok (.aload_n 0, 1) := by decide +kernel
theorem d_la_law_196 : decode code 196 = .ok (.iload 4, 2) := by decide +kernel
theorem d_la_law_198 : decode code 198 = .ok (.iconst 2, 1) := by decide +kernel
theorem d_la_law_199 : decode code 199 = .ok (.iadd, 1) := by decide +kernel
theorem d_la_law_200 : decode code 200 = .ok (.iaload, 1) := by decide +kernel
theorem d_la_law_201 : decode code 201 = .ok (.aload_n 0, 1) := by decide +kernel
theorem d_la_law_202 : decode code 202 = .ok (.iload 4, 2) := by decide +kernel
theorem d_la_law_204 : decode code 204 = .ok (.iconst 3, 1) := by decide +kernel
theorem d_la_law_205 : decode code 205 = .ok (.iadd, 1) := by decide +kernel
theorem d_la_law_206 : decode code 206 = .ok (.iaload, 1) := by decide +kernel
theorem d_la_law_207 : decode code 207 = .ok (.aload_n 0, 1) := by decide +kernel
theorem d_la_law_208 : decode code 208 = .ok (.iload 4, 2) := by decide +kernel
theorem d_la_law_210 : decode code 210 = .ok (.iconst 4, 1) := by decide +kernel
theorem d_la_law_211 : decode code 211 = .ok (.iadd, 1) := by decide +kernel
theorem d_la_law_212 : decode code 212 = .ok (.iaload, 1) := by decide +kernel
theorem d_la_law_213 : decode code 213 = .ok (.aload_n 3, 1) := by decide +kernel
theorem d_la_law_214 : decode code 214 = .ok (.invokestatic 90, 3) := by decide +kernel
theorem d_la_law_217 : decode code 217 = .ok (.istore 5, 2) := by decide +kernel
theorem d_la_law_219 : decode code 219 = .ok (.aload_n 2, 1) := by decide +kernel
theorem d_la_law_220 : decode code 220 = .ok (.aload_n 0, 1) := by decide +kernel
theorem d_la_law_221 : decode code 221 = .ok (.iload 4, 2) := by decide +kernel
theorem d_la_law_223 : decode code 223 = .ok (.iconst 1, 1) := by decide +kernel
theorem d_la_law_224 : decode code 224 = .ok (.iadd, 1) := by decide +kernel
theorem d_la_law_225 : decode code 225 = .ok (.iaload, 1) := by decide +kernel
theorem d_la_law_226 : decode code 226 = .ok (.aload_n 0, 1) := by decide +kernel
theorem d_la_law_227 : decode code 227 = .ok (.iload 4, 2) := by decide +kernel
theorem d_la_law_229 : decode code 229 = .ok (.iconst 2, 1) := by decide +kernel
theorem d_la_law_230 : decode code 230 = .ok (.iadd, 1) := by decide +kernel
theorem d_la_law_231 : decode code 231 = .ok (.iaload, 1) := by decide +kernel
theorem d_la_law_232 : decode code 232 = .ok (.aload_n 0, 1) := by decide +kernel
theorem d_la_law_233 : decode code 233 = .ok (.iload 4, 2) := by decide +kernel
theorem d_la_law_235 : decode code 235 = .ok (.iconst 3, 1) := by decide +kernel
theorem d_la_law_236 : decode code 236 = .ok (.iadd, 1) := by decide +kernel
theorem d_la_law_237 : decode code 237 = .ok (.iaload, 1) := by decide +kernel
theorem d_la_law_238 : decode code 238 = .ok (.aload_n 0, 1) := by decide +kernel
theorem d_la_law_239 : decode code 239 = .ok (.iload 4, 2) := by decide +kernel
theorem d_la_law_241 : decode code 241 = .ok (.iconst 4, 1) := by decide +kernel
theorem d_la_law_242 : decode code 242 = .ok (.iadd, 1) := by decide +kernel
theorem d_la_law_243 : decode code 243 = .ok (.iaload, 1) := by decide +kernel
theorem d_la_law_244 : decode code 244 = .ok (.invokevirtual 93, 3) := by decide +kernel
theorem d_la_law_247 : decode code 247 = .ok (.istore 6, 2) := by decide +kernel
theorem d_la_law_249 : decode code 249 = .ok (.aload_n 2, 1) := by decide +kernel
theorem d_la_law_250 : decode code 250 = .ok (.invokevirtual 87, 3) := by decide +kernel
theorem d_la_law_253 : decode code 253 = .ok (.iload 5, 2) := by decide +kernel
theorem d_la_law_255 : decode code 255 = .ok (.if_icmp .eq 5, 3) := by decide +kernel
theorem d_la_law_258 : decode code 258 = .ok (.iconst 0, 1) := by decide +kernel
theorem d_la_law_259 : decode code 259 = .ok (.ireturn, 1) := by decide +kernel
theorem d_la_law_260 : decode code 260 = .ok (.iload 5, 2) := by decide +kernel
theorem d_la_law_262 : decode code 262 = .ok (.ifCond .ne 22, 3) := by decide +kernel
theorem d_la_law_265 : decode code 265 = .ok (.aload_n 3, 1) := by decide +kernel
theorem d_la_law_266 : decode code 266 = .ok (.iconst 0, 1) := by decide +kernel
theorem d_la_law_267 : decode code 267 = .ok (.laload, 1) := by decide +kernel
theorem d_la_law_268 : decode code 268 = .ok (.iload 6, 2) := by decide +kernel
theorem d_la_law_270 : decode code 270 = .ok (.ifCond .eq 7, 3) := by decide +kernel
theorem d_la_law_273 : decode code 273 = .ok (.lconst 1, 1) := by decide +kernel
theorem d_la_law_274 : decode code 274 = .ok (.goto 4, 3) := by decide +kernel
theorem d_la_law_277 : decode code 277 = .ok (.lconst 0, 1) := by decide +kernel
theorem d_la_law_278 : decode code 278 = .ok (.lcmp, 1) := by decide +kernel
theorem d_la_law_279 : decode code 279 = .ok (.ifCond .eq 5, 3) := by decide +kernel
theorem d_la_law_282 : decode code 282 = .ok (.iconst 0, 1) := by decide +kernel
theorem d_la_law_283 : decode code 283 = .ok (.ireturn, 1) := by decide +kernel
theorem d_la_law_284 : decode code 284 = .ok (.goto 887, 3) := by decide +kernel
theorem d_la_law_287 : decode code 287 = .ok (.aload_n 1, 1) := by decide +kernel
theorem d_la_law_288 : decode code 288 = .ok (.invokevirtual 94, 3) := by decide +kernel
theorem d_la_law_291 : decode code 291 = .ok (.aload_n 2, 1) := by decide +kernel
theorem d_la_law_292 : decode code 292 = .ok (.invokevirtual 97, 3) := by decide +kernel
theorem d_la_law_295 : decode code 295 = .ok (.if_icmp .eq 876, 3) := by decide +kernel
theorem d_la_law_298 : decode code 298 = .ok (.iconst 0, 1) := by decide +kernel
theorem d_la_law_299 : decode code 299 = .ok (.ireturn, 1) := by decide +kernel
theorem d_la_law_300 : decode code 300 = .ok (.aload_n 1, 1) := by decide +kernel
theorem d_la_law_301 : decode code 301 = .ok (.aload_n 0, 1) := by decide +kernel
theorem d_la_law_302 : decode code 302 = .ok (.iload 4, 2) := by decide +kernel
theorem d_la_law_304 : decode code 304 = .ok (.iconst 1, 1) := by decide +kernel
theorem d_la_law_305 : decode code 305 = .ok (.iadd, 1) := by decide +kernel
theorem d_la_law_306 : decode code 306 = .ok (.iaload, 1) := by decide +kernel
theorem d_la_law_307 : decode code 307 = .ok (.invokestatic 98, 3) := by decide +kernel
theorem d_la_law_310 : decode code 310 = .ok (.istore 5, 2) := by decide +kernel
theorem d_la_law_312 : decode code 312 = .ok (.aload_n 2, 1) := by decide +kernel
theorem d_la_law_313 : decode code 313 = .ok (.aload_n 0, 1) := by decide +kernel
theorem d_la_law_314 : decode code 314 = .ok (.iload 4, 2) := by decide +kernel
theorem d_la_law_316 : decode code 316 = .ok (.iconst 1, 1) := by decide +kernel
theorem d_la_law_317 : decode code 317 = .ok (.iadd, 1) := by decide +kernel
theorem d_la_law_318 : decode code 318 = .ok (.iaload, 1) := by decide +kernel
