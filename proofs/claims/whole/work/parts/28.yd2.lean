theorem dY_added_107 : decode cY_added 107 = .ok (.lstore 13, 2) := by decide +kernel
theorem dY_added_109 : decode cY_added 109 = .ok (.iload 12, 2) := by decide +kernel
theorem dY_added_111 : decode cY_added 111 = .ok (.iload 8, 2) := by decide +kernel
theorem dY_added_113 : decode cY_added 113 = .ok (.if_icmp .gt 18, 3) := by decide +kernel
theorem dY_added_116 : decode cY_added 116 = .ok (.iload 12, 2) := by decide +kernel
theorem dY_added_118 : decode cY_added 118 = .ok (.iload 8, 2) := by decide +kernel
theorem dY_added_120 : decode cY_added 120 = .ok (.if_icmp .ne 15, 3) := by decide +kernel
theorem dY_added_123 : decode cY_added 123 = .ok (.lload 13, 2) := by decide +kernel
theorem dY_added_125 : decode cY_added 125 = .ok (.lload 9, 2) := by decide +kernel
theorem dY_added_127 : decode cY_added 127 = .ok (.lcmp, 1) := by decide +kernel
theorem dY_added_128 : decode cY_added 128 = .ok (.ifCond .le 7, 3) := by decide +kernel
theorem dY_added_131 : decode cY_added 131 = .ok (.iconst 1, 1) := by decide +kernel
theorem dY_added_132 : decode cY_added 132 = .ok (.goto 4, 3) := by decide +kernel
theorem dY_added_135 : decode cY_added 135 = .ok (.iconst 0, 1) := by decide +kernel
theorem dY_added_136 : decode cY_added 136 = .ok (.istore 15, 2) := by decide +kernel
theorem dY_added_138 : decode cY_added 138 = .ok (.iload 15, 2) := by decide +kernel
theorem dY_added_140 : decode cY_added 140 = .ok (.ifCond .eq 8, 3) := by decide +kernel
theorem dY_added_143 : decode cY_added 143 = .ok (.lload 13, 2) := by decide +kernel
theorem dY_added_145 : decode cY_added 145 = .ok (.goto 5, 3) := by decide +kernel
theorem dY_added_148 : decode cY_added 148 = .ok (.lload 9, 2) := by decide +kernel
theorem dY_added_150 : decode cY_added 150 = .ok (.bipush 6, 2) := by decide +kernel
theorem dY_added_152 : decode cY_added 152 = .ok (.lshl, 1) := by decide +kernel
theorem dY_added_153 : decode cY_added 153 = .ok (.lstore 16, 2) := by decide +kernel
theorem dY_added_155 : decode cY_added 155 = .ok (.iload 15, 2) := by decide +kernel
theorem dY_added_157 : decode cY_added 157 = .ok (.ifCond .eq 8, 3) := by decide +kernel
theorem dY_added_160 : decode cY_added 160 = .ok (.lload 9, 2) := by decide +kernel
theorem dY_added_162 : decode cY_added 162 = .ok (.goto 5, 3) := by decide +kernel
theorem dY_added_165 : decode cY_added 165 = .ok (.lload 13, 2) := by decide +kernel
theorem dY_added_167 : decode cY_added 167 = .ok (.bipush 6, 2) := by decide +kernel
theorem dY_added_169 : decode cY_added 169 = .ok (.lshl, 1) := by decide +kernel
theorem dY_added_170 : decode cY_added 170 = .ok (.lstore 18, 2) := by decide +kernel
theorem dY_added_172 : decode cY_added 172 = .ok (.iload 15, 2) := by decide +kernel
theorem dY_added_174 : decode cY_added 174 = .ok (.ifCond .eq 11, 3) := by decide +kernel
theorem dY_added_177 : decode cY_added 177 = .ok (.iload 12, 2) := by decide +kernel
theorem dY_added_179 : decode cY_added 179 = .ok (.iload 8, 2) := by decide +kernel
theorem dY_added_181 : decode cY_added 181 = .ok (.isub, 1) := by decide +kernel
theorem dY_added_182 : decode cY_added 182 = .ok (.goto 8, 3) := by decide +kernel
theorem dY_added_185 : decode cY_added 185 = .ok (.iload 8, 2) := by decide +kernel
theorem dY_added_187 : decode cY_added 187 = .ok (.iload 12, 2) := by decide +kernel
theorem dY_added_189 : decode cY_added 189 = .ok (.isub, 1) := by decide +kernel
theorem dY_added_190 : decode cY_added 190 = .ok (.istore 20, 2) := by decide +kernel
theorem dY_added_192 : decode cY_added 192 = .ok (.iload 20, 2) := by decide +kernel
theorem dY_added_194 : decode cY_added 194 = .ok (.bipush 62, 2) := by decide +kernel
theorem dY_added_196 : decode cY_added 196 = .ok (.if_icmp .le 7, 3) := by decide +kernel
theorem dY_added_199 : decode cY_added 199 = .ok (.lconst 0, 1) := by decide +kernel
theorem dY_added_200 : decode cY_added 200 = .ok (.goto 8, 3) := by decide +kernel
theorem dY_added_203 : decode cY_added 203 = .ok (.lload 18, 2) := by decide +kernel
theorem dY_added_205 : decode cY_added 205 = .ok (.iload 20, 2) := by decide +kernel
theorem dY_added_207 : decode cY_added 207 = .ok (.lshr, 1) := by decide +kernel
theorem dY_added_208 : decode cY_added 208 = .ok (.lstore 21, 2) := by decide +kernel
theorem dY_added_210 : decode cY_added 210 = .ok (.iload 20, 2) := by decide +kernel
theorem dY_added_212 : decode cY_added 212 = .ok (.bipush 62, 2) := by decide +kernel
theorem dY_added_214 : decode cY_added 214 = .ok (.if_icmp .gt 14, 3) := by decide +kernel
theorem dY_added_217 : decode cY_added 217 = .ok (.lload 21, 2) := by decide +kernel
theorem dY_added_219 : decode cY_added 219 = .ok (.iload 20, 2) := by decide +kernel
theorem dY_added_221 : decode cY_added 221 = .ok (.lshl, 1) := by decide +kernel
theorem dY_added_222 : decode cY_added 222 = .ok (.lload 18, 2) := by decide +kernel
theorem dY_added_224 : decode cY_added 224 = .ok (.lcmp, 1) := by decide +kernel
theorem dY_added_225 : decode cY_added 225 = .ok (.ifCond .eq 7, 3) := by decide +kernel
theorem dY_added_228 : decode cY_added 228 = .ok (.iconst 1, 1) := by decide +kernel
theorem dY_added_229 : decode cY_added 229 = .ok (.goto 4, 3) := by decide +kernel
theorem dY_added_232 : decode cY_added 232 = .ok (.iconst 0, 1) := by decide +kernel
theorem dY_added_233 : decode cY_added 233 = .ok (.istore 23, 2) := by decide +kernel
theorem dY_added_235 : decode cY_added 235 = .ok (.iload 7, 2) := by decide +kernel
theorem dY_added_237 : decode cY_added 237 = .ok (.iload 11, 2) := by decide +kernel
theorem dY_added_239 : decode cY_added 239 = .ok (.if_icmp .ne 11, 3) := by decide +kernel
theorem dY_added_242 : decode cY_added 242 = .ok (.lload 16, 2) := by decide +kernel
theorem dY_added_244 : decode cY_added 244 = .ok (.lload 21, 2) := by decide +kernel
theorem dY_added_246 : decode cY_added 246 = .ok (.ladd, 1) := by decide +kernel
theorem dY_added_247 : decode cY_added 247 = .ok (.goto 19, 3) := by decide +kernel
theorem dY_added_250 : decode cY_added 250 = .ok (.lload 16, 2) := by decide +kernel
theorem dY_added_252 : decode cY_added 252 = .ok (.lload 21, 2) := by decide +kernel
theorem dY_added_254 : decode cY_added 254 = .ok (.lsub, 1) := by decide +kernel
theorem dY_added_255 : decode cY_added 255 = .ok (.iload 23, 2) := by decide +kernel
theorem dY_added_257 : decode cY_added 257 = .ok (.ifCond .eq 7, 3) := by decide +kernel
theorem dY_added_260 : decode cY_added 260 = .ok (.lconst 1, 1) := by decide +kernel
theorem dY_added_261 : decode cY_added 261 = .ok (.goto 4, 3) := by decide +kernel
theorem dY_added_264 : decode cY_added 264 = .ok (.lconst 0, 1) := by decide +kernel
theorem dY_added_265 : decode cY_added 265 = .ok (.lsub, 1) := by decide +kernel
theorem dY_added_266 : decode cY_added 266 = .ok (.lstore 24, 2) := by decide +kernel
theorem dY_added_268 : decode cY_added 268 = .ok (.aload_n 0, 1) := by decide +kernel
theorem dY_added_269 : decode cY_added 269 = .ok (.iload_n 1, 1) := by decide +kernel
theorem dY_added_270 : decode cY_added 270 = .ok (.iload 15, 2) := by decide +kernel
theorem dY_added_272 : decode cY_added 272 = .ok (.ifCond .eq 8, 3) := by decide +kernel
theorem dY_added_275 : decode cY_added 275 = .ok (.iload 11, 2) := by decide +kernel
theorem dY_added_277 : decode cY_added 277 = .ok (.goto 5, 3) := by decide +kernel
theorem dY_added_280 : decode cY_added 280 = .ok (.iload 7, 2) := by decide +kernel
theorem dY_added_282 : decode cY_added 282 = .ok (.lload 24, 2) := by decide +kernel
theorem dY_added_284 : decode cY_added 284 = .ok (.iload 15, 2) := by decide +kernel
theorem dY_added_286 : decode cY_added 286 = .ok (.ifCond .eq 8, 3) := by decide +kernel
theorem dY_added_289 : decode cY_added 289 = .ok (.iload 12, 2) := by decide +kernel
theorem dY_added_291 : decode cY_added 291 = .ok (.goto 5, 3) := by decide +kernel
theorem dY_added_294 : decode cY_added 294 = .ok (.iload 8, 2) := by decide +kernel
theorem dY_added_296 : decode cY_added 296 = .ok (.sipush 128, 3) := by decide +kernel
theorem dY_added_299 : decode cY_added 299 = .ok (.isub, 1) := by decide +kernel
theorem dY_added_300 : decode cY_added 300 = .ok (.iload 6, 2) := by decide +kernel
theorem dY_added_302 : decode cY_added 302 = .ok (.isub, 1) := by decide +kernel
theorem dY_added_303 : decode cY_added 303 = .ok (.bipush 6, 2) := by decide +kernel
theorem dY_added_305 : decode cY_added 305 = .ok (.isub, 1) := by decide +kernel
theorem dY_added_306 : decode cY_added 306 = .ok (.iload 23, 2) := by decide +kernel
theorem dY_added_308 : decode cY_added 308 = .ok (.invokevirtual 74, 3) := by decide +kernel
theorem dY_added_311 : decode cY_added 311 = .ok (.lreturn, 1) := by decide +kernel
theorem dY_two_0 : decode cY_two 0 = .ok (.iload_n 1, 1) := by decide +kernel
theorem dY_two_1 : decode cY_two 1 = .ok (.invokestatic 78, 3) := by decide +kernel
theorem dY_two_4 : decode cY_two 4 = .ok (.ifCond .eq 25, 3) := by decide +kernel
theorem dY_two_7 : decode cY_two 7 = .ok (.iload_n 2, 1) := by decide +kernel
theorem dY_two_8 : decode cY_two 8 = .ok (.invokestatic 82, 3) := by decide +kernel
theorem dY_two_11 : decode cY_two 11 = .ok (.ifCond .eq 18, 3) := by decide +kernel
theorem dY_two_14 : decode cY_two 14 = .ok (.iload_n 3, 1) := by decide +kernel
theorem dY_two_15 : decode cY_two 15 = .ok (.invokestatic 82, 3) := by decide +kernel
theorem dY_two_18 : decode cY_two 18 = .ok (.ifCond .eq 11, 3) := by decide +kernel
theorem dY_two_21 : decode cY_two 21 = .ok (.iload 4, 2) := by decide +kernel
theorem dY_two_23 : decode cY_two 23 = .ok (.invokestatic 82, 3) := by decide +kernel
theorem dY_two_26 : decode cY_two 26 = .ok (.ifCond .ne 6, 3) := by decide +kernel
theorem dY_two_29 : decode cY_two 29 = .ok (.bipush (-5), 2) := by decide +kernel
theorem dY_two_31 : decode cY_two 31 = .ok (.ireturn, 1) := by decide +kernel
theorem dY_two_32 : decode cY_two 32 = .ok (.aload_n 0, 1) := by decide +kernel
theorem dY_two_33 : decode cY_two 33 = .ok (.iload_n 1, 1) := by decide +kernel
theorem dY_two_34 : decode cY_two 34 = .ok (.iload_n 2, 1) := by decide +kernel
theorem dY_two_35 : decode cY_two 35 = .ok (.invokevirtual 85, 3) := by decide +kernel
theorem dY_two_38 : decode cY_two 38 = .ok (.invokestatic 89, 3) := by decide +kernel
theorem dY_two_41 : decode cY_two 41 = .ok (.ifCond .ne 15, 3) := by decide +kernel
theorem dY_two_44 : decode cY_two 44 = .ok (.aload_n 0, 1) := by decide +kernel
theorem dY_two_45 : decode cY_two 45 = .ok (.iload_n 1, 1) := by decide +kernel
theorem dY_two_46 : decode cY_two 46 = .ok (.iload_n 3, 1) := by decide +kernel
theorem dY_two_47 : decode cY_two 47 = .ok (.invokevirtual 85, 3) := by decide +kernel
theorem dY_two_50 : decode cY_two 50 = .ok (.invokestatic 89, 3) := by decide +kernel
theorem dY_two_53 : decode cY_two 53 = .ok (.ifCond .eq 7, 3) := by decide +kernel
theorem dY_two_56 : decode cY_two 56 = .ok (.iconst (-1), 1) := by decide +kernel
theorem dY_two_57 : decode cY_two 57 = .ok (.goto 4, 3) := by decide +kernel
theorem dY_two_60 : decode cY_two 60 = .ok (.iconst 0, 1) := by decide +kernel
theorem dY_two_61 : decode cY_two 61 = .ok (.ireturn, 1) := by decide +kernel
theorem dY_sum_0 : decode cY_sum 0 = .ok (.aload_n 0, 1) := by decide +kernel
theorem dY_sum_1 : decode cY_sum 1 = .ok (.iload_n 1, 1) := by decide +kernel
theorem dY_sum_2 : decode cY_sum 2 = .ok (.iload_n 2, 1) := by decide +kernel
theorem dY_sum_3 : decode cY_sum 3 = .ok (.iload_n 3, 1) := by decide +kernel
theorem dY_sum_4 : decode cY_sum 4 = .ok (.iload 4, 2) := by decide +kernel
theorem dY_sum_6 : decode cY_sum 6 = .ok (.invokevirtual 92, 3) := by decide +kernel
theorem dY_sum_9 : decode cY_sum 9 = .ok (.istore 5, 2) := by decide +kernel
theorem dY_sum_11 : decode cY_sum 11 = .ok (.iload 5, 2) := by decide +kernel
theorem dY_sum_13 : decode cY_sum 13 = .ok (.ifCond .ge 8, 3) := by decide +kernel
theorem dY_sum_16 : decode cY_sum 16 = .ok (.iload 5, 2) := by decide +kernel
theorem dY_sum_18 : decode cY_sum 18 = .ok (.goto 26, 3) := by decide +kernel
theorem dY_sum_21 : decode cY_sum 21 = .ok (.aload_n 0, 1) := by decide +kernel
theorem dY_sum_22 : decode cY_sum 22 = .ok (.aload_n 0, 1) := by decide +kernel
theorem dY_sum_23 : decode cY_sum 23 = .ok (.iload_n 1, 1) := by decide +kernel
theorem dY_sum_24 : decode cY_sum 24 = .ok (.aload_n 0, 1) := by decide +kernel
theorem dY_sum_25 : decode cY_sum 25 = .ok (.iload_n 1, 1) := by decide +kernel
theorem dY_sum_26 : decode cY_sum 26 = .ok (.iload_n 3, 1) := by decide +kernel
theorem dY_sum_27 : decode cY_sum 27 = .ok (.invokevirtual 85, 3) := by decide +kernel
theorem dY_sum_30 : decode cY_sum 30 = .ok (.aload_n 0, 1) := by decide +kernel
theorem dY_sum_31 : decode cY_sum 31 = .ok (.iload_n 1, 1) := by decide +kernel
theorem dY_sum_32 : decode cY_sum 32 = .ok (.iload_n 2, 1) := by decide +kernel
theorem dY_sum_33 : decode cY_sum 33 = .ok (.invokevirtual 85, 3) := by decide +kernel
theorem dY_sum_36 : decode cY_sum 36 = .ok (.invokevirtual 96, 3) := by decide +kernel
theorem dY_sum_39 : decode cY_sum 39 = .ok (.iload 4, 2) := by decide +kernel
theorem dY_sum_41 : decode cY_sum 41 = .ok (.invokevirtual 100, 3) := by decide +kernel
theorem dY_sum_44 : decode cY_sum 44 = .ok (.ireturn, 1) := by decide +kernel
theorem dY_less_0 : decode cY_less 0 = .ok (.aload_n 0, 1) := by decide +kernel
theorem dY_less_1 : decode cY_less 1 = .ok (.iload_n 1, 1) := by decide +kernel
theorem dY_less_2 : decode cY_less 2 = .ok (.iload_n 2, 1) := by decide +kernel
theorem dY_less_3 : decode cY_less 3 = .ok (.iload_n 3, 1) := by decide +kernel
theorem dY_less_4 : decode cY_less 4 = .ok (.iload 4, 2) := by decide +kernel
theorem dY_less_6 : decode cY_less 6 = .ok (.invokevirtual 92, 3) := by decide +kernel
theorem dY_less_9 : decode cY_less 9 = .ok (.istore 5, 2) := by decide +kernel
theorem dY_less_11 : decode cY_less 11 = .ok (.iload 5, 2) := by decide +kernel
theorem dY_less_13 : decode cY_less 13 = .ok (.ifCond .ge 8, 3) := by decide +kernel
theorem dY_less_16 : decode cY_less 16 = .ok (.iload 5, 2) := by decide +kernel
theorem dY_less_18 : decode cY_less 18 = .ok (.goto 29, 3) := by decide +kernel
theorem dY_less_21 : decode cY_less 21 = .ok (.aload_n 0, 1) := by decide +kernel
theorem dY_less_22 : decode cY_less 22 = .ok (.aload_n 0, 1) := by decide +kernel
theorem dY_less_23 : decode cY_less 23 = .ok (.iload_n 1, 1) := by decide +kernel
theorem dY_less_24 : decode cY_less 24 = .ok (.aload_n 0, 1) := by decide +kernel
theorem dY_less_25 : decode cY_less 25 = .ok (.iload_n 1, 1) := by decide +kernel
theorem dY_less_26 : decode cY_less 26 = .ok (.iload_n 3, 1) := by decide +kernel
theorem dY_less_27 : decode cY_less 27 = .ok (.invokevirtual 85, 3) := by decide +kernel
theorem dY_less_30 : decode cY_less 30 = .ok (.aload_n 0, 1) := by decide +kernel
theorem dY_less_31 : decode cY_less 31 = .ok (.iload_n 1, 1) := by decide +kernel
theorem dY_less_32 : decode cY_less 32 = .ok (.iload_n 2, 1) := by decide +kernel
theorem dY_less_33 : decode cY_less 33 = .ok (.invokevirtual 85, 3) := by decide +kernel
theorem dY_less_36 : decode cY_less 36 = .ok (.invokestatic 104, 3) := by decide +kernel
theorem dY_less_39 : decode cY_less 39 = .ok (.invokevirtual 96, 3) := by decide +kernel
theorem dY_less_42 : decode cY_less 42 = .ok (.iload 4, 2) := by decide +kernel
theorem dY_less_44 : decode cY_less 44 = .ok (.invokevirtual 100, 3) := by decide +kernel
theorem dY_less_47 : decode cY_less 47 = .ok (.ireturn, 1) := by decide +kernel
theorem dY_product_0 : decode cY_product 0 = .ok (.aload_n 0, 1) := by decide +kernel
theorem dY_product_1 : decode cY_product 1 = .ok (.iload_n 1, 1) := by decide +kernel
theorem dY_product_2 : decode cY_product 2 = .ok (.iload_n 2, 1) := by decide +kernel
theorem dY_product_3 : decode cY_product 3 = .ok (.iload_n 3, 1) := by decide +kernel
theorem dY_product_4 : decode cY_product 4 = .ok (.iload 4, 2) := by decide +kernel
theorem dY_product_6 : decode cY_product 6 = .ok (.invokevirtual 92, 3) := by decide +kernel
theorem dY_product_9 : decode cY_product 9 = .ok (.istore 5, 2) := by decide +kernel
theorem dY_product_11 : decode cY_product 11 = .ok (.iload 5, 2) := by decide +kernel
theorem dY_product_13 : decode cY_product 13 = .ok (.ifCond .ge 6, 3) := by decide +kernel
theorem dY_product_16 : decode cY_product 16 = .ok (.iload 5, 2) := by decide +kernel
theorem dY_product_18 : decode cY_product 18 = .ok (.ireturn, 1) := by decide +kernel
theorem dY_product_19 : decode cY_product 19 = .ok (.aload_n 0, 1) := by decide +kernel
theorem dY_product_20 : decode cY_product 20 = .ok (.iload_n 1, 1) := by decide +kernel
theorem dY_product_21 : decode cY_product 21 = .ok (.aload_n 0, 1) := by decide +kernel
theorem dY_product_22 : decode cY_product 22 = .ok (.iload_n 1, 1) := by decide +kernel
theorem dY_product_23 : decode cY_product 23 = .ok (.iload_n 2, 1) := by decide +kernel
theorem dY_product_24 : decode cY_product 24 = .ok (.invokevirtual 85, 3) := by decide +kernel
theorem dY_product_27 : decode cY_product 27 = .ok (.invokevirtual 70, 3) := by decide +kernel
theorem dY_product_30 : decode cY_product 30 = .ok (.aload_n 0, 1) := by decide +kernel
theorem dY_product_31 : decode cY_product 31 = .ok (.getfield 44, 3) := by decide +kernel
theorem dY_product_34 : decode cY_product 34 = .ok (.lstore 6, 2) := by decide +kernel
theorem dY_product_36 : decode cY_product 36 = .ok (.aload_n 0, 1) := by decide +kernel
theorem dY_product_37 : decode cY_product 37 = .ok (.getfield 34, 3) := by decide +kernel
theorem dY_product_40 : decode cY_product 40 = .ok (.istore 8, 2) := by decide +kernel
theorem dY_product_42 : decode cY_product 42 = .ok (.aload_n 0, 1) := by decide +kernel
theorem dY_product_43 : decode cY_product 43 = .ok (.getfield 29, 3) := by decide +kernel
theorem dY_product_46 : decode cY_product 46 = .ok (.istore 9, 2) := by decide +kernel
theorem dY_product_48 : decode cY_product 48 = .ok (.aload_n 0, 1) := by decide +kernel
theorem dY_product_49 : decode cY_product 49 = .ok (.iload_n 1, 1) := by decide +kernel
theorem dY_product_50 : decode cY_product 50 = .ok (.aload_n 0, 1) := by decide +kernel
theorem dY_product_51 : decode cY_product 51 = .ok (.iload_n 1, 1) := by decide +kernel
theorem dY_product_52 : decode cY_product 52 = .ok (.iload_n 3, 1) := by decide +kernel
theorem dY_product_53 : decode cY_product 53 = .ok (.invokevirtual 85, 3) := by decide +kernel
theorem dY_product_56 : decode cY_product 56 = .ok (.invokevirtual 70, 3) := by decide +kernel
theorem dY_product_59 : decode cY_product 59 = .ok (.aload_n 0, 1) := by decide +kernel
theorem dY_product_60 : decode cY_product 60 = .ok (.iconst 0, 1) := by decide +kernel
theorem dY_product_61 : decode cY_product 61 = .ok (.putfield 48, 3) := by decide +kernel
theorem dY_product_64 : decode cY_product 64 = .ok (.aload_n 0, 1) := by decide +kernel
theorem dY_product_65 : decode cY_product 65 = .ok (.iconst 0, 1) := by decide +kernel
theorem dY_product_66 : decode cY_product 66 = .ok (.putfield 51, 3) := by decide +kernel
theorem dY_product_69 : decode cY_product 69 = .ok (.lload 6, 2) := by decide +kernel
theorem dY_product_71 : decode cY_product 71 = .ok (.lconst 0, 1) := by decide +kernel
theorem dY_product_72 : decode cY_product 72 = .ok (.lcmp, 1) := by decide +kernel
theorem dY_product_73 : decode cY_product 73 = .ok (.ifCond .eq 12, 3) := by decide +kernel
theorem dY_product_76 : decode cY_product 76 = .ok (.aload_n 0, 1) := by decide +kernel
theorem dY_product_77 : decode cY_product 77 = .ok (.getfield 44, 3) := by decide +kernel
theorem dY_product_80 : decode cY_product 80 = .ok (.lconst 0, 1) := by decide +kernel
theorem dY_product_81 : decode cY_product 81 = .ok (.lcmp, 1) := by decide +kernel
theorem dY_product_82 : decode cY_product 82 = .ok (.ifCond .ne 11, 3) := by decide +kernel
theorem dY_product_85 : decode cY_product 85 = .ok (.aload_n 0, 1) := by decide +kernel
theorem dY_product_86 : decode cY_product 86 = .ok (.lconst 0, 1) := by decide +kernel
theorem dY_product_87 : decode cY_product 87 = .ok (.iload 4, 2) := by decide +kernel
theorem dY_product_89 : decode cY_product 89 = .ok (.invokevirtual 100, 3) := by decide +kernel
theorem dY_product_92 : decode cY_product 92 = .ok (.ireturn, 1) := by decide +kernel
theorem dY_product_93 : decode cY_product 93 = .ok (.iload 9, 2) := by decide +kernel
theorem dY_product_95 : decode cY_product 95 = .ok (.aload_n 0, 1) := by decide +kernel
theorem dY_product_96 : decode cY_product 96 = .ok (.getfield 29, 3) := by decide +kernel
theorem dY_product_99 : decode cY_product 99 = .ok (.if_icmp .eq 7, 3) := by decide +kernel
theorem dY_product_102 : decode cY_product 102 = .ok (.iconst 1, 1) := by decide +kernel
theorem dY_product_103 : decode cY_product 103 = .ok (.goto 4, 3) := by decide +kernel
theorem dY_product_106 : decode cY_product 106 = .ok (.iconst 0, 1) := by decide +kernel
theorem dY_product_107 : decode cY_product 107 = .ok (.istore 10, 2) := by decide +kernel
theorem dY_product_109 : decode cY_product 109 = .ok (.iload 8, 2) := by decide +kernel
theorem dY_product_111 : decode cY_product 111 = .ok (.aload_n 0, 1) := by decide +kernel
theorem dY_product_112 : decode cY_product 112 = .ok (.getfield 34, 3) := by decide +kernel
theorem dY_product_115 : decode cY_product 115 = .ok (.iadd, 1) := by decide +kernel
theorem dY_product_116 : decode cY_product 116 = .ok (.sipush 256, 3) := by decide +kernel
theorem dY_product_119 : decode cY_product 119 = .ok (.isub, 1) := by decide +kernel
theorem dY_product_120 : decode cY_product 120 = .ok (.istore 8, 2) := by decide +kernel
theorem dY_product_122 : decode cY_product 122 = .ok (.iload_n 1, 1) := by decide +kernel
theorem dY_product_123 : decode cY_product 123 = .ok (.iconst 4, 1) := by decide +kernel
theorem dY_product_124 : decode cY_product 124 = .ok (.if_icmp .ne 36, 3) := by decide +kernel
theorem dY_product_127 : decode cY_product 127 = .ok (.aload_n 0, 1) := by decide +kernel
theorem dY_product_128 : decode cY_product 128 = .ok (.aload_n 0, 1) := by decide +kernel
theorem dY_product_129 : decode cY_product 129 = .ok (.iconst 4, 1) := by decide +kernel
theorem dY_product_130 : decode cY_product 130 = .ok (.iload 10, 2) := by decide +kernel
theorem dY_product_132 : decode cY_product 132 = .ok (.lload 6, 2) := by decide +kernel
theorem dY_product_134 : decode cY_product 134 = .ok (.bipush 32, 2) := by decide +kernel
theorem dY_product_136 : decode cY_product 136 = .ok (.lshr, 1) := by decide +kernel
theorem dY_product_137 : decode cY_product 137 = .ok (.aload_n 0, 1) := by decide +kernel
theorem dY_product_138 : decode cY_product 138 = .ok (.getfield 44, 3) := by decide +kernel
theorem dY_product_141 : decode cY_product 141 = .ok (.bipush 32, 2) := by decide +kernel
theorem dY_product_143 : decode cY_product 143 = .ok (.lshr, 1) := by decide +kernel
theorem dY_product_144 : decode cY_product 144 = .ok (.lmul, 1) := by decide +kernel
theorem dY_product_145 : decode cY_product 145 = .ok (.iload 8, 2) := by decide +kernel
theorem dY_product_147 : decode cY_product 147 = .ok (.bipush 48, 2) := by decide +kernel
theorem dY_product_149 : decode cY_product 149 = .ok (.isub, 1) := by decide +kernel
theorem dY_product_150 : decode cY_product 150 = .ok (.iconst 0, 1) := by decide +kernel
theorem dY_product_151 : decode cY_product 151 = .ok (.invokevirtual 74, 3) := by decide +kernel
theorem dY_product_154 : decode cY_product 154 = .ok (.iload 4, 2) := by decide +kernel
theorem dY_product_156 : decode cY_product 156 = .ok (.invokevirtual 100, 3) := by decide +kernel
theorem dY_product_159 : decode cY_product 159 = .ok (.ireturn, 1) := by decide +kernel
theorem dY_product_160 : decode cY_product 160 = .ok (.ldc2_w 108, 3) := by decide +kernel
theorem dY_product_163 : decode cY_product 163 = .ok (.lstore 11, 2) := by decide +kernel
theorem dY_product_165 : decode cY_product 165 = .ok (.lload 6, 2) := by decide +kernel
theorem dY_product_167 : decode cY_product 167 = .ok (.lload 11, 2) := by decide +kernel
theorem dY_product_169 : decode cY_product 169 = .ok (.land, 1) := by decide +kernel
theorem dY_product_170 : decode cY_product 170 = .ok (.aload_n 0, 1) := by decide +kernel
theorem dY_product_171 : decode cY_product 171 = .ok (.getfield 44, 3) := by decide +kernel
theorem dY_product_174 : decode cY_product 174 = .ok (.lload 11, 2) := by decide +kernel
theorem dY_product_176 : decode cY_product 176 = .ok (.land, 1) := by decide +kernel
theorem dY_product_177 : decode cY_product 177 = .ok (.lmul, 1) := by decide +kernel
theorem dY_product_178 : decode cY_product 178 = .ok (.lstore 13, 2) := by decide +kernel
theorem dY_product_180 : decode cY_product 180 = .ok (.lload 6, 2) := by decide +kernel
theorem dY_product_182 : decode cY_product 182 = .ok (.bipush 28, 2) := by decide +kernel
theorem dY_product_184 : decode cY_product 184 = .ok (.lshr, 1) := by decide +kernel
theorem dY_product_185 : decode cY_product 185 = .ok (.aload_n 0, 1) := by decide +kernel
theorem dY_product_186 : decode cY_product 186 = .ok (.getfield 44, 3) := by decide +kernel
theorem dY_product_189 : decode cY_product 189 = .ok (.lload 11, 2) := by decide +kernel
theorem dY_product_191 : decode cY_product 191 = .ok (.land, 1) := by decide +kernel
theorem dY_product_192 : decode cY_product 192 = .ok (.lmul, 1) := by decide +kernel
theorem dY_product_193 : decode cY_product 193 = .ok (.lload 6, 2) := by decide +kernel
theorem dY_product_195 : decode cY_product 195 = .ok (.lload 11, 2) := by decide +kernel
theorem dY_product_197 : decode cY_product 197 = .ok (.land, 1) := by decide +kernel
theorem dY_product_198 : decode cY_product 198 = .ok (.aload_n 0, 1) := by decide +kernel
theorem dY_product_199 : decode cY_product 199 = .ok (.getfield 44, 3) := by decide +kernel
theorem dY_product_202 : decode cY_product 202 = .ok (.bipush 28, 2) := by decide +kernel
theorem dY_product_204 : decode cY_product 204 = .ok (.lshr, 1) := by decide +kernel
theorem dY_product_205 : decode cY_product 205 = .ok (.lmul, 1) := by decide +kernel
theorem dY_product_206 : decode cY_product 206 = .ok (.ladd, 1) := by decide +kernel
theorem dY_product_207 : decode cY_product 207 = .ok (.lload 13, 2) := by decide +kernel
theorem dY_product_209 : decode cY_product 209 = .ok (.bipush 28, 2) := by decide +kernel
theorem dY_product_211 : decode cY_product 211 = .ok (.lshr, 1) := by decide +kernel
theorem dY_product_212 : decode cY_product 212 = .ok (.ladd, 1) := by decide +kernel
theorem dY_product_213 : decode cY_product 213 = .ok (.lstore 15, 2) := by decide +kernel
theorem dY_product_215 : decode cY_product 215 = .ok (.lload 6, 2) := by decide +kernel
theorem dY_product_217 : decode cY_product 217 = .ok (.bipush 28, 2) := by decide +kernel
theorem dY_product_219 : decode cY_product 219 = .ok (.lshr, 1) := by decide +kernel
theorem dY_product_220 : decode cY_product 220 = .ok (.aload_n 0, 1) := by decide +kernel
theorem dY_product_221 : decode cY_product 221 = .ok (.getfield 44, 3) := by decide +kernel
theorem dY_product_224 : decode cY_product 224 = .ok (.bipush 28, 2) := by decide +kernel
theorem dY_product_226 : decode cY_product 226 = .ok (.lshr, 1) := by decide +kernel
theorem dY_product_227 : decode cY_product 227 = .ok (.lmul, 1) := by decide +kernel
theorem dY_product_228 : decode cY_product 228 = .ok (.lstore 17, 2) := by decide +kernel
theorem dY_product_230 : decode cY_product 230 = .ok (.lload 13, 2) := by decide +kernel
theorem dY_product_232 : decode cY_product 232 = .ok (.lload 11, 2) := by decide +kernel
theorem dY_product_234 : decode cY_product 234 = .ok (.land, 1) := by decide +kernel
theorem dY_product_235 : decode cY_product 235 = .ok (.lconst 0, 1) := by decide +kernel
theorem dY_product_236 : decode cY_product 236 = .ok (.lcmp, 1) := by decide +kernel
theorem dY_product_237 : decode cY_product 237 = .ok (.ifCond .ne 14, 3) := by decide +kernel
theorem dY_product_240 : decode cY_product 240 = .ok (.lload 15, 2) := by decide +kernel
theorem dY_product_242 : decode cY_product 242 = .ok (.ldc2_w 110, 3) := by decide +kernel
theorem dY_product_245 : decode cY_product 245 = .ok (.land, 1) := by decide +kernel
theorem dY_product_246 : decode cY_product 246 = .ok (.lconst 0, 1) := by decide +kernel
theorem dY_product_247 : decode cY_product 247 = .ok (.lcmp, 1) := by decide +kernel
theorem dY_product_248 : decode cY_product 248 = .ok (.ifCond .eq 7, 3) := by decide +kernel
theorem dY_product_251 : decode cY_product 251 = .ok (.iconst 1, 1) := by decide +kernel
theorem dY_product_252 : decode cY_product 252 = .ok (.goto 4, 3) := by decide +kernel
theorem dY_product_255 : decode cY_product 255 = .ok (.iconst 0, 1) := by decide +kernel
theorem dY_product_256 : decode cY_product 256 = .ok (.istore 19, 2) := by decide +kernel
theorem dY_product_258 : decode cY_product 258 = .ok (.aload_n 0, 1) := by decide +kernel
theorem dY_product_259 : decode cY_product 259 = .ok (.aload_n 0, 1) := by decide +kernel
theorem dY_product_260 : decode cY_product 260 = .ok (.bipush 8, 2) := by decide +kernel
theorem dY_product_262 : decode cY_product 262 = .ok (.iload 10, 2) := by decide +kernel
theorem dY_product_264 : decode cY_product 264 = .ok (.lload 17, 2) := by decide +kernel
theorem dY_product_266 : decode cY_product 266 = .ok (.bipush 6, 2) := by decide +kernel
theorem dY_product_268 : decode cY_product 268 = .ok (.lshl, 1) := by decide +kernel
theorem dY_product_269 : decode cY_product 269 = .ok (.lload 15, 2) := by decide +kernel
theorem dY_product_271 : decode cY_product 271 = .ok (.bipush 22, 2) := by decide +kernel
theorem dY_product_273 : decode cY_product 273 = .ok (.lshr, 1) := by decide +kernel
theorem dY_product_274 : decode cY_product 274 = .ok (.ladd, 1) := by decide +kernel
theorem dY_product_275 : decode cY_product 275 = .ok (.iload 8, 2) := by decide +kernel
theorem dY_product_277 : decode cY_product 277 = .ok (.bipush 112, 2) := by decide +kernel
theorem dY_product_279 : decode cY_product 279 = .ok (.isub, 1) := by decide +kernel
theorem dY_product_280 : decode cY_product 280 = .ok (.bipush 50, 2) := by decide +kernel
theorem dY_product_282 : decode cY_product 282 = .ok (.iadd, 1) := by decide +kernel
theorem dY_product_283 : decode cY_product 283 = .ok (.iload 19, 2) := by decide +kernel
theorem dY_product_285 : decode cY_product 285 = .ok (.invokevirtual 74, 3) := by decide +kernel
theorem dY_product_288 : decode cY_product 288 = .ok (.iload 4, 2) := by decide +kernel
theorem dY_product_290 : decode cY_product 290 = .ok (.invokevirtual 100, 3) := by decide +kernel
theorem dY_product_293 : decode cY_product 293 = .ok (.ireturn, 1) := by decide +kernel
theorem dY_quotient_0 : decode cY_quotient 0 = .ok (.aload_n 0, 1) := by decide +kernel
theorem dY_quotient_1 : decode cY_quotient 1 = .ok (.iload_n 1, 1) := by decide +kernel
theorem dY_quotient_2 : decode cY_quotient 2 = .ok (.iload_n 2, 1) := by decide +kernel
theorem dY_quotient_3 : decode cY_quotient 3 = .ok (.iload_n 3, 1) := by decide +kernel
theorem dY_quotient_4 : decode cY_quotient 4 = .ok (.iload 4, 2) := by decide +kernel
theorem dY_quotient_6 : decode cY_quotient 6 = .ok (.invokevirtual 92, 3) := by decide +kernel
theorem dY_quotient_9 : decode cY_quotient 9 = .ok (.istore 5, 2) := by decide +kernel
theorem dY_quotient_11 : decode cY_quotient 11 = .ok (.iload 5, 2) := by decide +kernel
theorem dY_quotient_13 : decode cY_quotient 13 = .ok (.ifCond .ge 6, 3) := by decide +kernel
theorem dY_quotient_16 : decode cY_quotient 16 = .ok (.iload 5, 2) := by decide +kernel
theorem dY_quotient_18 : decode cY_quotient 18 = .ok (.ireturn, 1) := by decide +kernel
theorem dY_quotient_19 : decode cY_quotient 19 = .ok (.aload_n 0, 1) := by decide +kernel
theorem dY_quotient_20 : decode cY_quotient 20 = .ok (.iload_n 1, 1) := by decide +kernel
theorem dY_quotient_21 : decode cY_quotient 21 = .ok (.iload_n 2, 1) := by decide +kernel
theorem dY_quotient_22 : decode cY_quotient 22 = .ok (.invokevirtual 85, 3) := by decide +kernel
theorem dY_quotient_25 : decode cY_quotient 25 = .ok (.invokestatic 60, 3) := by decide +kernel
theorem dY_quotient_28 : decode cY_quotient 28 = .ok (.ifCond .eq 6, 3) := by decide +kernel
theorem dY_quotient_31 : decode cY_quotient 31 = .ok (.bipush (-4), 2) := by decide +kernel
theorem dY_quotient_33 : decode cY_quotient 33 = .ok (.ireturn, 1) := by decide +kernel
theorem dY_quotient_34 : decode cY_quotient 34 = .ok (.aload_n 0, 1) := by decide +kernel
theorem dY_quotient_35 : decode cY_quotient 35 = .ok (.iload_n 1, 1) := by decide +kernel
theorem dY_quotient_36 : decode cY_quotient 36 = .ok (.aload_n 0, 1) := by decide +kernel
theorem dY_quotient_37 : decode cY_quotient 37 = .ok (.iload_n 1, 1) := by decide +kernel
theorem dY_quotient_38 : decode cY_quotient 38 = .ok (.iload_n 3, 1) := by decide +kernel
theorem dY_quotient_39 : decode cY_quotient 39 = .ok (.invokevirtual 85, 3) := by decide +kernel
theorem dY_quotient_42 : decode cY_quotient 42 = .ok (.invokevirtual 70, 3) := by decide +kernel
theorem dY_quotient_45 : decode cY_quotient 45 = .ok (.aload_n 0, 1) := by decide +kernel
theorem dY_quotient_46 : decode cY_quotient 46 = .ok (.getfield 44, 3) := by decide +kernel
theorem dY_quotient_49 : decode cY_quotient 49 = .ok (.lstore 6, 2) := by decide +kernel
theorem dY_quotient_51 : decode cY_quotient 51 = .ok (.aload_n 0, 1) := by decide +kernel
theorem dY_quotient_52 : decode cY_quotient 52 = .ok (.getfield 34, 3) := by decide +kernel
theorem dY_quotient_55 : decode cY_quotient 55 = .ok (.istore 8, 2) := by decide +kernel
theorem dY_quotient_57 : decode cY_quotient 57 = .ok (.aload_n 0, 1) := by decide +kernel
theorem dY_quotient_58 : decode cY_quotient 58 = .ok (.getfield 29, 3) := by decide +kernel
theorem dY_quotient_61 : decode cY_quotient 61 = .ok (.istore 9, 2) := by decide +kernel
theorem dY_quotient_63 : decode cY_quotient 63 = .ok (.aload_n 0, 1) := by decide +kernel
theorem dY_quotient_64 : decode cY_quotient 64 = .ok (.iload_n 1, 1) := by decide +kernel
theorem dY_quotient_65 : decode cY_quotient 65 = .ok (.aload_n 0, 1) := by decide +kernel
theorem dY_quotient_66 : decode cY_quotient 66 = .ok (.iload_n 1, 1) := by decide +kernel
theorem dY_quotient_67 : decode cY_quotient 67 = .ok (.iload_n 2, 1) := by decide +kernel
theorem dY_quotient_68 : decode cY_quotient 68 = .ok (.invokevirtual 85, 3) := by decide +kernel
theorem dY_quotient_71 : decode cY_quotient 71 = .ok (.invokevirtual 70, 3) := by decide +kernel
theorem dY_quotient_74 : decode cY_quotient 74 = .ok (.aload_n 0, 1) := by decide +kernel
theorem dY_quotient_75 : decode cY_quotient 75 = .ok (.iconst 0, 1) := by decide +kernel
theorem dY_quotient_76 : decode cY_quotient 76 = .ok (.putfield 48, 3) := by decide +kernel
theorem dY_quotient_79 : decode cY_quotient 79 = .ok (.aload_n 0, 1) := by decide +kernel
theorem dY_quotient_80 : decode cY_quotient 80 = .ok (.iconst 0, 1) := by decide +kernel
theorem dY_quotient_81 : decode cY_quotient 81 = .ok (.putfield 51, 3) := by decide +kernel
theorem dY_quotient_84 : decode cY_quotient 84 = .ok (.lload 6, 2) := by decide +kernel
theorem dY_quotient_86 : decode cY_quotient 86 = .ok (.lconst 0, 1) := by decide +kernel
theorem dY_quotient_87 : decode cY_quotient 87 = .ok (.lcmp, 1) := by decide +kernel
theorem dY_quotient_88 : decode cY_quotient 88 = .ok (.ifCond .ne 11, 3) := by decide +kernel
theorem dY_quotient_91 : decode cY_quotient 91 = .ok (.aload_n 0, 1) := by decide +kernel
theorem dY_quotient_92 : decode cY_quotient 92 = .ok (.lconst 0, 1) := by decide +kernel
theorem dY_quotient_93 : decode cY_quotient 93 = .ok (.iload 4, 2) := by decide +kernel
theorem dY_quotient_95 : decode cY_quotient 95 = .ok (.invokevirtual 100, 3) := by decide +kernel
theorem dY_quotient_98 : decode cY_quotient 98 = .ok (.ireturn, 1) := by decide +kernel
theorem dY_quotient_99 : decode cY_quotient 99 = .ok (.iload_n 1, 1) := by decide +kernel
theorem dY_quotient_100 : decode cY_quotient 100 = .ok (.invokestatic 54, 3) := by decide +kernel
theorem dY_quotient_103 : decode cY_quotient 103 = .ok (.istore 10, 2) := by decide +kernel
theorem dY_quotient_105 : decode cY_quotient 105 = .ok (.lload 6, 2) := by decide +kernel
theorem dY_quotient_107 : decode cY_quotient 107 = .ok (.aload_n 0, 1) := by decide +kernel
theorem dY_quotient_108 : decode cY_quotient 108 = .ok (.getfield 44, 3) := by decide +kernel
theorem dY_quotient_111 : decode cY_quotient 111 = .ok (.ldiv, 1) := by decide +kernel
theorem dY_quotient_112 : decode cY_quotient 112 = .ok (.lstore 11, 2) := by decide +kernel
theorem dY_quotient_114 : decode cY_quotient 114 = .ok (.lload 6, 2) := by decide +kernel
theorem dY_quotient_116 : decode cY_quotient 116 = .ok (.aload_n 0, 1) := by decide +kernel
theorem dY_quotient_117 : decode cY_quotient 117 = .ok (.getfield 44, 3) := by decide +kernel
theorem dY_quotient_120 : decode cY_quotient 120 = .ok (.lrem, 1) := by decide +kernel
theorem dY_quotient_121 : decode cY_quotient 121 = .ok (.lstore 13, 2) := by decide +kernel
theorem dY_quotient_123 : decode cY_quotient 123 = .ok (.iconst 0, 1) := by decide +kernel
theorem dY_quotient_124 : decode cY_quotient 124 = .ok (.istore 15, 2) := by decide +kernel
