theorem dY_quotient_126 : decode cY_quotient 126 = .ok (.iload 15, 2) := by decide +kernel
theorem dY_quotient_128 : decode cY_quotient 128 = .ok (.iload 10, 2) := by decide +kernel
theorem dY_quotient_130 : decode cY_quotient 130 = .ok (.iconst 2, 1) := by decide +kernel
theorem dY_quotient_131 : decode cY_quotient 131 = .ok (.iadd, 1) := by decide +kernel
theorem dY_quotient_132 : decode cY_quotient 132 = .ok (.if_icmp .ge 46, 3) := by decide +kernel
theorem dY_quotient_135 : decode cY_quotient 135 = .ok (.lload 13, 2) := by decide +kernel
theorem dY_quotient_137 : decode cY_quotient 137 = .ok (.iconst 1, 1) := by decide +kernel
theorem dY_quotient_138 : decode cY_quotient 138 = .ok (.lshl, 1) := by decide +kernel
theorem dY_quotient_139 : decode cY_quotient 139 = .ok (.lstore 13, 2) := by decide +kernel
theorem dY_quotient_141 : decode cY_quotient 141 = .ok (.lload 11, 2) := by decide +kernel
theorem dY_quotient_143 : decode cY_quotient 143 = .ok (.iconst 1, 1) := by decide +kernel
theorem dY_quotient_144 : decode cY_quotient 144 = .ok (.lshl, 1) := by decide +kernel
theorem dY_quotient_145 : decode cY_quotient 145 = .ok (.lstore 11, 2) := by decide +kernel
theorem dY_quotient_147 : decode cY_quotient 147 = .ok (.lload 13, 2) := by decide +kernel
theorem dY_quotient_149 : decode cY_quotient 149 = .ok (.aload_n 0, 1) := by decide +kernel
theorem dY_quotient_150 : decode cY_quotient 150 = .ok (.getfield 44, 3) := by decide +kernel
theorem dY_quotient_153 : decode cY_quotient 153 = .ok (.lcmp, 1) := by decide +kernel
theorem dY_quotient_154 : decode cY_quotient 154 = .ok (.ifCond .lt 18, 3) := by decide +kernel
theorem dY_quotient_157 : decode cY_quotient 157 = .ok (.lload 13, 2) := by decide +kernel
theorem dY_quotient_159 : decode cY_quotient 159 = .ok (.aload_n 0, 1) := by decide +kernel
theorem dY_quotient_160 : decode cY_quotient 160 = .ok (.getfield 44, 3) := by decide +kernel
theorem dY_quotient_163 : decode cY_quotient 163 = .ok (.lsub, 1) := by decide +kernel
theorem dY_quotient_164 : decode cY_quotient 164 = .ok (.lstore 13, 2) := by decide +kernel
theorem dY_quotient_166 : decode cY_quotient 166 = .ok (.lload 11, 2) := by decide +kernel
theorem dY_quotient_168 : decode cY_quotient 168 = .ok (.lconst 1, 1) := by decide +kernel
theorem dY_quotient_169 : decode cY_quotient 169 = .ok (.ladd, 1) := by decide +kernel
theorem dY_quotient_170 : decode cY_quotient 170 = .ok (.lstore 11, 2) := by decide +kernel
theorem dY_quotient_172 : decode cY_quotient 172 = .ok (.iinc 15 1, 3) := by decide +kernel
theorem dY_quotient_175 : decode cY_quotient 175 = .ok (.goto (-49), 3) := by decide +kernel
theorem dY_quotient_178 : decode cY_quotient 178 = .ok (.aload_n 0, 1) := by decide +kernel
theorem dY_quotient_179 : decode cY_quotient 179 = .ok (.aload_n 0, 1) := by decide +kernel
theorem dY_quotient_180 : decode cY_quotient 180 = .ok (.iload_n 1, 1) := by decide +kernel
theorem dY_quotient_181 : decode cY_quotient 181 = .ok (.iload 9, 2) := by decide +kernel
theorem dY_quotient_183 : decode cY_quotient 183 = .ok (.aload_n 0, 1) := by decide +kernel
theorem dY_quotient_184 : decode cY_quotient 184 = .ok (.getfield 29, 3) := by decide +kernel
theorem dY_quotient_187 : decode cY_quotient 187 = .ok (.if_icmp .eq 7, 3) := by decide +kernel
theorem dY_quotient_190 : decode cY_quotient 190 = .ok (.iconst 1, 1) := by decide +kernel
theorem dY_quotient_191 : decode cY_quotient 191 = .ok (.goto 4, 3) := by decide +kernel
theorem dY_quotient_194 : decode cY_quotient 194 = .ok (.iconst 0, 1) := by decide +kernel
theorem dY_quotient_195 : decode cY_quotient 195 = .ok (.lload 11, 2) := by decide +kernel
theorem dY_quotient_197 : decode cY_quotient 197 = .ok (.iload 8, 2) := by decide +kernel
theorem dY_quotient_199 : decode cY_quotient 199 = .ok (.aload_n 0, 1) := by decide +kernel
theorem dY_quotient_200 : decode cY_quotient 200 = .ok (.getfield 34, 3) := by decide +kernel
theorem dY_quotient_203 : decode cY_quotient 203 = .ok (.isub, 1) := by decide +kernel
theorem dY_quotient_204 : decode cY_quotient 204 = .ok (.iload 10, 2) := by decide +kernel
theorem dY_quotient_206 : decode cY_quotient 206 = .ok (.isub, 1) := by decide +kernel
theorem dY_quotient_207 : decode cY_quotient 207 = .ok (.iconst 2, 1) := by decide +kernel
theorem dY_quotient_208 : decode cY_quotient 208 = .ok (.isub, 1) := by decide +kernel
theorem dY_quotient_209 : decode cY_quotient 209 = .ok (.lload 13, 2) := by decide +kernel
theorem dY_quotient_211 : decode cY_quotient 211 = .ok (.lconst 0, 1) := by decide +kernel
theorem dY_quotient_212 : decode cY_quotient 212 = .ok (.lcmp, 1) := by decide +kernel
theorem dY_quotient_213 : decode cY_quotient 213 = .ok (.ifCond .eq 7, 3) := by decide +kernel
theorem dY_quotient_216 : decode cY_quotient 216 = .ok (.iconst 1, 1) := by decide +kernel
theorem dY_quotient_217 : decode cY_quotient 217 = .ok (.goto 4, 3) := by decide +kernel
theorem dY_quotient_220 : decode cY_quotient 220 = .ok (.iconst 0, 1) := by decide +kernel
theorem dY_quotient_221 : decode cY_quotient 221 = .ok (.invokevirtual 74, 3) := by decide +kernel
theorem dY_quotient_224 : decode cY_quotient 224 = .ok (.iload 4, 2) := by decide +kernel
theorem dY_quotient_226 : decode cY_quotient 226 = .ok (.invokevirtual 100, 3) := by decide +kernel
theorem dY_quotient_229 : decode cY_quotient 229 = .ok (.ireturn, 1) := by decide +kernel
theorem dY_one_0 : decode cY_one 0 = .ok (.iload_n 1, 1) := by decide +kernel
theorem dY_one_1 : decode cY_one 1 = .ok (.invokestatic 78, 3) := by decide +kernel
theorem dY_one_4 : decode cY_one 4 = .ok (.ifCond .eq 17, 3) := by decide +kernel
theorem dY_one_7 : decode cY_one 7 = .ok (.iload_n 2, 1) := by decide +kernel
theorem dY_one_8 : decode cY_one 8 = .ok (.invokestatic 82, 3) := by decide +kernel
theorem dY_one_11 : decode cY_one 11 = .ok (.ifCond .eq 10, 3) := by decide +kernel
theorem dY_one_14 : decode cY_one 14 = .ok (.iload_n 3, 1) := by decide +kernel
theorem dY_one_15 : decode cY_one 15 = .ok (.invokestatic 82, 3) := by decide +kernel
theorem dY_one_18 : decode cY_one 18 = .ok (.ifCond .ne 6, 3) := by decide +kernel
theorem dY_one_21 : decode cY_one 21 = .ok (.bipush (-5), 2) := by decide +kernel
theorem dY_one_23 : decode cY_one 23 = .ok (.ireturn, 1) := by decide +kernel
theorem dY_one_24 : decode cY_one 24 = .ok (.aload_n 0, 1) := by decide +kernel
theorem dY_one_25 : decode cY_one 25 = .ok (.iload_n 1, 1) := by decide +kernel
theorem dY_one_26 : decode cY_one 26 = .ok (.iload_n 2, 1) := by decide +kernel
theorem dY_one_27 : decode cY_one 27 = .ok (.invokevirtual 85, 3) := by decide +kernel
theorem dY_one_30 : decode cY_one 30 = .ok (.invokestatic 89, 3) := by decide +kernel
theorem dY_one_33 : decode cY_one 33 = .ok (.ifCond .eq 7, 3) := by decide +kernel
theorem dY_one_36 : decode cY_one 36 = .ok (.iconst (-1), 1) := by decide +kernel
theorem dY_one_37 : decode cY_one 37 = .ok (.goto 4, 3) := by decide +kernel
theorem dY_one_40 : decode cY_one 40 = .ok (.iconst 0, 1) := by decide +kernel
theorem dY_one_41 : decode cY_one 41 = .ok (.ireturn, 1) := by decide +kernel
theorem dY_negative_0 : decode cY_negative 0 = .ok (.aload_n 0, 1) := by decide +kernel
theorem dY_negative_1 : decode cY_negative 1 = .ok (.iload_n 1, 1) := by decide +kernel
theorem dY_negative_2 : decode cY_negative 2 = .ok (.iload_n 2, 1) := by decide +kernel
theorem dY_negative_3 : decode cY_negative 3 = .ok (.iload_n 3, 1) := by decide +kernel
theorem dY_negative_4 : decode cY_negative 4 = .ok (.invokevirtual 112, 3) := by decide +kernel
theorem dY_negative_7 : decode cY_negative 7 = .ok (.istore 4, 2) := by decide +kernel
theorem dY_negative_9 : decode cY_negative 9 = .ok (.iload 4, 2) := by decide +kernel
theorem dY_negative_11 : decode cY_negative 11 = .ok (.ifCond .ge 6, 3) := by decide +kernel
theorem dY_negative_14 : decode cY_negative 14 = .ok (.iload 4, 2) := by decide +kernel
theorem dY_negative_16 : decode cY_negative 16 = .ok (.ireturn, 1) := by decide +kernel
theorem dY_negative_17 : decode cY_negative 17 = .ok (.aload_n 0, 1) := by decide +kernel
theorem dY_negative_18 : decode cY_negative 18 = .ok (.iconst 0, 1) := by decide +kernel
theorem dY_negative_19 : decode cY_negative 19 = .ok (.putfield 48, 3) := by decide +kernel
theorem dY_negative_22 : decode cY_negative 22 = .ok (.aload_n 0, 1) := by decide +kernel
theorem dY_negative_23 : decode cY_negative 23 = .ok (.iconst 0, 1) := by decide +kernel
theorem dY_negative_24 : decode cY_negative 24 = .ok (.putfield 51, 3) := by decide +kernel
theorem dY_negative_27 : decode cY_negative 27 = .ok (.aload_n 0, 1) := by decide +kernel
theorem dY_negative_28 : decode cY_negative 28 = .ok (.aload_n 0, 1) := by decide +kernel
theorem dY_negative_29 : decode cY_negative 29 = .ok (.iload_n 1, 1) := by decide +kernel
theorem dY_negative_30 : decode cY_negative 30 = .ok (.iload_n 2, 1) := by decide +kernel
theorem dY_negative_31 : decode cY_negative 31 = .ok (.invokevirtual 85, 3) := by decide +kernel
theorem dY_negative_34 : decode cY_negative 34 = .ok (.invokestatic 104, 3) := by decide +kernel
theorem dY_negative_37 : decode cY_negative 37 = .ok (.iload_n 3, 1) := by decide +kernel
theorem dY_negative_38 : decode cY_negative 38 = .ok (.invokevirtual 100, 3) := by decide +kernel
theorem dY_negative_41 : decode cY_negative 41 = .ok (.ireturn, 1) := by decide +kernel
theorem dY_compare_0 : decode cY_compare 0 = .ok (.aload_n 0, 1) := by decide +kernel
theorem dY_compare_1 : decode cY_compare 1 = .ok (.iload_n 1, 1) := by decide +kernel
theorem dY_compare_2 : decode cY_compare 2 = .ok (.iload_n 2, 1) := by decide +kernel
theorem dY_compare_3 : decode cY_compare 3 = .ok (.iload_n 3, 1) := by decide +kernel
theorem dY_compare_4 : decode cY_compare 4 = .ok (.iconst 0, 1) := by decide +kernel
theorem dY_compare_5 : decode cY_compare 5 = .ok (.invokevirtual 92, 3) := by decide +kernel
theorem dY_compare_8 : decode cY_compare 8 = .ok (.istore 4, 2) := by decide +kernel
theorem dY_compare_10 : decode cY_compare 10 = .ok (.iload 4, 2) := by decide +kernel
theorem dY_compare_12 : decode cY_compare 12 = .ok (.ifCond .ge 6, 3) := by decide +kernel
theorem dY_compare_15 : decode cY_compare 15 = .ok (.iload 4, 2) := by decide +kernel
theorem dY_compare_17 : decode cY_compare 17 = .ok (.ireturn, 1) := by decide +kernel
theorem dY_compare_18 : decode cY_compare 18 = .ok (.aload_n 0, 1) := by decide +kernel
theorem dY_compare_19 : decode cY_compare 19 = .ok (.iload_n 1, 1) := by decide +kernel
theorem dY_compare_20 : decode cY_compare 20 = .ok (.iload_n 2, 1) := by decide +kernel
theorem dY_compare_21 : decode cY_compare 21 = .ok (.invokevirtual 85, 3) := by decide +kernel
theorem dY_compare_24 : decode cY_compare 24 = .ok (.lstore 5, 2) := by decide +kernel
theorem dY_compare_26 : decode cY_compare 26 = .ok (.aload_n 0, 1) := by decide +kernel
theorem dY_compare_27 : decode cY_compare 27 = .ok (.iload_n 1, 1) := by decide +kernel
theorem dY_compare_28 : decode cY_compare 28 = .ok (.iload_n 3, 1) := by decide +kernel
theorem dY_compare_29 : decode cY_compare 29 = .ok (.invokevirtual 85, 3) := by decide +kernel
theorem dY_compare_32 : decode cY_compare 32 = .ok (.lstore 7, 2) := by decide +kernel
theorem dY_compare_34 : decode cY_compare 34 = .ok (.lload 5, 2) := by decide +kernel
theorem dY_compare_36 : decode cY_compare 36 = .ok (.invokestatic 60, 3) := by decide +kernel
theorem dY_compare_39 : decode cY_compare 39 = .ok (.ifCond .eq 7, 3) := by decide +kernel
theorem dY_compare_42 : decode cY_compare 42 = .ok (.iconst 0, 1) := by decide +kernel
theorem dY_compare_43 : decode cY_compare 43 = .ok (.goto 16, 3) := by decide +kernel
theorem dY_compare_46 : decode cY_compare 46 = .ok (.lload 5, 2) := by decide +kernel
theorem dY_compare_48 : decode cY_compare 48 = .ok (.invokestatic 25, 3) := by decide +kernel
theorem dY_compare_51 : decode cY_compare 51 = .ok (.ifCond .eq 7, 3) := by decide +kernel
theorem dY_compare_54 : decode cY_compare 54 = .ok (.iconst (-1), 1) := by decide +kernel
theorem dY_compare_55 : decode cY_compare 55 = .ok (.goto 4, 3) := by decide +kernel
theorem dY_compare_58 : decode cY_compare 58 = .ok (.iconst 1, 1) := by decide +kernel
theorem dY_compare_59 : decode cY_compare 59 = .ok (.istore 9, 2) := by decide +kernel
theorem dY_compare_61 : decode cY_compare 61 = .ok (.lload 7, 2) := by decide +kernel
theorem dY_compare_63 : decode cY_compare 63 = .ok (.invokestatic 60, 3) := by decide +kernel
theorem dY_compare_66 : decode cY_compare 66 = .ok (.ifCond .eq 7, 3) := by decide +kernel
theorem dY_compare_69 : decode cY_compare 69 = .ok (.iconst 0, 1) := by decide +kernel
theorem dY_compare_70 : decode cY_compare 70 = .ok (.goto 16, 3) := by decide +kernel
theorem dY_compare_73 : decode cY_compare 73 = .ok (.lload 7, 2) := by decide +kernel
theorem dY_compare_75 : decode cY_compare 75 = .ok (.invokestatic 25, 3) := by decide +kernel
theorem dY_compare_78 : decode cY_compare 78 = .ok (.ifCond .eq 7, 3) := by decide +kernel
theorem dY_compare_81 : decode cY_compare 81 = .ok (.iconst (-1), 1) := by decide +kernel
theorem dY_compare_82 : decode cY_compare 82 = .ok (.goto 4, 3) := by decide +kernel
theorem dY_compare_85 : decode cY_compare 85 = .ok (.iconst 1, 1) := by decide +kernel
theorem dY_compare_86 : decode cY_compare 86 = .ok (.istore 10, 2) := by decide +kernel
theorem dY_compare_88 : decode cY_compare 88 = .ok (.iload 9, 2) := by decide +kernel
theorem dY_compare_90 : decode cY_compare 90 = .ok (.iload 10, 2) := by decide +kernel
theorem dY_compare_92 : decode cY_compare 92 = .ok (.if_icmp .eq 17, 3) := by decide +kernel
theorem dY_compare_95 : decode cY_compare 95 = .ok (.iload 9, 2) := by decide +kernel
theorem dY_compare_97 : decode cY_compare 97 = .ok (.iload 10, 2) := by decide +kernel
theorem dY_compare_99 : decode cY_compare 99 = .ok (.if_icmp .ge 8, 3) := by decide +kernel
theorem dY_compare_102 : decode cY_compare 102 = .ok (.bipush 8, 2) := by decide +kernel
theorem dY_compare_104 : decode cY_compare 104 = .ok (.goto 4, 3) := by decide +kernel
theorem dY_compare_107 : decode cY_compare 107 = .ok (.iconst 0, 1) := by decide +kernel
theorem dY_compare_108 : decode cY_compare 108 = .ok (.ireturn, 1) := by decide +kernel
theorem dY_compare_109 : decode cY_compare 109 = .ok (.iload 9, 2) := by decide +kernel
theorem dY_compare_111 : decode cY_compare 111 = .ok (.ifCond .ne 5, 3) := by decide +kernel
theorem dY_compare_114 : decode cY_compare 114 = .ok (.iconst 4, 1) := by decide +kernel
theorem dY_compare_115 : decode cY_compare 115 = .ok (.ireturn, 1) := by decide +kernel
theorem dY_compare_116 : decode cY_compare 116 = .ok (.aload_n 0, 1) := by decide +kernel
theorem dY_compare_117 : decode cY_compare 117 = .ok (.iload_n 1, 1) := by decide +kernel
theorem dY_compare_118 : decode cY_compare 118 = .ok (.lload 5, 2) := by decide +kernel
theorem dY_compare_120 : decode cY_compare 120 = .ok (.invokevirtual 70, 3) := by decide +kernel
theorem dY_compare_123 : decode cY_compare 123 = .ok (.aload_n 0, 1) := by decide +kernel
theorem dY_compare_124 : decode cY_compare 124 = .ok (.getfield 34, 3) := by decide +kernel
theorem dY_compare_127 : decode cY_compare 127 = .ok (.istore 11, 2) := by decide +kernel
theorem dY_compare_129 : decode cY_compare 129 = .ok (.aload_n 0, 1) := by decide +kernel
theorem dY_compare_130 : decode cY_compare 130 = .ok (.getfield 44, 3) := by decide +kernel
theorem dY_compare_133 : decode cY_compare 133 = .ok (.lstore 12, 2) := by decide +kernel
theorem dY_compare_135 : decode cY_compare 135 = .ok (.aload_n 0, 1) := by decide +kernel
theorem dY_compare_136 : decode cY_compare 136 = .ok (.iload_n 1, 1) := by decide +kernel
theorem dY_compare_137 : decode cY_compare 137 = .ok (.lload 7, 2) := by decide +kernel
theorem dY_compare_139 : decode cY_compare 139 = .ok (.invokevirtual 70, 3) := by decide +kernel
theorem dY_compare_142 : decode cY_compare 142 = .ok (.iload 11, 2) := by decide +kernel
theorem dY_compare_144 : decode cY_compare 144 = .ok (.aload_n 0, 1) := by decide +kernel
theorem dY_compare_145 : decode cY_compare 145 = .ok (.getfield 34, 3) := by decide +kernel
theorem dY_compare_148 : decode cY_compare 148 = .ok (.if_icmp .ne 15, 3) := by decide +kernel
theorem dY_compare_151 : decode cY_compare 151 = .ok (.lload 12, 2) := by decide +kernel
theorem dY_compare_153 : decode cY_compare 153 = .ok (.aload_n 0, 1) := by decide +kernel
theorem dY_compare_154 : decode cY_compare 154 = .ok (.getfield 44, 3) := by decide +kernel
theorem dY_compare_157 : decode cY_compare 157 = .ok (.lcmp, 1) := by decide +kernel
theorem dY_compare_158 : decode cY_compare 158 = .ok (.ifCond .ne 5, 3) := by decide +kernel
theorem dY_compare_161 : decode cY_compare 161 = .ok (.iconst 4, 1) := by decide +kernel
theorem dY_compare_162 : decode cY_compare 162 = .ok (.ireturn, 1) := by decide +kernel
theorem dY_compare_163 : decode cY_compare 163 = .ok (.iload 11, 2) := by decide +kernel
theorem dY_compare_165 : decode cY_compare 165 = .ok (.aload_n 0, 1) := by decide +kernel
theorem dY_compare_166 : decode cY_compare 166 = .ok (.getfield 34, 3) := by decide +kernel
theorem dY_compare_169 : decode cY_compare 169 = .ok (.if_icmp .lt 22, 3) := by decide +kernel
theorem dY_compare_172 : decode cY_compare 172 = .ok (.iload 11, 2) := by decide +kernel
theorem dY_compare_174 : decode cY_compare 174 = .ok (.aload_n 0, 1) := by decide +kernel
theorem dY_compare_175 : decode cY_compare 175 = .ok (.getfield 34, 3) := by decide +kernel
theorem dY_compare_178 : decode cY_compare 178 = .ok (.if_icmp .ne 17, 3) := by decide +kernel
theorem dY_compare_181 : decode cY_compare 181 = .ok (.lload 12, 2) := by decide +kernel
theorem dY_compare_183 : decode cY_compare 183 = .ok (.aload_n 0, 1) := by decide +kernel
theorem dY_compare_184 : decode cY_compare 184 = .ok (.getfield 44, 3) := by decide +kernel
theorem dY_compare_187 : decode cY_compare 187 = .ok (.lcmp, 1) := by decide +kernel
theorem dY_compare_188 : decode cY_compare 188 = .ok (.ifCond .ge 7, 3) := by decide +kernel
theorem dY_compare_191 : decode cY_compare 191 = .ok (.iconst 1, 1) := by decide +kernel
theorem dY_compare_192 : decode cY_compare 192 = .ok (.goto 4, 3) := by decide +kernel
theorem dY_compare_195 : decode cY_compare 195 = .ok (.iconst 0, 1) := by decide +kernel
theorem dY_compare_196 : decode cY_compare 196 = .ok (.istore 14, 2) := by decide +kernel
theorem dY_compare_198 : decode cY_compare 198 = .ok (.iload 14, 2) := by decide +kernel
theorem dY_compare_200 : decode cY_compare 200 = .ok (.iload 9, 2) := by decide +kernel
theorem dY_compare_202 : decode cY_compare 202 = .ok (.ifCond .le 7, 3) := by decide +kernel
theorem dY_compare_205 : decode cY_compare 205 = .ok (.iconst 1, 1) := by decide +kernel
theorem dY_compare_206 : decode cY_compare 206 = .ok (.goto 4, 3) := by decide +kernel
theorem dY_compare_209 : decode cY_compare 209 = .ok (.iconst 0, 1) := by decide +kernel
theorem dY_compare_210 : decode cY_compare 210 = .ok (.if_icmp .ne 8, 3) := by decide +kernel
theorem dY_compare_213 : decode cY_compare 213 = .ok (.bipush 8, 2) := by decide +kernel
theorem dY_compare_215 : decode cY_compare 215 = .ok (.goto 4, 3) := by decide +kernel
theorem dY_compare_218 : decode cY_compare 218 = .ok (.iconst 0, 1) := by decide +kernel
theorem dY_compare_219 : decode cY_compare 219 = .ok (.ireturn, 1) := by decide +kernel
theorem dY_change_0 : decode cY_change 0 = .ok (.aload_n 0, 1) := by decide +kernel
theorem dY_change_1 : decode cY_change 1 = .ok (.iload_n 1, 1) := by decide +kernel
theorem dY_change_2 : decode cY_change 2 = .ok (.iload_n 2, 1) := by decide +kernel
theorem dY_change_3 : decode cY_change 3 = .ok (.iload_n 3, 1) := by decide +kernel
theorem dY_change_4 : decode cY_change 4 = .ok (.invokevirtual 112, 3) := by decide +kernel
theorem dY_change_7 : decode cY_change 7 = .ok (.istore 4, 2) := by decide +kernel
theorem dY_change_9 : decode cY_change 9 = .ok (.iload 4, 2) := by decide +kernel
theorem dY_change_11 : decode cY_change 11 = .ok (.ifCond .ge 6, 3) := by decide +kernel
theorem dY_change_14 : decode cY_change 14 = .ok (.iload 4, 2) := by decide +kernel
theorem dY_change_16 : decode cY_change 16 = .ok (.ireturn, 1) := by decide +kernel
theorem dY_change_17 : decode cY_change 17 = .ok (.aload_n 0, 1) := by decide +kernel
theorem dY_change_18 : decode cY_change 18 = .ok (.iload_n 1, 1) := by decide +kernel
theorem dY_change_19 : decode cY_change 19 = .ok (.aload_n 0, 1) := by decide +kernel
theorem dY_change_20 : decode cY_change 20 = .ok (.iload_n 1, 1) := by decide +kernel
theorem dY_change_21 : decode cY_change 21 = .ok (.iload_n 2, 1) := by decide +kernel
theorem dY_change_22 : decode cY_change 22 = .ok (.invokevirtual 85, 3) := by decide +kernel
theorem dY_change_25 : decode cY_change 25 = .ok (.invokevirtual 70, 3) := by decide +kernel
theorem dY_change_28 : decode cY_change 28 = .ok (.aload_n 0, 1) := by decide +kernel
theorem dY_change_29 : decode cY_change 29 = .ok (.aload_n 0, 1) := by decide +kernel
theorem dY_change_30 : decode cY_change 30 = .ok (.bipush 12, 2) := by decide +kernel
theorem dY_change_32 : decode cY_change 32 = .ok (.iload_n 1, 1) := by decide +kernel
theorem dY_change_33 : decode cY_change 33 = .ok (.isub, 1) := by decide +kernel
theorem dY_change_34 : decode cY_change 34 = .ok (.aload_n 0, 1) := by decide +kernel
theorem dY_change_35 : decode cY_change 35 = .ok (.getfield 29, 3) := by decide +kernel
theorem dY_change_38 : decode cY_change 38 = .ok (.aload_n 0, 1) := by decide +kernel
theorem dY_change_39 : decode cY_change 39 = .ok (.getfield 44, 3) := by decide +kernel
theorem dY_change_42 : decode cY_change 42 = .ok (.aload_n 0, 1) := by decide +kernel
theorem dY_change_43 : decode cY_change 43 = .ok (.getfield 34, 3) := by decide +kernel
theorem dY_change_46 : decode cY_change 46 = .ok (.sipush 128, 3) := by decide +kernel
theorem dY_change_49 : decode cY_change 49 = .ok (.isub, 1) := by decide +kernel
theorem dY_change_50 : decode cY_change 50 = .ok (.bipush 56, 2) := by decide +kernel
theorem dY_change_52 : decode cY_change 52 = .ok (.isub, 1) := by decide +kernel
theorem dY_change_53 : decode cY_change 53 = .ok (.iconst 0, 1) := by decide +kernel
theorem dY_change_54 : decode cY_change 54 = .ok (.invokevirtual 74, 3) := by decide +kernel
theorem dY_change_57 : decode cY_change 57 = .ok (.iload_n 3, 1) := by decide +kernel
theorem dY_change_58 : decode cY_change 58 = .ok (.invokevirtual 100, 3) := by decide +kernel
theorem dY_change_61 : decode cY_change 61 = .ok (.ireturn, 1) := by decide +kernel
theorem dY_whole_0 : decode cY_whole 0 = .ok (.aload_n 0, 1) := by decide +kernel
theorem dY_whole_1 : decode cY_whole 1 = .ok (.iload_n 1, 1) := by decide +kernel
theorem dY_whole_2 : decode cY_whole 2 = .ok (.iload_n 2, 1) := by decide +kernel
theorem dY_whole_3 : decode cY_whole 3 = .ok (.iload 5, 2) := by decide +kernel
theorem dY_whole_5 : decode cY_whole 5 = .ok (.invokevirtual 112, 3) := by decide +kernel
theorem dY_whole_8 : decode cY_whole 8 = .ok (.istore 6, 2) := by decide +kernel
theorem dY_whole_10 : decode cY_whole 10 = .ok (.iload 6, 2) := by decide +kernel
theorem dY_whole_12 : decode cY_whole 12 = .ok (.bipush (-5), 2) := by decide +kernel
theorem dY_whole_14 : decode cY_whole 14 = .ok (.if_icmp .eq 18, 3) := by decide +kernel
theorem dY_whole_17 : decode cY_whole 17 = .ok (.iload_n 3, 1) := by decide +kernel
theorem dY_whole_18 : decode cY_whole 18 = .ok (.iconst 1, 1) := by decide +kernel
theorem dY_whole_19 : decode cY_whole 19 = .ok (.if_icmp .eq 16, 3) := by decide +kernel
theorem dY_whole_22 : decode cY_whole 22 = .ok (.iload_n 3, 1) := by decide +kernel
theorem dY_whole_23 : decode cY_whole 23 = .ok (.iconst 2, 1) := by decide +kernel
theorem dY_whole_24 : decode cY_whole 24 = .ok (.if_icmp .eq 11, 3) := by decide +kernel
theorem dY_whole_27 : decode cY_whole 27 = .ok (.iload_n 3, 1) := by decide +kernel
theorem dY_whole_28 : decode cY_whole 28 = .ok (.iconst 4, 1) := by decide +kernel
theorem dY_whole_29 : decode cY_whole 29 = .ok (.if_icmp .eq 6, 3) := by decide +kernel
theorem dY_whole_32 : decode cY_whole 32 = .ok (.bipush (-5), 2) := by decide +kernel
theorem dY_whole_34 : decode cY_whole 34 = .ok (.ireturn, 1) := by decide +kernel
theorem dY_whole_35 : decode cY_whole 35 = .ok (.iload 6, 2) := by decide +kernel
theorem dY_whole_37 : decode cY_whole 37 = .ok (.ifCond .ge 6, 3) := by decide +kernel
theorem dY_whole_40 : decode cY_whole 40 = .ok (.iload 6, 2) := by decide +kernel
theorem dY_whole_42 : decode cY_whole 42 = .ok (.ireturn, 1) := by decide +kernel
theorem dY_whole_43 : decode cY_whole 43 = .ok (.aload_n 0, 1) := by decide +kernel
theorem dY_whole_44 : decode cY_whole 44 = .ok (.iload_n 1, 1) := by decide +kernel
theorem dY_whole_45 : decode cY_whole 45 = .ok (.aload_n 0, 1) := by decide +kernel
theorem dY_whole_46 : decode cY_whole 46 = .ok (.iload_n 1, 1) := by decide +kernel
theorem dY_whole_47 : decode cY_whole 47 = .ok (.iload_n 2, 1) := by decide +kernel
theorem dY_whole_48 : decode cY_whole 48 = .ok (.invokevirtual 85, 3) := by decide +kernel
theorem dY_whole_51 : decode cY_whole 51 = .ok (.invokevirtual 70, 3) := by decide +kernel
theorem dY_whole_54 : decode cY_whole 54 = .ok (.aload_n 0, 1) := by decide +kernel
theorem dY_whole_55 : decode cY_whole 55 = .ok (.getfield 34, 3) := by decide +kernel
theorem dY_whole_58 : decode cY_whole 58 = .ok (.sipush 128, 3) := by decide +kernel
theorem dY_whole_61 : decode cY_whole 61 = .ok (.isub, 1) := by decide +kernel
theorem dY_whole_62 : decode cY_whole 62 = .ok (.bipush 56, 2) := by decide +kernel
theorem dY_whole_64 : decode cY_whole 64 = .ok (.isub, 1) := by decide +kernel
theorem dY_whole_65 : decode cY_whole 65 = .ok (.istore 7, 2) := by decide +kernel
theorem dY_whole_67 : decode cY_whole 67 = .ok (.lconst 0, 1) := by decide +kernel
theorem dY_whole_68 : decode cY_whole 68 = .ok (.lstore 8, 2) := by decide +kernel
theorem dY_whole_70 : decode cY_whole 70 = .ok (.iload 7, 2) := by decide +kernel
theorem dY_whole_72 : decode cY_whole 72 = .ok (.ifCond .le 16, 3) := by decide +kernel
theorem dY_whole_75 : decode cY_whole 75 = .ok (.aload_n 0, 1) := by decide +kernel
theorem dY_whole_76 : decode cY_whole 76 = .ok (.getfield 44, 3) := by decide +kernel
theorem dY_whole_79 : decode cY_whole 79 = .ok (.lconst 0, 1) := by decide +kernel
theorem dY_whole_80 : decode cY_whole 80 = .ok (.lcmp, 1) := by decide +kernel
theorem dY_whole_81 : decode cY_whole 81 = .ok (.ifCond .eq 7, 3) := by decide +kernel
theorem dY_whole_84 : decode cY_whole 84 = .ok (.iconst 1, 1) := by decide +kernel
theorem dY_whole_85 : decode cY_whole 85 = .ok (.goto 4, 3) := by decide +kernel
theorem dY_whole_88 : decode cY_whole 88 = .ok (.iconst 0, 1) := by decide +kernel
theorem dY_whole_89 : decode cY_whole 89 = .ok (.istore 10, 2) := by decide +kernel
theorem dY_whole_91 : decode cY_whole 91 = .ok (.iload 7, 2) := by decide +kernel
theorem dY_whole_93 : decode cY_whole 93 = .ok (.ifCond .lt 26, 3) := by decide +kernel
theorem dY_whole_96 : decode cY_whole 96 = .ok (.iload 7, 2) := by decide +kernel
theorem dY_whole_98 : decode cY_whole 98 = .ok (.bipush 63, 2) := by decide +kernel
theorem dY_whole_100 : decode cY_whole 100 = .ok (.if_icmp .le 7, 3) := by decide +kernel
theorem dY_whole_103 : decode cY_whole 103 = .ok (.lconst 0, 1) := by decide +kernel
theorem dY_whole_104 : decode cY_whole 104 = .ok (.goto 10, 3) := by decide +kernel
theorem dY_whole_107 : decode cY_whole 107 = .ok (.aload_n 0, 1) := by decide +kernel
theorem dY_whole_108 : decode cY_whole 108 = .ok (.getfield 44, 3) := by decide +kernel
theorem dY_whole_111 : decode cY_whole 111 = .ok (.iload 7, 2) := by decide +kernel
theorem dY_whole_113 : decode cY_whole 113 = .ok (.lshl, 1) := by decide +kernel
theorem dY_whole_114 : decode cY_whole 114 = .ok (.lstore 8, 2) := by decide +kernel
theorem dY_whole_116 : decode cY_whole 116 = .ok (.goto 42, 3) := by decide +kernel
theorem dY_whole_119 : decode cY_whole 119 = .ok (.iload 7, 2) := by decide +kernel
theorem dY_whole_121 : decode cY_whole 121 = .ok (.bipush (-56), 2) := by decide +kernel
theorem dY_whole_123 : decode cY_whole 123 = .ok (.if_icmp .lt 35, 3) := by decide +kernel
theorem dY_whole_126 : decode cY_whole 126 = .ok (.aload_n 0, 1) := by decide +kernel
theorem dY_whole_127 : decode cY_whole 127 = .ok (.getfield 44, 3) := by decide +kernel
theorem dY_whole_130 : decode cY_whole 130 = .ok (.iload 7, 2) := by decide +kernel
theorem dY_whole_132 : decode cY_whole 132 = .ok (.ineg, 1) := by decide +kernel
theorem dY_whole_133 : decode cY_whole 133 = .ok (.lshr, 1) := by decide +kernel
theorem dY_whole_134 : decode cY_whole 134 = .ok (.lstore 8, 2) := by decide +kernel
theorem dY_whole_136 : decode cY_whole 136 = .ok (.iload 4, 2) := by decide +kernel
theorem dY_whole_138 : decode cY_whole 138 = .ok (.ifCond .eq 20, 3) := by decide +kernel
theorem dY_whole_141 : decode cY_whole 141 = .ok (.lload 8, 2) := by decide +kernel
theorem dY_whole_143 : decode cY_whole 143 = .ok (.aload_n 0, 1) := by decide +kernel
theorem dY_whole_144 : decode cY_whole 144 = .ok (.getfield 44, 3) := by decide +kernel
theorem dY_whole_147 : decode cY_whole 147 = .ok (.iload 7, 2) := by decide +kernel
theorem dY_whole_149 : decode cY_whole 149 = .ok (.ineg, 1) := by decide +kernel
theorem dY_whole_150 : decode cY_whole 150 = .ok (.iconst 1, 1) := by decide +kernel
theorem dY_whole_151 : decode cY_whole 151 = .ok (.isub, 1) := by decide +kernel
theorem dY_whole_152 : decode cY_whole 152 = .ok (.lshr, 1) := by decide +kernel
theorem dY_whole_153 : decode cY_whole 153 = .ok (.lconst 1, 1) := by decide +kernel
theorem dY_whole_154 : decode cY_whole 154 = .ok (.land, 1) := by decide +kernel
theorem dY_whole_155 : decode cY_whole 155 = .ok (.ladd, 1) := by decide +kernel
theorem dY_whole_156 : decode cY_whole 156 = .ok (.lstore 8, 2) := by decide +kernel
theorem dY_whole_158 : decode cY_whole 158 = .ok (.aload_n 0, 1) := by decide +kernel
theorem dY_whole_159 : decode cY_whole 159 = .ok (.getfield 29, 3) := by decide +kernel
theorem dY_whole_162 : decode cY_whole 162 = .ok (.ifCond .eq 8, 3) := by decide +kernel
theorem dY_whole_165 : decode cY_whole 165 = .ok (.lload 8, 2) := by decide +kernel
theorem dY_whole_167 : decode cY_whole 167 = .ok (.lneg, 1) := by decide +kernel
theorem dY_whole_168 : decode cY_whole 168 = .ok (.lstore 8, 2) := by decide +kernel
theorem dY_whole_170 : decode cY_whole 170 = .ok (.lload 8, 2) := by decide +kernel
theorem dY_whole_172 : decode cY_whole 172 = .ok (.bipush 64, 2) := by decide +kernel
theorem dY_whole_174 : decode cY_whole 174 = .ok (.bipush 8, 2) := by decide +kernel
theorem dY_whole_176 : decode cY_whole 176 = .ok (.iload_n 3, 1) := by decide +kernel
theorem dY_whole_177 : decode cY_whole 177 = .ok (.imul, 1) := by decide +kernel
theorem dY_whole_178 : decode cY_whole 178 = .ok (.isub, 1) := by decide +kernel
theorem dY_whole_179 : decode cY_whole 179 = .ok (.lshl, 1) := by decide +kernel
theorem dY_whole_180 : decode cY_whole 180 = .ok (.bipush 64, 2) := by decide +kernel
theorem dY_whole_182 : decode cY_whole 182 = .ok (.bipush 8, 2) := by decide +kernel
theorem dY_whole_184 : decode cY_whole 184 = .ok (.iload_n 3, 1) := by decide +kernel
theorem dY_whole_185 : decode cY_whole 185 = .ok (.imul, 1) := by decide +kernel
theorem dY_whole_186 : decode cY_whole 186 = .ok (.isub, 1) := by decide +kernel
theorem dY_whole_187 : decode cY_whole 187 = .ok (.lshr, 1) := by decide +kernel
theorem dY_whole_188 : decode cY_whole 188 = .ok (.lstore 11, 2) := by decide +kernel
theorem dY_whole_190 : decode cY_whole 190 = .ok (.aload_n 0, 1) := by decide +kernel
theorem dY_whole_191 : decode cY_whole 191 = .ok (.getfield 7, 3) := by decide +kernel
theorem dY_whole_194 : decode cY_whole 194 = .ok (.iload 5, 2) := by decide +kernel
theorem dY_whole_196 : decode cY_whole 196 = .ok (.lload 11, 2) := by decide +kernel
theorem dY_whole_198 : decode cY_whole 198 = .ok (.lastore, 1) := by decide +kernel
theorem dY_whole_199 : decode cY_whole 199 = .ok (.lload 11, 2) := by decide +kernel
theorem dY_whole_201 : decode cY_whole 201 = .ok (.lconst 0, 1) := by decide +kernel
theorem dY_whole_202 : decode cY_whole 202 = .ok (.lcmp, 1) := by decide +kernel
theorem dY_whole_203 : decode cY_whole 203 = .ok (.ifCond .ge 8, 3) := by decide +kernel
theorem dY_whole_206 : decode cY_whole 206 = .ok (.bipush 8, 2) := by decide +kernel
theorem dY_whole_208 : decode cY_whole 208 = .ok (.goto 4, 3) := by decide +kernel
theorem dY_whole_211 : decode cY_whole 211 = .ok (.iconst 0, 1) := by decide +kernel
theorem dY_whole_212 : decode cY_whole 212 = .ok (.lload 11, 2) := by decide +kernel
theorem dY_whole_214 : decode cY_whole 214 = .ok (.lconst 0, 1) := by decide +kernel
theorem dY_whole_215 : decode cY_whole 215 = .ok (.lcmp, 1) := by decide +kernel
theorem dY_whole_216 : decode cY_whole 216 = .ok (.ifCond .ne 7, 3) := by decide +kernel
theorem dY_whole_219 : decode cY_whole 219 = .ok (.iconst 4, 1) := by decide +kernel
theorem dY_whole_220 : decode cY_whole 220 = .ok (.goto 4, 3) := by decide +kernel
theorem dY_whole_223 : decode cY_whole 223 = .ok (.iconst 0, 1) := by decide +kernel
theorem dY_whole_224 : decode cY_whole 224 = .ok (.ior, 1) := by decide +kernel
theorem dY_whole_225 : decode cY_whole 225 = .ok (.iload 10, 2) := by decide +kernel
theorem dY_whole_227 : decode cY_whole 227 = .ok (.ifCond .ne 11, 3) := by decide +kernel
theorem dY_whole_230 : decode cY_whole 230 = .ok (.lload 11, 2) := by decide +kernel
theorem dY_whole_232 : decode cY_whole 232 = .ok (.lload 8, 2) := by decide +kernel
theorem dY_whole_234 : decode cY_whole 234 = .ok (.lcmp, 1) := by decide +kernel
theorem dY_whole_235 : decode cY_whole 235 = .ok (.ifCond .eq 7, 3) := by decide +kernel
theorem dY_whole_238 : decode cY_whole 238 = .ok (.iconst 2, 1) := by decide +kernel
theorem dY_whole_239 : decode cY_whole 239 = .ok (.goto 4, 3) := by decide +kernel
theorem dY_whole_242 : decode cY_whole 242 = .ok (.iconst 0, 1) := by decide +kernel
theorem dY_whole_243 : decode cY_whole 243 = .ok (.ior, 1) := by decide +kernel
theorem dY_whole_244 : decode cY_whole 244 = .ok (.ireturn, 1) := by decide +kernel
theorem dY_number_0 : decode cY_number 0 = .ok (.iload_n 1, 1) := by decide +kernel
theorem dY_number_1 : decode cY_number 1 = .ok (.invokestatic 78, 3) := by decide +kernel
theorem dY_number_4 : decode cY_number 4 = .ok (.ifCond .eq 10, 3) := by decide +kernel
theorem dY_number_7 : decode cY_number 7 = .ok (.iload_n 3, 1) := by decide +kernel
theorem dY_number_8 : decode cY_number 8 = .ok (.invokestatic 82, 3) := by decide +kernel
theorem dY_number_11 : decode cY_number 11 = .ok (.ifCond .ne 6, 3) := by decide +kernel
theorem dY_number_14 : decode cY_number 14 = .ok (.bipush (-5), 2) := by decide +kernel
theorem dY_number_16 : decode cY_number 16 = .ok (.ireturn, 1) := by decide +kernel
theorem dY_number_17 : decode cY_number 17 = .ok (.iload_n 2, 1) := by decide +kernel
theorem dY_number_18 : decode cY_number 18 = .ok (.ifCond .ge 9, 3) := by decide +kernel
theorem dY_number_21 : decode cY_number 21 = .ok (.iload_n 2, 1) := by decide +kernel
theorem dY_number_22 : decode cY_number 22 = .ok (.i2l, 1) := by decide +kernel
theorem dY_number_23 : decode cY_number 23 = .ok (.lneg, 1) := by decide +kernel
theorem dY_number_24 : decode cY_number 24 = .ok (.goto 5, 3) := by decide +kernel
theorem dY_number_27 : decode cY_number 27 = .ok (.iload_n 2, 1) := by decide +kernel
theorem dY_number_28 : decode cY_number 28 = .ok (.i2l, 1) := by decide +kernel
theorem dY_number_29 : decode cY_number 29 = .ok (.lstore 4, 2) := by decide +kernel
theorem dY_number_31 : decode cY_number 31 = .ok (.aload_n 0, 1) := by decide +kernel
theorem dY_number_32 : decode cY_number 32 = .ok (.aload_n 0, 1) := by decide +kernel
theorem dY_number_33 : decode cY_number 33 = .ok (.iload_n 1, 1) := by decide +kernel
theorem dY_number_34 : decode cY_number 34 = .ok (.iload_n 2, 1) := by decide +kernel
theorem dY_number_35 : decode cY_number 35 = .ok (.ifCond .ge 7, 3) := by decide +kernel
theorem dY_number_38 : decode cY_number 38 = .ok (.iconst 1, 1) := by decide +kernel
theorem dY_number_39 : decode cY_number 39 = .ok (.goto 4, 3) := by decide +kernel
theorem dY_number_42 : decode cY_number 42 = .ok (.iconst 0, 1) := by decide +kernel
theorem dY_number_43 : decode cY_number 43 = .ok (.lload 4, 2) := by decide +kernel
theorem dY_number_45 : decode cY_number 45 = .ok (.iconst 0, 1) := by decide +kernel
theorem dY_number_46 : decode cY_number 46 = .ok (.iconst 0, 1) := by decide +kernel
theorem dY_number_47 : decode cY_number 47 = .ok (.invokevirtual 74, 3) := by decide +kernel
theorem dY_number_50 : decode cY_number 50 = .ok (.iload_n 3, 1) := by decide +kernel
theorem dY_number_51 : decode cY_number 51 = .ok (.invokevirtual 100, 3) := by decide +kernel
theorem dY_number_54 : decode cY_number 54 = .ok (.ireturn, 1) := by decide +kernel
theorem dY_lost_0 : decode cY_lost 0 = .ok (.aload_n 0, 1) := by decide +kernel
theorem dY_lost_1 : decode cY_lost 1 = .ok (.getfield 63, 3) := by decide +kernel
theorem dY_lost_4 : decode cY_lost 4 = .ok (.ireturn, 1) := by decide +kernel
