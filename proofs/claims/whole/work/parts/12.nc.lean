theorem dX0_storeValue_27 : decode cX0_storeValue 27 = .ok (.lload_n 3, 1) := by decide +kernel
theorem dX0_storeValue_28 : decode cX0_storeValue 28 = .ok (.invokestatic 97, 3) := by decide +kernel
theorem dX0_storeValue_31 : decode cX0_storeValue 31 = .ok (.lload_n 3, 1) := by decide +kernel
theorem dX0_storeValue_32 : decode cX0_storeValue 32 = .ok (.invokestatic 100, 3) := by decide +kernel
theorem dX0_storeValue_35 : decode cX0_storeValue 35 = .ok (.bipush 7, 2) := by decide +kernel
theorem dX0_storeValue_37 : decode cX0_storeValue 37 = .ok (.lshl, 1) := by decide +kernel
theorem dX0_storeValue_38 : decode cX0_storeValue 38 = .ok (.invokevirtual 69, 3) := by decide +kernel
theorem dX0_storeValue_41 : decode cX0_storeValue 41 = .ok (.ireturn, 1) := by decide +kernel
set_option maxRecDepth 20000 in
theorem ggX0_storeRounded_X0_storeZero : GoodIn wsX0_storeRounded wsX0_storeZero := goodIn_r _ [10, 3, 5, 16, 17, 18] (by decide +kernel) (by decide +kernel)
set_option maxRecDepth 20000 in
theorem gX0_storeRounded_X0_storeZero : GoodIn wsX0_storeRounded (wsV RX0 93 RX0 yX0_storeZero wsX0_storeZero) := goodIn_app (goodIn_of _ (by decide +kernel)) ggX0_storeRounded_X0_storeZero
set_option maxRecDepth 20000 in
theorem ggX0_storeRounded_X0_bitsOf : GoodIn wsX0_storeRounded wsX0_bitsOf := goodIn_r _ [13, 14, 15] (by decide +kernel) (by decide +kernel)
set_option maxRecDepth 20000 in
theorem gX0_storeRounded_X0_bitsOf : GoodIn wsX0_storeRounded (va_wsS RX0 105 yX0_bitsOf wsX0_bitsOf) := goodIn_app (goodIn_of _ (by decide +kernel)) ggX0_storeRounded_X0_bitsOf
theorem dX0_storeRounded_0 : decode cX0_storeRounded 0 = .ok (.lload 5, 2) := by decide +kernel
theorem dX0_storeRounded_2 : decode cX0_storeRounded 2 = .ok (.lconst 0, 1) := by decide +kernel
theorem dX0_storeRounded_3 : decode cX0_storeRounded 3 = .ok (.lcmp, 1) := by decide +kernel
theorem dX0_storeRounded_4 : decode cX0_storeRounded 4 = .ok (.ifCond .ne 10, 3) := by decide +kernel
theorem dX0_storeRounded_7 : decode cX0_storeRounded 7 = .ok (.aload_n 0, 1) := by decide +kernel
theorem dX0_storeRounded_8 : decode cX0_storeRounded 8 = .ok (.iload_n 2, 1) := by decide +kernel
theorem dX0_storeRounded_9 : decode cX0_storeRounded 9 = .ok (.iconst 0, 1) := by decide +kernel
theorem dX0_storeRounded_10 : decode cX0_storeRounded 10 = .ok (.invokevirtual 93, 3) := by decide +kernel
theorem dX0_storeRounded_13 : decode cX0_storeRounded 13 = .ok (.ireturn, 1) := by decide +kernel
theorem dX0_storeRounded_14 : decode cX0_storeRounded 14 = .ok (.iload 4, 2) := by decide +kernel
theorem dX0_storeRounded_16 : decode cX0_storeRounded 16 = .ok (.istore 7, 2) := by decide +kernel
theorem dX0_storeRounded_18 : decode cX0_storeRounded 18 = .ok (.lload 5, 2) := by decide +kernel
theorem dX0_storeRounded_20 : decode cX0_storeRounded 20 = .ok (.lstore 8, 2) := by decide +kernel
theorem dX0_storeRounded_22 : decode cX0_storeRounded 22 = .ok (.iconst 0, 1) := by decide +kernel
theorem dX0_storeRounded_23 : decode cX0_storeRounded 23 = .ok (.istore 10, 2) := by decide +kernel
theorem dX0_storeRounded_25 : decode cX0_storeRounded 25 = .ok (.iload 10, 2) := by decide +kernel
theorem dX0_storeRounded_27 : decode cX0_storeRounded 27 = .ok (.bipush 63, 2) := by decide +kernel
theorem dX0_storeRounded_29 : decode cX0_storeRounded 29 = .ok (.if_icmp .ge 27, 3) := by decide +kernel
theorem dX0_storeRounded_32 : decode cX0_storeRounded 32 = .ok (.lload 8, 2) := by decide +kernel
theorem dX0_storeRounded_34 : decode cX0_storeRounded 34 = .ok (.ldc2_w 103, 3) := by decide +kernel
theorem dX0_storeRounded_37 : decode cX0_storeRounded 37 = .ok (.lcmp, 1) := by decide +kernel
theorem dX0_storeRounded_38 : decode cX0_storeRounded 38 = .ok (.ifCond .ge 18, 3) := by decide +kernel
theorem dX0_storeRounded_41 : decode cX0_storeRounded 41 = .ok (.lload 8, 2) := by decide +kernel
theorem dX0_storeRounded_43 : decode cX0_storeRounded 43 = .ok (.iconst 1, 1) := by decide +kernel
theorem dX0_storeRounded_44 : decode cX0_storeRounded 44 = .ok (.lshl, 1) := by decide +kernel
theorem dX0_storeRounded_45 : decode cX0_storeRounded 45 = .ok (.lstore 8, 2) := by decide +kernel
theorem dX0_storeRounded_47 : decode cX0_storeRounded 47 = .ok (.iinc 7 (-1), 3) := by decide +kernel
theorem dX0_storeRounded_50 : decode cX0_storeRounded 50 = .ok (.iinc 10 1, 3) := by decide +kernel
theorem dX0_storeRounded_53 : decode cX0_storeRounded 53 = .ok (.goto (-28), 3) := by decide +kernel
theorem dX0_storeRounded_56 : decode cX0_storeRounded 56 = .ok (.iload_n 1, 1) := by decide +kernel
theorem dX0_storeRounded_57 : decode cX0_storeRounded 57 = .ok (.iconst 4, 1) := by decide +kernel
theorem dX0_storeRounded_58 : decode cX0_storeRounded 58 = .ok (.if_icmp .ne 8, 3) := by decide +kernel
theorem dX0_storeRounded_61 : decode cX0_storeRounded 61 = .ok (.bipush 39, 2) := by decide +kernel
theorem dX0_storeRounded_63 : decode cX0_storeRounded 63 = .ok (.goto 5, 3) := by decide +kernel
theorem dX0_storeRounded_66 : decode cX0_storeRounded 66 = .ok (.bipush 7, 2) := by decide +kernel
theorem dX0_storeRounded_68 : decode cX0_storeRounded 68 = .ok (.istore 10, 2) := by decide +kernel
theorem dX0_storeRounded_70 : decode cX0_storeRounded 70 = .ok (.lload 8, 2) := by decide +kernel
theorem dX0_storeRounded_72 : decode cX0_storeRounded 72 = .ok (.lconst 1, 1) := by decide +kernel
theorem dX0_storeRounded_73 : decode cX0_storeRounded 73 = .ok (.iload 10, 2) := by decide +kernel
theorem dX0_storeRounded_75 : decode cX0_storeRounded 75 = .ok (.lshl, 1) := by decide +kernel
theorem dX0_storeRounded_76 : decode cX0_storeRounded 76 = .ok (.lconst 1, 1) := by decide +kernel
theorem dX0_storeRounded_77 : decode cX0_storeRounded 77 = .ok (.lsub, 1) := by decide +kernel
theorem dX0_storeRounded_78 : decode cX0_storeRounded 78 = .ok (.land, 1) := by decide +kernel
theorem dX0_storeRounded_79 : decode cX0_storeRounded 79 = .ok (.lconst 0, 1) := by decide +kernel
theorem dX0_storeRounded_80 : decode cX0_storeRounded 80 = .ok (.lcmp, 1) := by decide +kernel
theorem dX0_storeRounded_81 : decode cX0_storeRounded 81 = .ok (.ifCond .eq 7, 3) := by decide +kernel
theorem dX0_storeRounded_84 : decode cX0_storeRounded 84 = .ok (.iconst 1, 1) := by decide +kernel
theorem dX0_storeRounded_85 : decode cX0_storeRounded 85 = .ok (.goto 4, 3) := by decide +kernel
theorem dX0_storeRounded_88 : decode cX0_storeRounded 88 = .ok (.iconst 0, 1) := by decide +kernel
theorem dX0_storeRounded_89 : decode cX0_storeRounded 89 = .ok (.istore 11, 2) := by decide +kernel
theorem dX0_storeRounded_91 : decode cX0_storeRounded 91 = .ok (.lload 8, 2) := by decide +kernel
theorem dX0_storeRounded_93 : decode cX0_storeRounded 93 = .ok (.lconst 1, 1) := by decide +kernel
theorem dX0_storeRounded_94 : decode cX0_storeRounded 94 = .ok (.iload 10, 2) := by decide +kernel
theorem dX0_storeRounded_96 : decode cX0_storeRounded 96 = .ok (.iconst 1, 1) := by decide +kernel
theorem dX0_storeRounded_97 : decode cX0_storeRounded 97 = .ok (.isub, 1) := by decide +kernel
theorem dX0_storeRounded_98 : decode cX0_storeRounded 98 = .ok (.lshl, 1) := by decide +kernel
theorem dX0_storeRounded_99 : decode cX0_storeRounded 99 = .ok (.ladd, 1) := by decide +kernel
theorem dX0_storeRounded_100 : decode cX0_storeRounded 100 = .ok (.iload 10, 2) := by decide +kernel
theorem dX0_storeRounded_102 : decode cX0_storeRounded 102 = .ok (.lushr, 1) := by decide +kernel
theorem dX0_storeRounded_103 : decode cX0_storeRounded 103 = .ok (.iload 10, 2) := by decide +kernel
theorem dX0_storeRounded_105 : decode cX0_storeRounded 105 = .ok (.lshl, 1) := by decide +kernel
theorem dX0_storeRounded_106 : decode cX0_storeRounded 106 = .ok (.lstore 8, 2) := by decide +kernel
theorem dX0_storeRounded_108 : decode cX0_storeRounded 108 = .ok (.lload 8, 2) := by decide +kernel
theorem dX0_storeRounded_110 : decode cX0_storeRounded 110 = .ok (.lconst 0, 1) := by decide +kernel
theorem dX0_storeRounded_111 : decode cX0_storeRounded 111 = .ok (.lcmp, 1) := by decide +kernel
theorem dX0_storeRounded_112 : decode cX0_storeRounded 112 = .ok (.ifCond .ge 12, 3) := by decide +kernel
theorem dX0_storeRounded_115 : decode cX0_storeRounded 115 = .ok (.lload 8, 2) := by decide +kernel
theorem dX0_storeRounded_117 : decode cX0_storeRounded 117 = .ok (.iconst 1, 1) := by decide +kernel
theorem dX0_storeRounded_118 : decode cX0_storeRounded 118 = .ok (.lushr, 1) := by decide +kernel
theorem dX0_storeRounded_119 : decode cX0_storeRounded 119 = .ok (.lstore 8, 2) := by decide +kernel
theorem dX0_storeRounded_121 : decode cX0_storeRounded 121 = .ok (.iinc 7 1, 3) := by decide +kernel
theorem dX0_storeRounded_124 : decode cX0_storeRounded 124 = .ok (.iload 7, 2) := by decide +kernel
theorem dX0_storeRounded_126 : decode cX0_storeRounded 126 = .ok (.sipush 255, 3) := by decide +kernel
theorem dX0_storeRounded_129 : decode cX0_storeRounded 129 = .ok (.if_icmp .le 6, 3) := by decide +kernel
theorem dX0_storeRounded_132 : decode cX0_storeRounded 132 = .ok (.bipush (-2), 2) := by decide +kernel
theorem dX0_storeRounded_134 : decode cX0_storeRounded 134 = .ok (.ireturn, 1) := by decide +kernel
theorem dX0_storeRounded_135 : decode cX0_storeRounded 135 = .ok (.iload 7, 2) := by decide +kernel
theorem dX0_storeRounded_137 : decode cX0_storeRounded 137 = .ok (.iconst 1, 1) := by decide +kernel
theorem dX0_storeRounded_138 : decode cX0_storeRounded 138 = .ok (.if_icmp .ge 22, 3) := by decide +kernel
theorem dX0_storeRounded_141 : decode cX0_storeRounded 141 = .ok (.aload_n 0, 1) := by decide +kernel
theorem dX0_storeRounded_142 : decode cX0_storeRounded 142 = .ok (.getfield 13, 3) := by decide +kernel
theorem dX0_storeRounded_145 : decode cX0_storeRounded 145 = .ok (.ifCond .eq 8, 3) := by decide +kernel
theorem dX0_storeRounded_148 : decode cX0_storeRounded 148 = .ok (.bipush (-3), 2) := by decide +kernel
theorem dX0_storeRounded_150 : decode cX0_storeRounded 150 = .ok (.goto 9, 3) := by decide +kernel
theorem dX0_storeRounded_153 : decode cX0_storeRounded 153 = .ok (.aload_n 0, 1) := by decide +kernel
theorem dX0_storeRounded_154 : decode cX0_storeRounded 154 = .ok (.iload_n 2, 1) := by decide +kernel
theorem dX0_storeRounded_155 : decode cX0_storeRounded 155 = .ok (.iconst 1, 1) := by decide +kernel
theorem dX0_storeRounded_156 : decode cX0_storeRounded 156 = .ok (.invokevirtual 93, 3) := by decide +kernel
theorem dX0_storeRounded_159 : decode cX0_storeRounded 159 = .ok (.ireturn, 1) := by decide +kernel
theorem dX0_storeRounded_160 : decode cX0_storeRounded 160 = .ok (.aload_n 0, 1) := by decide +kernel
theorem dX0_storeRounded_161 : decode cX0_storeRounded 161 = .ok (.getfield 9, 3) := by decide +kernel
theorem dX0_storeRounded_164 : decode cX0_storeRounded 164 = .ok (.iload_n 2, 1) := by decide +kernel
theorem dX0_storeRounded_165 : decode cX0_storeRounded 165 = .ok (.iload_n 3, 1) := by decide +kernel
theorem dX0_storeRounded_166 : decode cX0_storeRounded 166 = .ok (.iload 7, 2) := by decide +kernel
theorem dX0_storeRounded_168 : decode cX0_storeRounded 168 = .ok (.lload 8, 2) := by decide +kernel
theorem dX0_storeRounded_170 : decode cX0_storeRounded 170 = .ok (.bipush 7, 2) := by decide +kernel
theorem dX0_storeRounded_172 : decode cX0_storeRounded 172 = .ok (.lushr, 1) := by decide +kernel
theorem dX0_storeRounded_173 : decode cX0_storeRounded 173 = .ok (.ldc2_w 89, 3) := by decide +kernel
theorem dX0_storeRounded_176 : decode cX0_storeRounded 176 = .ok (.land, 1) := by decide +kernel
theorem dX0_storeRounded_177 : decode cX0_storeRounded 177 = .ok (.invokestatic 105, 3) := by decide +kernel
theorem dX0_storeRounded_180 : decode cX0_storeRounded 180 = .ok (.lastore, 1) := by decide +kernel
theorem dX0_storeRounded_181 : decode cX0_storeRounded 181 = .ok (.aload_n 0, 1) := by decide +kernel
theorem dX0_storeRounded_182 : decode cX0_storeRounded 182 = .ok (.iload 11, 2) := by decide +kernel
theorem dX0_storeRounded_184 : decode cX0_storeRounded 184 = .ok (.putfield 17, 3) := by decide +kernel
theorem dX0_storeRounded_187 : decode cX0_storeRounded 187 = .ok (.iload_n 3, 1) := by decide +kernel
theorem dX0_storeRounded_188 : decode cX0_storeRounded 188 = .ok (.ifCond .eq 8, 3) := by decide +kernel
theorem dX0_storeRounded_191 : decode cX0_storeRounded 191 = .ok (.bipush 8, 2) := by decide +kernel
theorem dX0_storeRounded_193 : decode cX0_storeRounded 193 = .ok (.goto 4, 3) := by decide +kernel
theorem dX0_storeRounded_196 : decode cX0_storeRounded 196 = .ok (.iconst 0, 1) := by decide +kernel
theorem dX0_storeRounded_197 : decode cX0_storeRounded 197 = .ok (.ireturn, 1) := by decide +kernel
set_option maxRecDepth 20000 in
theorem ggX0_storeSum_X0_storeValue : GoodIn wsX0_storeSum wsX0_storeValue := goodIn_r _ [9, 10, 11, 12, 8, 13, 14, 15, 16, 17, 18, 1, 2, 3, 4, 19, 20, 21, 22, 23, 24, 25, 26, 27, 28, 29, 30, 31, 32, 33, 34, 38, 39, 40] (by decide +kernel) (by decide +kernel)
set_option maxRecDepth 20000 in
theorem gX0_storeSum_X0_storeValue : GoodIn wsX0_storeSum (wsV RX0 42 RX0 yX0_storeValue wsX0_storeValue) := goodIn_app (goodIn_of _ (by decide +kernel)) ggX0_storeSum_X0_storeValue
set_option maxRecDepth 20000 in
theorem ggX0_storeSum_X0_exponentOf : GoodIn wsX0_storeSum wsX0_exponentOf := goodIn_r _ [18, 1, 2, 3, 4] (by decide +kernel) (by decide +kernel)
set_option maxRecDepth 20000 in
theorem gX0_storeSum_X0_exponentOf : GoodIn wsX0_storeSum (va_wsS RX0 97 yX0_exponentOf wsX0_exponentOf) := goodIn_app (goodIn_of _ (by decide +kernel)) ggX0_storeSum_X0_exponentOf
set_option maxRecDepth 20000 in
theorem ggX0_storeSum_X0_significandOf : GoodIn wsX0_storeSum wsX0_significandOf := goodIn_r _ [21, 1, 2, 3, 4, 22, 23] (by decide +kernel) (by decide +kernel)
set_option maxRecDepth 20000 in
theorem gX0_storeSum_X0_significandOf : GoodIn wsX0_storeSum (va_wsS RX0 100 yX0_significandOf wsX0_significandOf) := goodIn_app (goodIn_of _ (by decide +kernel)) ggX0_storeSum_X0_significandOf
set_option maxRecDepth 20000 in
theorem ggX0_storeSum_X0_shiftedDown : GoodIn wsX0_storeSum wsX0_shiftedDown := goodIn_r _ [37] (by decide +kernel) (by decide +kernel)
set_option maxRecDepth 20000 in
theorem gX0_storeSum_X0_shiftedDown : GoodIn wsX0_storeSum (va_wsS RX0 109 yX0_shiftedDown wsX0_shiftedDown) := goodIn_app (goodIn_of _ (by decide +kernel)) ggX0_storeSum_X0_shiftedDown
set_option maxRecDepth 20000 in
theorem ggX0_storeSum_X0_storeRounded : GoodIn wsX0_storeSum wsX0_storeRounded := goodIn_r _ [27, 28, 29, 14, 22, 15, 10, 11, 12, 8, 13, 30, 31, 32, 33, 34, 38, 39, 40] (by decide +kernel) (by decide +kernel)
set_option maxRecDepth 20000 in
theorem gX0_storeSum_X0_storeRounded : GoodIn wsX0_storeSum (wsV RX0 69 RX0 yX0_storeRounded wsX0_storeRounded) := goodIn_app (goodIn_of _ (by decide +kernel)) ggX0_storeSum_X0_storeRounded
theorem dX0_storeSum_0 : decode cX0_storeSum 0 = .ok (.lload_n 3, 1) := by decide +kernel
theorem dX0_storeSum_1 : decode cX0_storeSum 1 = .ok (.lconst 0, 1) := by decide +kernel
theorem dX0_storeSum_2 : decode cX0_storeSum 2 = .ok (.lcmp, 1) := by decide +kernel
theorem dX0_storeSum_3 : decode cX0_storeSum 3 = .ok (.ifCond .eq 10, 3) := by decide +kernel
theorem dX0_storeSum_6 : decode cX0_storeSum 6 = .ok (.lload 5, 2) := by decide +kernel
theorem dX0_storeSum_8 : decode cX0_storeSum 8 = .ok (.lconst 0, 1) := by decide +kernel
theorem dX0_storeSum_9 : decode cX0_storeSum 9 = .ok (.lcmp, 1) := by decide +kernel
theorem dX0_storeSum_10 : decode cX0_storeSum 10 = .ok (.ifCond .ne 22, 3) := by decide +kernel
theorem dX0_storeSum_13 : decode cX0_storeSum 13 = .ok (.aload_n 0, 1) := by decide +kernel
theorem dX0_storeSum_14 : decode cX0_storeSum 14 = .ok (.iload_n 1, 1) := by decide +kernel
theorem dX0_storeSum_15 : decode cX0_storeSum 15 = .ok (.iload_n 2, 1) := by decide +kernel
theorem dX0_storeSum_16 : decode cX0_storeSum 16 = .ok (.lload_n 3, 1) := by decide +kernel
theorem dX0_storeSum_17 : decode cX0_storeSum 17 = .ok (.lconst 0, 1) := by decide +kernel
theorem dX0_storeSum_18 : decode cX0_storeSum 18 = .ok (.lcmp, 1) := by decide +kernel
theorem dX0_storeSum_19 : decode cX0_storeSum 19 = .ok (.ifCond .ne 8, 3) := by decide +kernel
theorem dX0_storeSum_22 : decode cX0_storeSum 22 = .ok (.lload 5, 2) := by decide +kernel
theorem dX0_storeSum_24 : decode cX0_storeSum 24 = .ok (.goto 4, 3) := by decide +kernel
theorem dX0_storeSum_27 : decode cX0_storeSum 27 = .ok (.lload_n 3, 1) := by decide +kernel
theorem dX0_storeSum_28 : decode cX0_storeSum 28 = .ok (.invokevirtual 42, 3) := by decide +kernel
theorem dX0_storeSum_31 : decode cX0_storeSum 31 = .ok (.ireturn, 1) := by decide +kernel
theorem dX0_storeSum_32 : decode cX0_storeSum 32 = .ok (.lload_n 3, 1) := by decide +kernel
theorem dX0_storeSum_33 : decode cX0_storeSum 33 = .ok (.invokestatic 63, 3) := by decide +kernel
theorem dX0_storeSum_36 : decode cX0_storeSum 36 = .ok (.lload 5, 2) := by decide +kernel
theorem dX0_storeSum_38 : decode cX0_storeSum 38 = .ok (.invokestatic 63, 3) := by decide +kernel
theorem dX0_storeSum_41 : decode cX0_storeSum 41 = .ok (.lcmp, 1) := by decide +kernel
theorem dX0_storeSum_42 : decode cX0_storeSum 42 = .ok (.ifCond .lt 7, 3) := by decide +kernel
theorem dX0_storeSum_45 : decode cX0_storeSum 45 = .ok (.iconst 1, 1) := by decide +kernel
theorem dX0_storeSum_46 : decode cX0_storeSum 46 = .ok (.goto 4, 3) := by decide +kernel
theorem dX0_storeSum_49 : decode cX0_storeSum 49 = .ok (.iconst 0, 1) := by decide +kernel
theorem dX0_storeSum_50 : decode cX0_storeSum 50 = .ok (.istore 7, 2) := by decide +kernel
theorem dX0_storeSum_52 : decode cX0_storeSum 52 = .ok (.iload 7, 2) := by decide +kernel
theorem dX0_storeSum_54 : decode cX0_storeSum 54 = .ok (.ifCond .eq 7, 3) := by decide +kernel
theorem dX0_storeSum_57 : decode cX0_storeSum 57 = .ok (.lload_n 3, 1) := by decide +kernel
theorem dX0_storeSum_58 : decode cX0_storeSum 58 = .ok (.goto 5, 3) := by decide +kernel
theorem dX0_storeSum_61 : decode cX0_storeSum 61 = .ok (.lload 5, 2) := by decide +kernel
theorem dX0_storeSum_63 : decode cX0_storeSum 63 = .ok (.lstore 8, 2) := by decide +kernel
theorem dX0_storeSum_65 : decode cX0_storeSum 65 = .ok (.iload 7, 2) := by decide +kernel
theorem dX0_storeSum_67 : decode cX0_storeSum 67 = .ok (.ifCond .eq 8, 3) := by decide +kernel
theorem dX0_storeSum_70 : decode cX0_storeSum 70 = .ok (.lload 5, 2) := by decide +kernel
theorem dX0_storeSum_72 : decode cX0_storeSum 72 = .ok (.goto 4, 3) := by decide +kernel
theorem dX0_storeSum_75 : decode cX0_storeSum 75 = .ok (.lload_n 3, 1) := by decide +kernel
theorem dX0_storeSum_76 : decode cX0_storeSum 76 = .ok (.lstore 10, 2) := by decide +kernel
theorem dX0_storeSum_78 : decode cX0_storeSum 78 = .ok (.bipush 6, 2) := by decide +kernel
theorem dX0_storeSum_80 : decode cX0_storeSum 80 = .ok (.istore 12, 2) := by decide +kernel
theorem dX0_storeSum_82 : decode cX0_storeSum 82 = .ok (.lload 8, 2) := by decide +kernel
theorem dX0_storeSum_84 : decode cX0_storeSum 84 = .ok (.invokestatic 97, 3) := by decide +kernel
theorem dX0_storeSum_87 : decode cX0_storeSum 87 = .ok (.lload 10, 2) := by decide +kernel
theorem dX0_storeSum_89 : decode cX0_storeSum 89 = .ok (.invokestatic 97, 3) := by decide +kernel
theorem dX0_storeSum_92 : decode cX0_storeSum 92 = .ok (.isub, 1) := by decide +kernel
theorem dX0_storeSum_93 : decode cX0_storeSum 93 = .ok (.istore 13, 2) := by decide +kernel
theorem dX0_storeSum_95 : decode cX0_storeSum 95 = .ok (.lload 8, 2) := by decide +kernel
theorem dX0_storeSum_97 : decode cX0_storeSum 97 = .ok (.invokestatic 100, 3) := by decide +kernel
theorem dX0_storeSum_100 : decode cX0_storeSum 100 = .ok (.iload 12, 2) := by decide +kernel
theorem dX0_storeSum_102 : decode cX0_storeSum 102 = .ok (.lshl, 1) := by decide +kernel
theorem dX0_storeSum_103 : decode cX0_storeSum 103 = .ok (.lstore 14, 2) := by decide +kernel
theorem dX0_storeSum_105 : decode cX0_storeSum 105 = .ok (.lload 10, 2) := by decide +kernel
theorem dX0_storeSum_107 : decode cX0_storeSum 107 = .ok (.invokestatic 100, 3) := by decide +kernel
theorem dX0_storeSum_110 : decode cX0_storeSum 110 = .ok (.iload 12, 2) := by decide +kernel
theorem dX0_storeSum_112 : decode cX0_storeSum 112 = .ok (.lshl, 1) := by decide +kernel
theorem dX0_storeSum_113 : decode cX0_storeSum 113 = .ok (.iload 13, 2) := by decide +kernel
theorem dX0_storeSum_115 : decode cX0_storeSum 115 = .ok (.invokestatic 109, 3) := by decide +kernel
theorem dX0_storeSum_118 : decode cX0_storeSum 118 = .ok (.lstore 16, 2) := by decide +kernel
theorem dX0_storeSum_120 : decode cX0_storeSum 120 = .ok (.lload 8, 2) := by decide +kernel
theorem dX0_storeSum_122 : decode cX0_storeSum 122 = .ok (.lconst 0, 1) := by decide +kernel
theorem dX0_storeSum_123 : decode cX0_storeSum 123 = .ok (.lcmp, 1) := by decide +kernel
theorem dX0_storeSum_124 : decode cX0_storeSum 124 = .ok (.ifCond .ge 7, 3) := by decide +kernel
theorem dX0_storeSum_127 : decode cX0_storeSum 127 = .ok (.iconst 1, 1) := by decide +kernel
theorem dX0_storeSum_128 : decode cX0_storeSum 128 = .ok (.goto 4, 3) := by decide +kernel
theorem dX0_storeSum_131 : decode cX0_storeSum 131 = .ok (.iconst 0, 1) := by decide +kernel
theorem dX0_storeSum_132 : decode cX0_storeSum 132 = .ok (.lload 10, 2) := by decide +kernel
theorem dX0_storeSum_134 : decode cX0_storeSum 134 = .ok (.lconst 0, 1) := by decide +kernel
theorem dX0_storeSum_135 : decode cX0_storeSum 135 = .ok (.lcmp, 1) := by decide +kernel
theorem dX0_storeSum_136 : decode cX0_storeSum 136 = .ok (.ifCond .ge 7, 3) := by decide +kernel
theorem dX0_storeSum_139 : decode cX0_storeSum 139 = .ok (.iconst 1, 1) := by decide +kernel
theorem dX0_storeSum_140 : decode cX0_storeSum 140 = .ok (.goto 4, 3) := by decide +kernel
theorem dX0_storeSum_143 : decode cX0_storeSum 143 = .ok (.iconst 0, 1) := by decide +kernel
theorem dX0_storeSum_144 : decode cX0_storeSum 144 = .ok (.if_icmp .ne 7, 3) := by decide +kernel
theorem dX0_storeSum_147 : decode cX0_storeSum 147 = .ok (.iconst 1, 1) := by decide +kernel
theorem dX0_storeSum_148 : decode cX0_storeSum 148 = .ok (.goto 4, 3) := by decide +kernel
theorem dX0_storeSum_151 : decode cX0_storeSum 151 = .ok (.iconst 0, 1) := by decide +kernel
theorem dX0_storeSum_152 : decode cX0_storeSum 152 = .ok (.istore 18, 2) := by decide +kernel
theorem dX0_storeSum_154 : decode cX0_storeSum 154 = .ok (.iload 18, 2) := by decide +kernel
theorem dX0_storeSum_156 : decode cX0_storeSum 156 = .ok (.ifCond .eq 11, 3) := by decide +kernel
theorem dX0_storeSum_159 : decode cX0_storeSum 159 = .ok (.lload 14, 2) := by decide +kernel
theorem dX0_storeSum_161 : decode cX0_storeSum 161 = .ok (.lload 16, 2) := by decide +kernel
theorem dX0_storeSum_163 : decode cX0_storeSum 163 = .ok (.ladd, 1) := by decide +kernel
theorem dX0_storeSum_164 : decode cX0_storeSum 164 = .ok (.goto 8, 3) := by decide +kernel
theorem dX0_storeSum_167 : decode cX0_storeSum 167 = .ok (.lload 14, 2) := by decide +kernel
theorem dX0_storeSum_169 : decode cX0_storeSum 169 = .ok (.lload 16, 2) := by decide +kernel
theorem dX0_storeSum_171 : decode cX0_storeSum 171 = .ok (.lsub, 1) := by decide +kernel
theorem dX0_storeSum_172 : decode cX0_storeSum 172 = .ok (.lstore 19, 2) := by decide +kernel
theorem dX0_storeSum_174 : decode cX0_storeSum 174 = .ok (.aload_n 0, 1) := by decide +kernel
theorem dX0_storeSum_175 : decode cX0_storeSum 175 = .ok (.iload_n 1, 1) := by decide +kernel
theorem dX0_storeSum_176 : decode cX0_storeSum 176 = .ok (.iload_n 2, 1) := by decide +kernel
theorem dX0_storeSum_177 : decode cX0_storeSum 177 = .ok (.lload 8, 2) := by decide +kernel
theorem dX0_storeSum_179 : decode cX0_storeSum 179 = .ok (.lconst 0, 1) := by decide +kernel
theorem dX0_storeSum_180 : decode cX0_storeSum 180 = .ok (.lcmp, 1) := by decide +kernel
theorem dX0_storeSum_181 : decode cX0_storeSum 181 = .ok (.ifCond .ge 7, 3) := by decide +kernel
theorem dX0_storeSum_184 : decode cX0_storeSum 184 = .ok (.iconst 1, 1) := by decide +kernel
theorem dX0_storeSum_185 : decode cX0_storeSum 185 = .ok (.goto 4, 3) := by decide +kernel
theorem dX0_storeSum_188 : decode cX0_storeSum 188 = .ok (.iconst 0, 1) := by decide +kernel
theorem dX0_storeSum_189 : decode cX0_storeSum 189 = .ok (.lload 8, 2) := by decide +kernel
theorem dX0_storeSum_191 : decode cX0_storeSum 191 = .ok (.invokestatic 97, 3) := by decide +kernel
theorem dX0_storeSum_194 : decode cX0_storeSum 194 = .ok (.iconst 1, 1) := by decide +kernel
theorem dX0_storeSum_195 : decode cX0_storeSum 195 = .ok (.iadd, 1) := by decide +kernel
theorem dX0_storeSum_196 : decode cX0_storeSum 196 = .ok (.lload 19, 2) := by decide +kernel
theorem dX0_storeSum_198 : decode cX0_storeSum 198 = .ok (.invokevirtual 69, 3) := by decide +kernel
theorem dX0_storeSum_201 : decode cX0_storeSum 201 = .ok (.ireturn, 1) := by decide +kernel
theorem dX0_shiftedDown_0 : decode cX0_shiftedDown 0 = .ok (.iload_n 2, 1) := by decide +kernel
theorem dX0_shiftedDown_1 : decode cX0_shiftedDown 1 = .ok (.bipush 63, 2) := by decide +kernel
theorem dX0_shiftedDown_3 : decode cX0_shiftedDown 3 = .ok (.if_icmp .lt 5, 3) := by decide +kernel
theorem dX0_shiftedDown_6 : decode cX0_shiftedDown 6 = .ok (.lconst 1, 1) := by decide +kernel
theorem dX0_shiftedDown_7 : decode cX0_shiftedDown 7 = .ok (.lreturn, 1) := by decide +kernel
theorem dX0_shiftedDown_8 : decode cX0_shiftedDown 8 = .ok (.lload_n 0, 1) := by decide +kernel
theorem dX0_shiftedDown_9 : decode cX0_shiftedDown 9 = .ok (.iload_n 2, 1) := by decide +kernel
theorem dX0_shiftedDown_10 : decode cX0_shiftedDown 10 = .ok (.lushr, 1) := by decide +kernel
theorem dX0_shiftedDown_11 : decode cX0_shiftedDown 11 = .ok (.lstore_n 3, 1) := by decide +kernel
theorem dX0_shiftedDown_12 : decode cX0_shiftedDown 12 = .ok (.lload_n 3, 1) := by decide +kernel
theorem dX0_shiftedDown_13 : decode cX0_shiftedDown 13 = .ok (.iload_n 2, 1) := by decide +kernel
theorem dX0_shiftedDown_14 : decode cX0_shiftedDown 14 = .ok (.lshl, 1) := by decide +kernel
theorem dX0_shiftedDown_15 : decode cX0_shiftedDown 15 = .ok (.lload_n 0, 1) := by decide +kernel
theorem dX0_shiftedDown_16 : decode cX0_shiftedDown 16 = .ok (.lcmp, 1) := by decide +kernel
theorem dX0_shiftedDown_17 : decode cX0_shiftedDown 17 = .ok (.ifCond .ne 7, 3) := by decide +kernel
theorem dX0_shiftedDown_20 : decode cX0_shiftedDown 20 = .ok (.lload_n 3, 1) := by decide +kernel
theorem dX0_shiftedDown_21 : decode cX0_shiftedDown 21 = .ok (.goto 6, 3) := by decide +kernel
theorem dX0_shiftedDown_24 : decode cX0_shiftedDown 24 = .ok (.lload_n 3, 1) := by decide +kernel
theorem dX0_shiftedDown_25 : decode cX0_shiftedDown 25 = .ok (.lconst 1, 1) := by decide +kernel
theorem dX0_shiftedDown_26 : decode cX0_shiftedDown 26 = .ok (.lor, 1) := by decide +kernel
theorem dX0_shiftedDown_27 : decode cX0_shiftedDown 27 = .ok (.lreturn, 1) := by decide +kernel
set_option maxRecDepth 20000 in
theorem ggX0_storeProduct_X0_storeZero : GoodIn wsX0_storeProduct wsX0_storeZero := goodIn_r _ [5, 6, 7, 36, 37, 38] (by decide +kernel) (by decide +kernel)
set_option maxRecDepth 20000 in
theorem gX0_storeProduct_X0_storeZero : GoodIn wsX0_storeProduct (wsV RX0 93 RX0 yX0_storeZero wsX0_storeZero) := goodIn_app (goodIn_of _ (by decide +kernel)) ggX0_storeProduct_X0_storeZero
set_option maxRecDepth 20000 in
theorem ggX0_storeProduct_X0_significandOf : GoodIn wsX0_storeProduct wsX0_significandOf := goodIn_r _ [10, 11, 12, 13, 14, 15, 16] (by decide +kernel) (by decide +kernel)
set_option maxRecDepth 20000 in
theorem gX0_storeProduct_X0_significandOf : GoodIn wsX0_storeProduct (va_wsS RX0 100 yX0_significandOf wsX0_significandOf) := goodIn_app (goodIn_of _ (by decide +kernel)) ggX0_storeProduct_X0_significandOf
set_option maxRecDepth 20000 in
theorem ggX0_storeProduct_X0_wideProduct : GoodIn wsX0_storeProduct wsX0_wideProduct := goodIn_r _ [19, 20, 21] (by decide +kernel) (by decide +kernel)
set_option maxRecDepth 20000 in
theorem gX0_storeProduct_X0_wideProduct : GoodIn wsX0_storeProduct (va_wsS RX0 113 yX0_wideProduct wsX0_wideProduct) := goodIn_app (goodIn_of _ (by decide +kernel)) ggX0_storeProduct_X0_wideProduct
set_option maxRecDepth 20000 in
theorem ggX0_storeProduct_X0_exponentOf : GoodIn wsX0_storeProduct wsX0_exponentOf := goodIn_r _ [24, 11, 12, 13, 14] (by decide +kernel) (by decide +kernel)
set_option maxRecDepth 20000 in
theorem gX0_storeProduct_X0_exponentOf : GoodIn wsX0_storeProduct (va_wsS RX0 97 yX0_exponentOf wsX0_exponentOf) := goodIn_app (goodIn_of _ (by decide +kernel)) ggX0_storeProduct_X0_exponentOf
set_option maxRecDepth 20000 in
theorem ggX0_storeProduct_X0_storeRounded : GoodIn wsX0_storeProduct wsX0_storeRounded := goodIn_r _ [28, 29, 30, 6, 15, 7, 1, 2, 3, 4, 5, 31, 32, 33, 34, 35, 36, 37, 38] (by decide +kernel) (by decide +kernel)
set_option maxRecDepth 20000 in
theorem gX0_storeProduct_X0_storeRounded : GoodIn wsX0_storeProduct (wsV RX0 69 RX0 yX0_storeRounded wsX0_storeRounded) := goodIn_app (goodIn_of _ (by decide +kernel)) ggX0_storeProduct_X0_storeRounded
theorem dX0_storeProduct_0 : decode cX0_storeProduct 0 = .ok (.lload_n 3, 1) := by decide +kernel
theorem dX0_storeProduct_1 : decode cX0_storeProduct 1 = .ok (.lconst 0, 1) := by decide +kernel
theorem dX0_storeProduct_2 : decode cX0_storeProduct 2 = .ok (.lcmp, 1) := by decide +kernel
theorem dX0_storeProduct_3 : decode cX0_storeProduct 3 = .ok (.ifCond .eq 10, 3) := by decide +kernel
theorem dX0_storeProduct_6 : decode cX0_storeProduct 6 = .ok (.lload 5, 2) := by decide +kernel
theorem dX0_storeProduct_8 : decode cX0_storeProduct 8 = .ok (.lconst 0, 1) := by decide +kernel
theorem dX0_storeProduct_9 : decode cX0_storeProduct 9 = .ok (.lcmp, 1) := by decide +kernel
theorem dX0_storeProduct_10 : decode cX0_storeProduct 10 = .ok (.ifCond .ne 10, 3) := by decide +kernel
theorem dX0_storeProduct_13 : decode cX0_storeProduct 13 = .ok (.aload_n 0, 1) := by decide +kernel
theorem dX0_storeProduct_14 : decode cX0_storeProduct 14 = .ok (.iload_n 2, 1) := by decide +kernel
theorem dX0_storeProduct_15 : decode cX0_storeProduct 15 = .ok (.iconst 0, 1) := by decide +kernel
theorem dX0_storeProduct_16 : decode cX0_storeProduct 16 = .ok (.invokevirtual 93, 3) := by decide +kernel
theorem dX0_storeProduct_19 : decode cX0_storeProduct 19 = .ok (.ireturn, 1) := by decide +kernel
theorem dX0_storeProduct_20 : decode cX0_storeProduct 20 = .ok (.lload_n 3, 1) := by decide +kernel
theorem dX0_storeProduct_21 : decode cX0_storeProduct 21 = .ok (.invokestatic 100, 3) := by decide +kernel
theorem dX0_storeProduct_24 : decode cX0_storeProduct 24 = .ok (.lload 5, 2) := by decide +kernel
theorem dX0_storeProduct_26 : decode cX0_storeProduct 26 = .ok (.invokestatic 100, 3) := by decide +kernel
theorem dX0_storeProduct_29 : decode cX0_storeProduct 29 = .ok (.invokestatic 113, 3) := by decide +kernel
theorem dX0_storeProduct_32 : decode cX0_storeProduct 32 = .ok (.lstore 7, 2) := by decide +kernel
theorem dX0_storeProduct_34 : decode cX0_storeProduct 34 = .ok (.aload_n 0, 1) := by decide +kernel
theorem dX0_storeProduct_35 : decode cX0_storeProduct 35 = .ok (.iload_n 1, 1) := by decide +kernel
theorem dX0_storeProduct_36 : decode cX0_storeProduct 36 = .ok (.iload_n 2, 1) := by decide +kernel
theorem dX0_storeProduct_37 : decode cX0_storeProduct 37 = .ok (.lload_n 3, 1) := by decide +kernel
theorem dX0_storeProduct_38 : decode cX0_storeProduct 38 = .ok (.lconst 0, 1) := by decide +kernel
theorem dX0_storeProduct_39 : decode cX0_storeProduct 39 = .ok (.lcmp, 1) := by decide +kernel
theorem dX0_storeProduct_40 : decode cX0_storeProduct 40 = .ok (.ifCond .ge 7, 3) := by decide +kernel
theorem dX0_storeProduct_43 : decode cX0_storeProduct 43 = .ok (.iconst 1, 1) := by decide +kernel
theorem dX0_storeProduct_44 : decode cX0_storeProduct 44 = .ok (.goto 4, 3) := by decide +kernel
theorem dX0_storeProduct_47 : decode cX0_storeProduct 47 = .ok (.iconst 0, 1) := by decide +kernel
theorem dX0_storeProduct_48 : decode cX0_storeProduct 48 = .ok (.lload 5, 2) := by decide +kernel
theorem dX0_storeProduct_50 : decode cX0_storeProduct 50 = .ok (.lconst 0, 1) := by decide +kernel
theorem dX0_storeProduct_51 : decode cX0_storeProduct 51 = .ok (.lcmp, 1) := by decide +kernel
theorem dX0_storeProduct_52 : decode cX0_storeProduct 52 = .ok (.ifCond .ge 7, 3) := by decide +kernel
theorem dX0_storeProduct_55 : decode cX0_storeProduct 55 = .ok (.iconst 1, 1) := by decide +kernel
theorem dX0_storeProduct_56 : decode cX0_storeProduct 56 = .ok (.goto 4, 3) := by decide +kernel
theorem dX0_storeProduct_59 : decode cX0_storeProduct 59 = .ok (.iconst 0, 1) := by decide +kernel
theorem dX0_storeProduct_60 : decode cX0_storeProduct 60 = .ok (.if_icmp .eq 7, 3) := by decide +kernel
theorem dX0_storeProduct_63 : decode cX0_storeProduct 63 = .ok (.iconst 1, 1) := by decide +kernel
theorem dX0_storeProduct_64 : decode cX0_storeProduct 64 = .ok (.goto 4, 3) := by decide +kernel
theorem dX0_storeProduct_67 : decode cX0_storeProduct 67 = .ok (.iconst 0, 1) := by decide +kernel
theorem dX0_storeProduct_68 : decode cX0_storeProduct 68 = .ok (.lload_n 3, 1) := by decide +kernel
theorem dX0_storeProduct_69 : decode cX0_storeProduct 69 = .ok (.invokestatic 97, 3) := by decide +kernel
theorem dX0_storeProduct_72 : decode cX0_storeProduct 72 = .ok (.lload 5, 2) := by decide +kernel
theorem dX0_storeProduct_74 : decode cX0_storeProduct 74 = .ok (.invokestatic 97, 3) := by decide +kernel
theorem dX0_storeProduct_77 : decode cX0_storeProduct 77 = .ok (.iadd, 1) := by decide +kernel
theorem dX0_storeProduct_78 : decode cX0_storeProduct 78 = .ok (.sipush 128, 3) := by decide +kernel
theorem dX0_storeProduct_81 : decode cX0_storeProduct 81 = .ok (.isub, 1) := by decide +kernel
theorem dX0_storeProduct_82 : decode cX0_storeProduct 82 = .ok (.lload 7, 2) := by decide +kernel
theorem dX0_storeProduct_84 : decode cX0_storeProduct 84 = .ok (.invokevirtual 69, 3) := by decide +kernel
theorem dX0_storeProduct_87 : decode cX0_storeProduct 87 = .ok (.ireturn, 1) := by decide +kernel
theorem dX0_wideProduct_0 : decode cX0_wideProduct 0 = .ok (.lload_n 0, 1) := by decide +kernel
theorem dX0_wideProduct_1 : decode cX0_wideProduct 1 = .ok (.bipush 28, 2) := by decide +kernel
theorem dX0_wideProduct_3 : decode cX0_wideProduct 3 = .ok (.lushr, 1) := by decide +kernel
theorem dX0_wideProduct_4 : decode cX0_wideProduct 4 = .ok (.lstore 4, 2) := by decide +kernel
theorem dX0_wideProduct_6 : decode cX0_wideProduct 6 = .ok (.lload_n 0, 1) := by decide +kernel
theorem dX0_wideProduct_7 : decode cX0_wideProduct 7 = .ok (.ldc2_w 117, 3) := by decide +kernel
theorem dX0_wideProduct_10 : decode cX0_wideProduct 10 = .ok (.land, 1) := by decide +kernel
theorem dX0_wideProduct_11 : decode cX0_wideProduct 11 = .ok (.lstore 6, 2) := by decide +kernel
theorem dX0_wideProduct_13 : decode cX0_wideProduct 13 = .ok (.lload_n 2, 1) := by decide +kernel
theorem dX0_wideProduct_14 : decode cX0_wideProduct 14 = .ok (.bipush 28, 2) := by decide +kernel
theorem dX0_wideProduct_16 : decode cX0_wideProduct 16 = .ok (.lushr, 1) := by decide +kernel
theorem dX0_wideProduct_17 : decode cX0_wideProduct 17 = .ok (.lstore 8, 2) := by decide +kernel
theorem dX0_wideProduct_19 : decode cX0_wideProduct 19 = .ok (.lload_n 2, 1) := by decide +kernel
theorem dX0_wideProduct_20 : decode cX0_wideProduct 20 = .ok (.ldc2_w 117, 3) := by decide +kernel
theorem dX0_wideProduct_23 : decode cX0_wideProduct 23 = .ok (.land, 1) := by decide +kernel
theorem dX0_wideProduct_24 : decode cX0_wideProduct 24 = .ok (.lstore 10, 2) := by decide +kernel
theorem dX0_wideProduct_26 : decode cX0_wideProduct 26 = .ok (.lload 4, 2) := by decide +kernel
theorem dX0_wideProduct_28 : decode cX0_wideProduct 28 = .ok (.lload 10, 2) := by decide +kernel
theorem dX0_wideProduct_30 : decode cX0_wideProduct 30 = .ok (.lmul, 1) := by decide +kernel
theorem dX0_wideProduct_31 : decode cX0_wideProduct 31 = .ok (.lload 6, 2) := by decide +kernel
theorem dX0_wideProduct_33 : decode cX0_wideProduct 33 = .ok (.lload 8, 2) := by decide +kernel
theorem dX0_wideProduct_35 : decode cX0_wideProduct 35 = .ok (.lmul, 1) := by decide +kernel
theorem dX0_wideProduct_36 : decode cX0_wideProduct 36 = .ok (.ladd, 1) := by decide +kernel
theorem dX0_wideProduct_37 : decode cX0_wideProduct 37 = .ok (.lstore 12, 2) := by decide +kernel
theorem dX0_wideProduct_39 : decode cX0_wideProduct 39 = .ok (.lload 6, 2) := by decide +kernel
theorem dX0_wideProduct_41 : decode cX0_wideProduct 41 = .ok (.lload 10, 2) := by decide +kernel
theorem dX0_wideProduct_43 : decode cX0_wideProduct 43 = .ok (.lmul, 1) := by decide +kernel
theorem dX0_wideProduct_44 : decode cX0_wideProduct 44 = .ok (.lload 12, 2) := by decide +kernel
theorem dX0_wideProduct_46 : decode cX0_wideProduct 46 = .ok (.ldc2_w 117, 3) := by decide +kernel
theorem dX0_wideProduct_49 : decode cX0_wideProduct 49 = .ok (.land, 1) := by decide +kernel
theorem dX0_wideProduct_50 : decode cX0_wideProduct 50 = .ok (.bipush 28, 2) := by decide +kernel
theorem dX0_wideProduct_52 : decode cX0_wideProduct 52 = .ok (.lshl, 1) := by decide +kernel
theorem dX0_wideProduct_53 : decode cX0_wideProduct 53 = .ok (.ladd, 1) := by decide +kernel
theorem dX0_wideProduct_54 : decode cX0_wideProduct 54 = .ok (.lstore 14, 2) := by decide +kernel
theorem dX0_wideProduct_56 : decode cX0_wideProduct 56 = .ok (.lload 4, 2) := by decide +kernel
theorem dX0_wideProduct_58 : decode cX0_wideProduct 58 = .ok (.lload 8, 2) := by decide +kernel
theorem dX0_wideProduct_60 : decode cX0_wideProduct 60 = .ok (.lmul, 1) := by decide +kernel
theorem dX0_wideProduct_61 : decode cX0_wideProduct 61 = .ok (.lload 12, 2) := by decide +kernel
theorem dX0_wideProduct_63 : decode cX0_wideProduct 63 = .ok (.bipush 28, 2) := by decide +kernel
theorem dX0_wideProduct_65 : decode cX0_wideProduct 65 = .ok (.lushr, 1) := by decide +kernel
theorem dX0_wideProduct_66 : decode cX0_wideProduct 66 = .ok (.ladd, 1) := by decide +kernel
theorem dX0_wideProduct_67 : decode cX0_wideProduct 67 = .ok (.lload 14, 2) := by decide +kernel
theorem dX0_wideProduct_69 : decode cX0_wideProduct 69 = .ok (.bipush 56, 2) := by decide +kernel
theorem dX0_wideProduct_71 : decode cX0_wideProduct 71 = .ok (.lushr, 1) := by decide +kernel
theorem dX0_wideProduct_72 : decode cX0_wideProduct 72 = .ok (.ladd, 1) := by decide +kernel
theorem dX0_wideProduct_73 : decode cX0_wideProduct 73 = .ok (.lstore 16, 2) := by decide +kernel
theorem dX0_wideProduct_75 : decode cX0_wideProduct 75 = .ok (.lload 14, 2) := by decide +kernel
theorem dX0_wideProduct_77 : decode cX0_wideProduct 77 = .ok (.ldc2_w 119, 3) := by decide +kernel
theorem dX0_wideProduct_80 : decode cX0_wideProduct 80 = .ok (.land, 1) := by decide +kernel
theorem dX0_wideProduct_81 : decode cX0_wideProduct 81 = .ok (.lstore 18, 2) := by decide +kernel
theorem dX0_wideProduct_83 : decode cX0_wideProduct 83 = .ok (.bipush 49, 2) := by decide +kernel
theorem dX0_wideProduct_85 : decode cX0_wideProduct 85 = .ok (.istore 20, 2) := by decide +kernel
theorem dX0_wideProduct_87 : decode cX0_wideProduct 87 = .ok (.lload 16, 2) := by decide +kernel
theorem dX0_wideProduct_89 : decode cX0_wideProduct 89 = .ok (.bipush 7, 2) := by decide +kernel
theorem dX0_wideProduct_91 : decode cX0_wideProduct 91 = .ok (.lshl, 1) := by decide +kernel
theorem dX0_wideProduct_92 : decode cX0_wideProduct 92 = .ok (.lload 18, 2) := by decide +kernel
theorem dX0_wideProduct_94 : decode cX0_wideProduct 94 = .ok (.iload 20, 2) := by decide +kernel
theorem dX0_wideProduct_96 : decode cX0_wideProduct 96 = .ok (.lushr, 1) := by decide +kernel
theorem dX0_wideProduct_97 : decode cX0_wideProduct 97 = .ok (.lor, 1) := by decide +kernel
theorem dX0_wideProduct_98 : decode cX0_wideProduct 98 = .ok (.lstore 21, 2) := by decide +kernel
theorem dX0_wideProduct_100 : decode cX0_wideProduct 100 = .ok (.lload 18, 2) := by decide +kernel
theorem dX0_wideProduct_102 : decode cX0_wideProduct 102 = .ok (.lconst 1, 1) := by decide +kernel
theorem dX0_wideProduct_103 : decode cX0_wideProduct 103 = .ok (.iload 20, 2) := by decide +kernel
theorem dX0_wideProduct_105 : decode cX0_wideProduct 105 = .ok (.lshl, 1) := by decide +kernel
theorem dX0_wideProduct_106 : decode cX0_wideProduct 106 = .ok (.lconst 1, 1) := by decide +kernel
theorem dX0_wideProduct_107 : decode cX0_wideProduct 107 = .ok (.lsub, 1) := by decide +kernel
theorem dX0_wideProduct_108 : decode cX0_wideProduct 108 = .ok (.land, 1) := by decide +kernel
theorem dX0_wideProduct_109 : decode cX0_wideProduct 109 = .ok (.lconst 0, 1) := by decide +kernel
theorem dX0_wideProduct_110 : decode cX0_wideProduct 110 = .ok (.lcmp, 1) := by decide +kernel
theorem dX0_wideProduct_111 : decode cX0_wideProduct 111 = .ok (.ifCond .eq 10, 3) := by decide +kernel
theorem dX0_wideProduct_114 : decode cX0_wideProduct 114 = .ok (.lload 21, 2) := by decide +kernel
theorem dX0_wideProduct_116 : decode cX0_wideProduct 116 = .ok (.lconst 1, 1) := by decide +kernel
theorem dX0_wideProduct_117 : decode cX0_wideProduct 117 = .ok (.lor, 1) := by decide +kernel
theorem dX0_wideProduct_118 : decode cX0_wideProduct 118 = .ok (.goto 5, 3) := by decide +kernel
theorem dX0_wideProduct_121 : decode cX0_wideProduct 121 = .ok (.lload 21, 2) := by decide +kernel
theorem dX0_wideProduct_123 : decode cX0_wideProduct 123 = .ok (.lreturn, 1) := by decide +kernel
set_option maxRecDepth 20000 in
theorem ggX0_storeQuotient_X0_storeZero : GoodIn wsX0_storeQuotient wsX0_storeZero := goodIn_r _ [5, 6, 7, 34, 35, 36] (by decide +kernel) (by decide +kernel)
set_option maxRecDepth 20000 in
theorem gX0_storeQuotient_X0_storeZero : GoodIn wsX0_storeQuotient (wsV RX0 93 RX0 yX0_storeZero wsX0_storeZero) := goodIn_app (goodIn_of _ (by decide +kernel)) ggX0_storeQuotient_X0_storeZero
set_option maxRecDepth 20000 in
theorem ggX0_storeQuotient_X0_significandOf : GoodIn wsX0_storeQuotient wsX0_significandOf := goodIn_r _ [10, 11, 12, 13, 14, 15, 16] (by decide +kernel) (by decide +kernel)
set_option maxRecDepth 20000 in
theorem gX0_storeQuotient_X0_significandOf : GoodIn wsX0_storeQuotient (va_wsS RX0 100 yX0_significandOf wsX0_significandOf) := goodIn_app (goodIn_of _ (by decide +kernel)) ggX0_storeQuotient_X0_significandOf
set_option maxRecDepth 20000 in
theorem ggX0_storeQuotient_X0_wideQuotient : GoodIn wsX0_storeQuotient wsX0_wideQuotient := goodIn_r _ [19] (by decide +kernel) (by decide +kernel)
set_option maxRecDepth 20000 in
theorem gX0_storeQuotient_X0_wideQuotient : GoodIn wsX0_storeQuotient (va_wsS RX0 121 yX0_wideQuotient wsX0_wideQuotient) := goodIn_app (goodIn_of _ (by decide +kernel)) ggX0_storeQuotient_X0_wideQuotient
set_option maxRecDepth 20000 in
theorem ggX0_storeQuotient_X0_exponentOf : GoodIn wsX0_storeQuotient wsX0_exponentOf := goodIn_r _ [22, 11, 12, 13, 14] (by decide +kernel) (by decide +kernel)
set_option maxRecDepth 20000 in
theorem gX0_storeQuotient_X0_exponentOf : GoodIn wsX0_storeQuotient (va_wsS RX0 97 yX0_exponentOf wsX0_exponentOf) := goodIn_app (goodIn_of _ (by decide +kernel)) ggX0_storeQuotient_X0_exponentOf
set_option maxRecDepth 20000 in
theorem ggX0_storeQuotient_X0_storeRounded : GoodIn wsX0_storeQuotient wsX0_storeRounded := goodIn_r _ [26, 27, 28, 6, 15, 7, 1, 2, 3, 4, 5, 29, 30, 31, 32, 33, 34, 35, 36] (by decide +kernel) (by decide +kernel)
set_option maxRecDepth 20000 in
theorem gX0_storeQuotient_X0_storeRounded : GoodIn wsX0_storeQuotient (wsV RX0 69 RX0 yX0_storeRounded wsX0_storeRounded) := goodIn_app (goodIn_of _ (by decide +kernel)) ggX0_storeQuotient_X0_storeRounded
theorem dX0_storeQuotient_0 : decode cX0_storeQuotient 0 = .ok (.lload_n 3, 1) := by decide +kernel
theorem dX0_storeQuotient_1 : decode cX0_storeQuotient 1 = .ok (.lconst 0, 1) := by decide +kernel
theorem dX0_storeQuotient_2 : decode cX0_storeQuotient 2 = .ok (.lcmp, 1) := by decide +kernel
theorem dX0_storeQuotient_3 : decode cX0_storeQuotient 3 = .ok (.ifCond .ne 10, 3) := by decide +kernel
theorem dX0_storeQuotient_6 : decode cX0_storeQuotient 6 = .ok (.aload_n 0, 1) := by decide +kernel
theorem dX0_storeQuotient_7 : decode cX0_storeQuotient 7 = .ok (.iload_n 2, 1) := by decide +kernel
theorem dX0_storeQuotient_8 : decode cX0_storeQuotient 8 = .ok (.iconst 0, 1) := by decide +kernel
theorem dX0_storeQuotient_9 : decode cX0_storeQuotient 9 = .ok (.invokevirtual 93, 3) := by decide +kernel
theorem dX0_storeQuotient_12 : decode cX0_storeQuotient 12 = .ok (.ireturn, 1) := by decide +kernel
theorem dX0_storeQuotient_13 : decode cX0_storeQuotient 13 = .ok (.lload_n 3, 1) := by decide +kernel
theorem dX0_storeQuotient_14 : decode cX0_storeQuotient 14 = .ok (.invokestatic 100, 3) := by decide +kernel
theorem dX0_storeQuotient_17 : decode cX0_storeQuotient 17 = .ok (.lload 5, 2) := by decide +kernel
theorem dX0_storeQuotient_19 : decode cX0_storeQuotient 19 = .ok (.invokestatic 100, 3) := by decide +kernel
theorem dX0_storeQuotient_22 : decode cX0_storeQuotient 22 = .ok (.invokestatic 121, 3) := by decide +kernel
theorem dX0_storeQuotient_25 : decode cX0_storeQuotient 25 = .ok (.lstore 7, 2) := by decide +kernel
theorem dX0_storeQuotient_27 : decode cX0_storeQuotient 27 = .ok (.lload_n 3, 1) := by decide +kernel
theorem dX0_storeQuotient_28 : decode cX0_storeQuotient 28 = .ok (.invokestatic 97, 3) := by decide +kernel
theorem dX0_storeQuotient_31 : decode cX0_storeQuotient 31 = .ok (.lload 5, 2) := by decide +kernel
theorem dX0_storeQuotient_33 : decode cX0_storeQuotient 33 = .ok (.invokestatic 97, 3) := by decide +kernel
theorem dX0_storeQuotient_36 : decode cX0_storeQuotient 36 = .ok (.isub, 1) := by decide +kernel
theorem dX0_storeQuotient_37 : decode cX0_storeQuotient 37 = .ok (.sipush 128, 3) := by decide +kernel
theorem dX0_storeQuotient_40 : decode cX0_storeQuotient 40 = .ok (.iadd, 1) := by decide +kernel
theorem dX0_storeQuotient_41 : decode cX0_storeQuotient 41 = .ok (.iconst 1, 1) := by decide +kernel
theorem dX0_storeQuotient_42 : decode cX0_storeQuotient 42 = .ok (.iadd, 1) := by decide +kernel
theorem dX0_storeQuotient_43 : decode cX0_storeQuotient 43 = .ok (.istore 9, 2) := by decide +kernel
theorem dX0_storeQuotient_45 : decode cX0_storeQuotient 45 = .ok (.aload_n 0, 1) := by decide +kernel
theorem dX0_storeQuotient_46 : decode cX0_storeQuotient 46 = .ok (.iload_n 1, 1) := by decide +kernel
theorem dX0_storeQuotient_47 : decode cX0_storeQuotient 47 = .ok (.iload_n 2, 1) := by decide +kernel
theorem dX0_storeQuotient_48 : decode cX0_storeQuotient 48 = .ok (.lload_n 3, 1) := by decide +kernel
theorem dX0_storeQuotient_49 : decode cX0_storeQuotient 49 = .ok (.lconst 0, 1) := by decide +kernel
theorem dX0_storeQuotient_50 : decode cX0_storeQuotient 50 = .ok (.lcmp, 1) := by decide +kernel
theorem dX0_storeQuotient_51 : decode cX0_storeQuotient 51 = .ok (.ifCond .ge 7, 3) := by decide +kernel
theorem dX0_storeQuotient_54 : decode cX0_storeQuotient 54 = .ok (.iconst 1, 1) := by decide +kernel
theorem dX0_storeQuotient_55 : decode cX0_storeQuotient 55 = .ok (.goto 4, 3) := by decide +kernel
theorem dX0_storeQuotient_58 : decode cX0_storeQuotient 58 = .ok (.iconst 0, 1) := by decide +kernel
theorem dX0_storeQuotient_59 : decode cX0_storeQuotient 59 = .ok (.lload 5, 2) := by decide +kernel
theorem dX0_storeQuotient_61 : decode cX0_storeQuotient 61 = .ok (.lconst 0, 1) := by decide +kernel
theorem dX0_storeQuotient_62 : decode cX0_storeQuotient 62 = .ok (.lcmp, 1) := by decide +kernel
theorem dX0_storeQuotient_63 : decode cX0_storeQuotient 63 = .ok (.ifCond .ge 7, 3) := by decide +kernel
theorem dX0_storeQuotient_66 : decode cX0_storeQuotient 66 = .ok (.iconst 1, 1) := by decide +kernel
theorem dX0_storeQuotient_67 : decode cX0_storeQuotient 67 = .ok (.goto 4, 3) := by decide +kernel
theorem dX0_storeQuotient_70 : decode cX0_storeQuotient 70 = .ok (.iconst 0, 1) := by decide +kernel
theorem dX0_storeQuotient_71 : decode cX0_storeQuotient 71 = .ok (.if_icmp .eq 7, 3) := by decide +kernel
theorem dX0_storeQuotient_74 : decode cX0_storeQuotient 74 = .ok (.iconst 1, 1) := by decide +kernel
theorem dX0_storeQuotient_75 : decode cX0_storeQuotient 75 = .ok (.goto 4, 3) := by decide +kernel
theorem dX0_storeQuotient_78 : decode cX0_storeQuotient 78 = .ok (.iconst 0, 1) := by decide +kernel
theorem dX0_storeQuotient_79 : decode cX0_storeQuotient 79 = .ok (.iload 9, 2) := by decide +kernel
theorem dX0_storeQuotient_81 : decode cX0_storeQuotient 81 = .ok (.lload 7, 2) := by decide +kernel
theorem dX0_storeQuotient_83 : decode cX0_storeQuotient 83 = .ok (.invokevirtual 69, 3) := by decide +kernel
theorem dX0_storeQuotient_86 : decode cX0_storeQuotient 86 = .ok (.ireturn, 1) := by decide +kernel
theorem dX0_wideQuotient_0 : decode cX0_wideQuotient 0 = .ok (.lload_n 0, 1) := by decide +kernel
theorem dX0_wideQuotient_1 : decode cX0_wideQuotient 1 = .ok (.lstore 4, 2) := by decide +kernel
theorem dX0_wideQuotient_3 : decode cX0_wideQuotient 3 = .ok (.lconst 0, 1) := by decide +kernel
theorem dX0_wideQuotient_4 : decode cX0_wideQuotient 4 = .ok (.lstore 6, 2) := by decide +kernel
theorem dX0_wideQuotient_6 : decode cX0_wideQuotient 6 = .ok (.iconst 0, 1) := by decide +kernel
theorem dX0_wideQuotient_7 : decode cX0_wideQuotient 7 = .ok (.istore 8, 2) := by decide +kernel
theorem dX0_wideQuotient_9 : decode cX0_wideQuotient 9 = .ok (.iload 8, 2) := by decide +kernel
theorem dX0_wideQuotient_11 : decode cX0_wideQuotient 11 = .ok (.bipush 63, 2) := by decide +kernel
theorem dX0_wideQuotient_13 : decode cX0_wideQuotient 13 = .ok (.if_icmp .ge 40, 3) := by decide +kernel
theorem dX0_wideQuotient_16 : decode cX0_wideQuotient 16 = .ok (.lload 6, 2) := by decide +kernel
theorem dX0_wideQuotient_18 : decode cX0_wideQuotient 18 = .ok (.iconst 1, 1) := by decide +kernel
theorem dX0_wideQuotient_19 : decode cX0_wideQuotient 19 = .ok (.lshl, 1) := by decide +kernel
theorem dX0_wideQuotient_20 : decode cX0_wideQuotient 20 = .ok (.lstore 6, 2) := by decide +kernel
theorem dX0_wideQuotient_22 : decode cX0_wideQuotient 22 = .ok (.lload 4, 2) := by decide +kernel
theorem dX0_wideQuotient_24 : decode cX0_wideQuotient 24 = .ok (.lload_n 2, 1) := by decide +kernel
theorem dX0_wideQuotient_25 : decode cX0_wideQuotient 25 = .ok (.lcmp, 1) := by decide +kernel
theorem dX0_wideQuotient_26 : decode cX0_wideQuotient 26 = .ok (.ifCond .lt 15, 3) := by decide +kernel
theorem dX0_wideQuotient_29 : decode cX0_wideQuotient 29 = .ok (.lload 4, 2) := by decide +kernel
theorem dX0_wideQuotient_31 : decode cX0_wideQuotient 31 = .ok (.lload_n 2, 1) := by decide +kernel
theorem dX0_wideQuotient_32 : decode cX0_wideQuotient 32 = .ok (.lsub, 1) := by decide +kernel
theorem dX0_wideQuotient_33 : decode cX0_wideQuotient 33 = .ok (.lstore 4, 2) := by decide +kernel
theorem dX0_wideQuotient_35 : decode cX0_wideQuotient 35 = .ok (.lload 6, 2) := by decide +kernel
theorem dX0_wideQuotient_37 : decode cX0_wideQuotient 37 = .ok (.lconst 1, 1) := by decide +kernel
theorem dX0_wideQuotient_38 : decode cX0_wideQuotient 38 = .ok (.lor, 1) := by decide +kernel
theorem dX0_wideQuotient_39 : decode cX0_wideQuotient 39 = .ok (.lstore 6, 2) := by decide +kernel
theorem dX0_wideQuotient_41 : decode cX0_wideQuotient 41 = .ok (.lload 4, 2) := by decide +kernel
theorem dX0_wideQuotient_43 : decode cX0_wideQuotient 43 = .ok (.iconst 1, 1) := by decide +kernel
theorem dX0_wideQuotient_44 : decode cX0_wideQuotient 44 = .ok (.lshl, 1) := by decide +kernel
theorem dX0_wideQuotient_45 : decode cX0_wideQuotient 45 = .ok (.lstore 4, 2) := by decide +kernel
theorem dX0_wideQuotient_47 : decode cX0_wideQuotient 47 = .ok (.iinc 8 1, 3) := by decide +kernel
theorem dX0_wideQuotient_50 : decode cX0_wideQuotient 50 = .ok (.goto (-41), 3) := by decide +kernel
theorem dX0_wideQuotient_53 : decode cX0_wideQuotient 53 = .ok (.lload 4, 2) := by decide +kernel
theorem dX0_wideQuotient_55 : decode cX0_wideQuotient 55 = .ok (.lconst 0, 1) := by decide +kernel
theorem dX0_wideQuotient_56 : decode cX0_wideQuotient 56 = .ok (.lcmp, 1) := by decide +kernel
theorem dX0_wideQuotient_57 : decode cX0_wideQuotient 57 = .ok (.ifCond .eq 10, 3) := by decide +kernel
theorem dX0_wideQuotient_60 : decode cX0_wideQuotient 60 = .ok (.lload 6, 2) := by decide +kernel
theorem dX0_wideQuotient_62 : decode cX0_wideQuotient 62 = .ok (.lconst 1, 1) := by decide +kernel
theorem dX0_wideQuotient_63 : decode cX0_wideQuotient 63 = .ok (.lor, 1) := by decide +kernel
theorem dX0_wideQuotient_64 : decode cX0_wideQuotient 64 = .ok (.goto 5, 3) := by decide +kernel
theorem dX0_wideQuotient_67 : decode cX0_wideQuotient 67 = .ok (.lload 6, 2) := by decide +kernel
theorem dX0_wideQuotient_69 : decode cX0_wideQuotient 69 = .ok (.lreturn, 1) := by decide +kernel
set_option maxRecDepth 20000 in
theorem ggX0_wholeOf_X0_exponentOf : GoodIn wsX0_wholeOf wsX0_exponentOf := goodIn_r _ [4, 5, 6, 7, 8] (by decide +kernel) (by decide +kernel)
set_option maxRecDepth 20000 in
theorem gX0_wholeOf_X0_exponentOf : GoodIn wsX0_wholeOf (va_wsS RX0 97 yX0_exponentOf wsX0_exponentOf) := goodIn_app (goodIn_of _ (by decide +kernel)) ggX0_wholeOf_X0_exponentOf
set_option maxRecDepth 20000 in
theorem ggX0_wholeOf_X0_significandOf : GoodIn wsX0_wholeOf wsX0_significandOf := goodIn_r _ [11, 5, 6, 7, 8, 12, 13] (by decide +kernel) (by decide +kernel)
set_option maxRecDepth 20000 in
theorem gX0_wholeOf_X0_significandOf : GoodIn wsX0_wholeOf (va_wsS RX0 100 yX0_significandOf wsX0_significandOf) := goodIn_app (goodIn_of _ (by decide +kernel)) ggX0_wholeOf_X0_significandOf
set_option maxRecDepth 20000 in
theorem ggX0_wholeOf_X0_wholeSize : GoodIn wsX0_wholeOf wsX0_wholeSize := goodIn_r _ [16, 17, 13] (by decide +kernel) (by decide +kernel)
set_option maxRecDepth 20000 in
theorem gX0_wholeOf_X0_wholeSize : GoodIn wsX0_wholeOf (va_wsS RX0 124 yX0_wholeSize wsX0_wholeSize) := goodIn_app (goodIn_of _ (by decide +kernel)) ggX0_wholeOf_X0_wholeSize
theorem dX0_wholeOf_0 : decode cX0_wholeOf 0 = .ok (.lload_n 0, 1) := by decide +kernel
theorem dX0_wholeOf_1 : decode cX0_wholeOf 1 = .ok (.lconst 0, 1) := by decide +kernel
theorem dX0_wholeOf_2 : decode cX0_wholeOf 2 = .ok (.lcmp, 1) := by decide +kernel
theorem dX0_wholeOf_3 : decode cX0_wholeOf 3 = .ok (.ifCond .ne 5, 3) := by decide +kernel
theorem dX0_wholeOf_6 : decode cX0_wholeOf 6 = .ok (.lconst 0, 1) := by decide +kernel
theorem dX0_wholeOf_7 : decode cX0_wholeOf 7 = .ok (.lreturn, 1) := by decide +kernel
theorem dX0_wholeOf_8 : decode cX0_wholeOf 8 = .ok (.lload_n 0, 1) := by decide +kernel
theorem dX0_wholeOf_9 : decode cX0_wholeOf 9 = .ok (.invokestatic 97, 3) := by decide +kernel
theorem dX0_wholeOf_12 : decode cX0_wholeOf 12 = .ok (.sipush 128, 3) := by decide +kernel
theorem dX0_wholeOf_15 : decode cX0_wholeOf 15 = .ok (.isub, 1) := by decide +kernel
theorem dX0_wholeOf_16 : decode cX0_wholeOf 16 = .ok (.bipush 56, 2) := by decide +kernel
theorem dX0_wholeOf_18 : decode cX0_wholeOf 18 = .ok (.isub, 1) := by decide +kernel
theorem dX0_wholeOf_19 : decode cX0_wholeOf 19 = .ok (.istore_n 3, 1) := by decide +kernel
theorem dX0_wholeOf_20 : decode cX0_wholeOf 20 = .ok (.lload_n 0, 1) := by decide +kernel
theorem dX0_wholeOf_21 : decode cX0_wholeOf 21 = .ok (.invokestatic 100, 3) := by decide +kernel
theorem dX0_wholeOf_24 : decode cX0_wholeOf 24 = .ok (.iload_n 3, 1) := by decide +kernel
theorem dX0_wholeOf_25 : decode cX0_wholeOf 25 = .ok (.iload_n 2, 1) := by decide +kernel
theorem dX0_wholeOf_26 : decode cX0_wholeOf 26 = .ok (.invokestatic 124, 3) := by decide +kernel
theorem dX0_wholeOf_29 : decode cX0_wholeOf 29 = .ok (.lstore 4, 2) := by decide +kernel
theorem dX0_wholeOf_31 : decode cX0_wholeOf 31 = .ok (.lload_n 0, 1) := by decide +kernel
theorem dX0_wholeOf_32 : decode cX0_wholeOf 32 = .ok (.lconst 0, 1) := by decide +kernel
theorem dX0_wholeOf_33 : decode cX0_wholeOf 33 = .ok (.lcmp, 1) := by decide +kernel
theorem dX0_wholeOf_34 : decode cX0_wholeOf 34 = .ok (.ifCond .ge 9, 3) := by decide +kernel
theorem dX0_wholeOf_37 : decode cX0_wholeOf 37 = .ok (.lload 4, 2) := by decide +kernel
theorem dX0_wholeOf_39 : decode cX0_wholeOf 39 = .ok (.lneg, 1) := by decide +kernel
theorem dX0_wholeOf_40 : decode cX0_wholeOf 40 = .ok (.goto 5, 3) := by decide +kernel
theorem dX0_wholeOf_43 : decode cX0_wholeOf 43 = .ok (.lload 4, 2) := by decide +kernel
theorem dX0_wholeOf_45 : decode cX0_wholeOf 45 = .ok (.lreturn, 1) := by decide +kernel
theorem dX0_wholeSize_0 : decode cX0_wholeSize 0 = .ok (.iload_n 2, 1) := by decide +kernel
theorem dX0_wholeSize_1 : decode cX0_wholeSize 1 = .ok (.ifCond .lt 29, 3) := by decide +kernel
theorem dX0_wholeSize_4 : decode cX0_wholeSize 4 = .ok (.iload_n 2, 1) := by decide +kernel
theorem dX0_wholeSize_5 : decode cX0_wholeSize 5 = .ok (.bipush 32, 2) := by decide +kernel
theorem dX0_wholeSize_7 : decode cX0_wholeSize 7 = .ok (.if_icmp .ge 13, 3) := by decide +kernel
theorem dX0_wholeSize_10 : decode cX0_wholeSize 10 = .ok (.lload_n 0, 1) := by decide +kernel
theorem dX0_wholeSize_11 : decode cX0_wholeSize 11 = .ok (.iload_n 2, 1) := by decide +kernel
theorem dX0_wholeSize_12 : decode cX0_wholeSize 12 = .ok (.lshl, 1) := by decide +kernel
theorem dX0_wholeSize_13 : decode cX0_wholeSize 13 = .ok (.ldc2_w 80, 3) := by decide +kernel
theorem dX0_wholeSize_16 : decode cX0_wholeSize 16 = .ok (.land, 1) := by decide +kernel
theorem dX0_wholeSize_17 : decode cX0_wholeSize 17 = .ok (.goto 4, 3) := by decide +kernel
theorem dX0_wholeSize_20 : decode cX0_wholeSize 20 = .ok (.lconst 0, 1) := by decide +kernel
theorem dX0_wholeSize_21 : decode cX0_wholeSize 21 = .ok (.lstore 4, 2) := by decide +kernel
theorem dX0_wholeSize_23 : decode cX0_wholeSize 23 = .ok (.lload 4, 2) := by decide +kernel
theorem dX0_wholeSize_25 : decode cX0_wholeSize 25 = .ok (.ldc2_w 91, 3) := by decide +kernel
theorem dX0_wholeSize_28 : decode cX0_wholeSize 28 = .ok (.lor, 1) := by decide +kernel
theorem dX0_wholeSize_29 : decode cX0_wholeSize 29 = .ok (.lreturn, 1) := by decide +kernel
theorem dX0_wholeSize_30 : decode cX0_wholeSize 30 = .ok (.iload_n 2, 1) := by decide +kernel
theorem dX0_wholeSize_31 : decode cX0_wholeSize 31 = .ok (.ineg, 1) := by decide +kernel
theorem dX0_wholeSize_32 : decode cX0_wholeSize 32 = .ok (.istore 4, 2) := by decide +kernel
theorem dX0_wholeSize_34 : decode cX0_wholeSize 34 = .ok (.iload 4, 2) := by decide +kernel
theorem dX0_wholeSize_36 : decode cX0_wholeSize 36 = .ok (.bipush 56, 2) := by decide +kernel
theorem dX0_wholeSize_38 : decode cX0_wholeSize 38 = .ok (.if_icmp .le 5, 3) := by decide +kernel
theorem dX0_wholeSize_41 : decode cX0_wholeSize 41 = .ok (.lconst 0, 1) := by decide +kernel
theorem dX0_wholeSize_42 : decode cX0_wholeSize 42 = .ok (.lreturn, 1) := by decide +kernel
theorem dX0_wholeSize_43 : decode cX0_wholeSize 43 = .ok (.iload_n 3, 1) := by decide +kernel
theorem dX0_wholeSize_44 : decode cX0_wholeSize 44 = .ok (.ifCond .eq 16, 3) := by decide +kernel
theorem dX0_wholeSize_47 : decode cX0_wholeSize 47 = .ok (.lload_n 0, 1) := by decide +kernel
theorem dX0_wholeSize_48 : decode cX0_wholeSize 48 = .ok (.iload 4, 2) := by decide +kernel
theorem dX0_wholeSize_50 : decode cX0_wholeSize 50 = .ok (.iconst 1, 1) := by decide +kernel
theorem dX0_wholeSize_51 : decode cX0_wholeSize 51 = .ok (.isub, 1) := by decide +kernel
theorem dX0_wholeSize_52 : decode cX0_wholeSize 52 = .ok (.lushr, 1) := by decide +kernel
theorem dX0_wholeSize_53 : decode cX0_wholeSize 53 = .ok (.lconst 1, 1) := by decide +kernel
theorem dX0_wholeSize_54 : decode cX0_wholeSize 54 = .ok (.ladd, 1) := by decide +kernel
theorem dX0_wholeSize_55 : decode cX0_wholeSize 55 = .ok (.iconst 1, 1) := by decide +kernel
theorem dX0_wholeSize_56 : decode cX0_wholeSize 56 = .ok (.lushr, 1) := by decide +kernel
theorem dX0_wholeSize_57 : decode cX0_wholeSize 57 = .ok (.goto 7, 3) := by decide +kernel
theorem dX0_wholeSize_60 : decode cX0_wholeSize 60 = .ok (.lload_n 0, 1) := by decide +kernel
theorem dX0_wholeSize_61 : decode cX0_wholeSize 61 = .ok (.iload 4, 2) := by decide +kernel
theorem dX0_wholeSize_63 : decode cX0_wholeSize 63 = .ok (.lushr, 1) := by decide +kernel
theorem dX0_wholeSize_64 : decode cX0_wholeSize 64 = .ok (.lreturn, 1) := by decide +kernel
theorem dJ13_compare_74951_0 : decode cJ13_compare_74951 0 = .ok (.lload_n 0, 1) := by decide +kernel
theorem dJ13_compare_74951_1 : decode cJ13_compare_74951 1 = .ok (.lload_n 2, 1) := by decide +kernel
theorem dJ13_compare_74951_2 : decode cJ13_compare_74951 2 = .ok (.lcmp, 1) := by decide +kernel
theorem dJ13_compare_74951_3 : decode cJ13_compare_74951 3 = .ok (.ifCond .ge 7, 3) := by decide +kernel
theorem dJ13_compare_74951_6 : decode cJ13_compare_74951 6 = .ok (.iconst (-1), 1) := by decide +kernel
theorem dJ13_compare_74951_7 : decode cJ13_compare_74951 7 = .ok (.goto 14, 3) := by decide +kernel
theorem dJ13_compare_74951_10 : decode cJ13_compare_74951 10 = .ok (.lload_n 0, 1) := by decide +kernel
theorem dJ13_compare_74951_11 : decode cJ13_compare_74951 11 = .ok (.lload_n 2, 1) := by decide +kernel
theorem dJ13_compare_74951_12 : decode cJ13_compare_74951 12 = .ok (.lcmp, 1) := by decide +kernel
theorem dJ13_compare_74951_13 : decode cJ13_compare_74951 13 = .ok (.ifCond .ne 7, 3) := by decide +kernel
theorem dJ13_compare_74951_16 : decode cJ13_compare_74951 16 = .ok (.iconst 0, 1) := by decide +kernel
theorem dJ13_compare_74951_17 : decode cJ13_compare_74951 17 = .ok (.goto 4, 3) := by decide +kernel
theorem dJ13_compare_74951_20 : decode cJ13_compare_74951 20 = .ok (.iconst 1, 1) := by decide +kernel
theorem dJ13_compare_74951_21 : decode cJ13_compare_74951 21 = .ok (.ireturn, 1) := by decide +kernel
theorem dJ9_abs_067f4_0 : decode cJ9_abs_067f4 0 = .ok (.lload_n 0, 1) := by decide +kernel
theorem dJ9_abs_067f4_1 : decode cJ9_abs_067f4 1 = .ok (.lconst 0, 1) := by decide +kernel
theorem dJ9_abs_067f4_2 : decode cJ9_abs_067f4 2 = .ok (.lcmp, 1) := by decide +kernel
theorem dJ9_abs_067f4_3 : decode cJ9_abs_067f4 3 = .ok (.ifCond .ge 8, 3) := by decide +kernel
theorem dJ9_abs_067f4_6 : decode cJ9_abs_067f4 6 = .ok (.lload_n 0, 1) := by decide +kernel
theorem dJ9_abs_067f4_7 : decode cJ9_abs_067f4 7 = .ok (.lneg, 1) := by decide +kernel
theorem dJ9_abs_067f4_8 : decode cJ9_abs_067f4 8 = .ok (.goto 4, 3) := by decide +kernel
theorem dJ9_abs_067f4_11 : decode cJ9_abs_067f4 11 = .ok (.lload_n 0, 1) := by decide +kernel
theorem dJ9_abs_067f4_12 : decode cJ9_abs_067f4 12 = .ok (.lreturn, 1) := by decide +kernel
