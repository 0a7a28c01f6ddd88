theorem dX6_readItem_114 : decode cX6_readItem 114 = .ok (.ldc_w 305, 3) := by decide +kernel
theorem dX6_readItem_117 : decode cX6_readItem 117 = .ok (.invokevirtual 298, 3) := by decide +kernel
theorem dX6_readItem_120 : decode cX6_readItem 120 = .ok (.ifCond .eq 18, 3) := by decide +kernel
theorem dX6_readItem_123 : decode cX6_readItem 123 = .ok (.aload_n 0, 1) := by decide +kernel
theorem dX6_readItem_124 : decode cX6_readItem 124 = .ok (.iconst 1, 1) := by decide +kernel
theorem dX6_readItem_125 : decode cX6_readItem 125 = .ok (.aload_n 0, 1) := by decide +kernel
theorem dX6_readItem_126 : decode cX6_readItem 126 = .ok (.iconst 0, 1) := by decide +kernel
theorem dX6_readItem_127 : decode cX6_readItem 127 = .ok (.bipush 9, 2) := by decide +kernel
theorem dX6_readItem_129 : decode cX6_readItem 129 = .ok (.invokevirtual 290, 3) := by decide +kernel
theorem dX6_readItem_132 : decode cX6_readItem 132 = .ok (.invokevirtual 293, 3) := by decide +kernel
theorem dX6_readItem_135 : decode cX6_readItem 135 = .ok (.goto 115, 3) := by decide +kernel
theorem dX6_readItem_138 : decode cX6_readItem 138 = .ok (.aload_n 0, 1) := by decide +kernel
theorem dX6_readItem_139 : decode cX6_readItem 139 = .ok (.ldc_w 307, 3) := by decide +kernel
theorem dX6_readItem_142 : decode cX6_readItem 142 = .ok (.invokevirtual 280, 3) := by decide +kernel
theorem dX6_readItem_145 : decode cX6_readItem 145 = .ok (.istore_n 2, 1) := by decide +kernel
theorem dX6_readItem_146 : decode cX6_readItem 146 = .ok (.iload_n 2, 1) := by decide +kernel
theorem dX6_readItem_147 : decode cX6_readItem 147 = .ok (.ifCond .eq 8, 3) := by decide +kernel
theorem dX6_readItem_150 : decode cX6_readItem 150 = .ok (.bipush 12, 2) := by decide +kernel
theorem dX6_readItem_152 : decode cX6_readItem 152 = .ok (.goto 19, 3) := by decide +kernel
theorem dX6_readItem_155 : decode cX6_readItem 155 = .ok (.aload_n 0, 1) := by decide +kernel
theorem dX6_readItem_156 : decode cX6_readItem 156 = .ok (.ldc_w 309, 3) := by decide +kernel
theorem dX6_readItem_159 : decode cX6_readItem 159 = .ok (.invokevirtual 280, 3) := by decide +kernel
theorem dX6_readItem_162 : decode cX6_readItem 162 = .ok (.ifCond .eq 7, 3) := by decide +kernel
theorem dX6_readItem_165 : decode cX6_readItem 165 = .ok (.iconst 2, 1) := by decide +kernel
theorem dX6_readItem_166 : decode cX6_readItem 166 = .ok (.goto 5, 3) := by decide +kernel
theorem dX6_readItem_169 : decode cX6_readItem 169 = .ok (.bipush 7, 2) := by decide +kernel
theorem dX6_readItem_171 : decode cX6_readItem 171 = .ok (.istore_n 3, 1) := by decide +kernel
theorem dX6_readItem_172 : decode cX6_readItem 172 = .ok (.aload_n 0, 1) := by decide +kernel
theorem dX6_readItem_173 : decode cX6_readItem 173 = .ok (.iload_n 2, 1) := by decide +kernel
theorem dX6_readItem_174 : decode cX6_readItem 174 = .ok (.ifCond .ne 23, 3) := by decide +kernel
theorem dX6_readItem_177 : decode cX6_readItem 177 = .ok (.aload_n 0, 1) := by decide +kernel
theorem dX6_readItem_178 : decode cX6_readItem 178 = .ok (.ldc_w 309, 3) := by decide +kernel
theorem dX6_readItem_181 : decode cX6_readItem 181 = .ok (.invokevirtual 280, 3) := by decide +kernel
theorem dX6_readItem_184 : decode cX6_readItem 184 = .ok (.ifCond .ne 13, 3) := by decide +kernel
theorem dX6_readItem_187 : decode cX6_readItem 187 = .ok (.aload_n 0, 1) := by decide +kernel
theorem dX6_readItem_188 : decode cX6_readItem 188 = .ok (.ldc_w 311, 3) := by decide +kernel
theorem dX6_readItem_191 : decode cX6_readItem 191 = .ok (.invokevirtual 280, 3) := by decide +kernel
theorem dX6_readItem_194 : decode cX6_readItem 194 = .ok (.ifCond .eq 7, 3) := by decide +kernel
theorem dX6_readItem_197 : decode cX6_readItem 197 = .ok (.iconst 1, 1) := by decide +kernel
theorem dX6_readItem_198 : decode cX6_readItem 198 = .ok (.goto 4, 3) := by decide +kernel
theorem dX6_readItem_201 : decode cX6_readItem 201 = .ok (.iconst 0, 1) := by decide +kernel
theorem dX6_readItem_202 : decode cX6_readItem 202 = .ok (.invokevirtual 273, 3) := by decide +kernel
theorem dX6_readItem_205 : decode cX6_readItem 205 = .ok (.aload_n 0, 1) := by decide +kernel
theorem dX6_readItem_206 : decode cX6_readItem 206 = .ok (.iconst 0, 1) := by decide +kernel
theorem dX6_readItem_207 : decode cX6_readItem 207 = .ok (.iconst 1, 1) := by decide +kernel
theorem dX6_readItem_208 : decode cX6_readItem 208 = .ok (.invokevirtual 290, 3) := by decide +kernel
theorem dX6_readItem_211 : decode cX6_readItem 211 = .ok (.istore 4, 2) := by decide +kernel
theorem dX6_readItem_213 : decode cX6_readItem 213 = .ok (.aload_n 0, 1) := by decide +kernel
theorem dX6_readItem_214 : decode cX6_readItem 214 = .ok (.iconst 0, 1) := by decide +kernel
theorem dX6_readItem_215 : decode cX6_readItem 215 = .ok (.iconst 4, 1) := by decide +kernel
theorem dX6_readItem_216 : decode cX6_readItem 216 = .ok (.invokevirtual 290, 3) := by decide +kernel
theorem dX6_readItem_219 : decode cX6_readItem 219 = .ok (.istore 5, 2) := by decide +kernel
theorem dX6_readItem_221 : decode cX6_readItem 221 = .ok (.aload_n 0, 1) := by decide +kernel
theorem dX6_readItem_222 : decode cX6_readItem 222 = .ok (.iload 4, 2) := by decide +kernel
theorem dX6_readItem_224 : decode cX6_readItem 224 = .ok (.iload_n 3, 1) := by decide +kernel
theorem dX6_readItem_225 : decode cX6_readItem 225 = .ok (.iload 5, 2) := by decide +kernel
theorem dX6_readItem_227 : decode cX6_readItem 227 = .ok (.iadd, 1) := by decide +kernel
theorem dX6_readItem_228 : decode cX6_readItem 228 = .ok (.invokestatic 60, 3) := by decide +kernel
theorem dX6_readItem_231 : decode cX6_readItem 231 = .ok (.aload_n 0, 1) := by decide +kernel
theorem dX6_readItem_232 : decode cX6_readItem 232 = .ok (.iconst 0, 1) := by decide +kernel
theorem dX6_readItem_233 : decode cX6_readItem 233 = .ok (.iload_n 2, 1) := by decide +kernel
theorem dX6_readItem_234 : decode cX6_readItem 234 = .ok (.ifCond .eq 8, 3) := by decide +kernel
theorem dX6_readItem_237 : decode cX6_readItem 237 = .ok (.bipush 20, 2) := by decide +kernel
theorem dX6_readItem_239 : decode cX6_readItem 239 = .ok (.goto 5, 3) := by decide +kernel
theorem dX6_readItem_242 : decode cX6_readItem 242 = .ok (.bipush 99, 2) := by decide +kernel
theorem dX6_readItem_244 : decode cX6_readItem 244 = .ok (.invokevirtual 290, 3) := by decide +kernel
theorem dX6_readItem_247 : decode cX6_readItem 247 = .ok (.invokevirtual 293, 3) := by decide +kernel
theorem dX6_readItem_250 : decode cX6_readItem 250 = .ok (.return_, 1) := by decide +kernel
set_option maxRecDepth 20000 in
theorem ggX6_text_X6_next : GoodIn wsX6_text wsX6_next := goodIn_r _ [15, 1, 7, 16, 5, 17, 18, 19, 20, 21, 22, 23, 14, 24, 8, 6, 25, 26, 27, 109, 110, 111, 112, 113, 114, 115, 116, 117, 118, 119, 120, 121, 122, 123, 124, 125, 126, 127, 128, 129, 130] (by decide +kernel) (by decide +kernel)
set_option maxRecDepth 20000 in
theorem gX6_text_X6_next : GoodIn wsX6_text (wsV RX6 270 RX6 yX6_next wsX6_next) := goodIn_app (goodIn_of _ (by decide +kernel)) ggX6_text_X6_next
set_option maxRecDepth 20000 in
theorem ggX6_text_X6_readItem : GoodIn wsX6_text wsX6_readItem := goodIn_r _ [31, 4, 32, 33, 34, 14, 35, 36, 37, 38, 39, 40, 5, 1, 7, 6, 41, 42, 43, 44, 45, 46, 47, 48, 49, 50, 51, 52, 53, 54, 55, 56, 57, 58, 59, 60, 61, 62, 63, 64, 65, 66, 67, 68, 69, 70, 71, 72, 73, 74, 75, 76, 77, 78, 79, 80, 81, 82, 83, 84, 85, 86, 87, 88, 89, 90, 91, 92, 93, 2, 11, 12, 13, 15, 16, 17, 18, 19, 20, 21, 22, 23, 24, 8, 25, 26, 27, 94, 95, 96, 97, 98, 99, 100, 101, 10, 3, 102, 103, 104, 105, 106, 107, 108, 109, 110, 111, 112, 113, 114, 115, 116, 117, 118, 119, 120, 121, 122, 123, 124, 125, 126, 127, 128, 129, 130] (by decide +kernel) (by decide +kernel)
set_option maxRecDepth 20000 in
theorem gX6_text_X6_readItem : GoodIn wsX6_text (wsV RX6 313 RX6 yX6_readItem wsX6_readItem) := goodIn_app (goodIn_of _ (by decide +kernel)) ggX6_text_X6_readItem
set_option maxRecDepth 20000 in
theorem ggX6_text_X6_must : GoodIn wsX6_text wsX6_must := goodIn_r _ [93, 2, 11, 12, 13, 14, 15, 1, 7, 16, 5, 17, 18, 19, 20, 21, 22, 23, 24, 8, 6, 25, 26, 27, 109, 110, 111, 112, 113, 114, 115, 116, 117, 118, 119, 120, 121, 122, 123, 124, 125, 126, 127, 128, 129, 130] (by decide +kernel) (by decide +kernel)
set_option maxRecDepth 20000 in
theorem gX6_text_X6_must : GoodIn wsX6_text (wsV RX6 273 RX6 yX6_must wsX6_must) := goodIn_app (goodIn_of _ (by decide +kernel)) ggX6_text_X6_must
theorem dX6_text_0 : decode cX6_text 0 = .ok (.aload_n 0, 1) := by decide +kernel
theorem dX6_text_1 : decode cX6_text 1 = .ok (.iconst 0, 1) := by decide +kernel
theorem dX6_text_2 : decode cX6_text 2 = .ok (.putfield 244, 3) := by decide +kernel
theorem dX6_text_5 : decode cX6_text 5 = .ok (.aload_n 0, 1) := by decide +kernel
theorem dX6_text_6 : decode cX6_text 6 = .ok (.iconst 0, 1) := by decide +kernel
theorem dX6_text_7 : decode cX6_text 7 = .ok (.putfield 266, 3) := by decide +kernel
theorem dX6_text_10 : decode cX6_text 10 = .ok (.aload_n 0, 1) := by decide +kernel
theorem dX6_text_11 : decode cX6_text 11 = .ok (.iconst 0, 1) := by decide +kernel
theorem dX6_text_12 : decode cX6_text 12 = .ok (.putfield 277, 3) := by decide +kernel
theorem dX6_text_15 : decode cX6_text 15 = .ok (.aload_n 0, 1) := by decide +kernel
theorem dX6_text_16 : decode cX6_text 16 = .ok (.iconst 0, 1) := by decide +kernel
theorem dX6_text_17 : decode cX6_text 17 = .ok (.putfield 287, 3) := by decide +kernel
theorem dX6_text_20 : decode cX6_text 20 = .ok (.aload_n 0, 1) := by decide +kernel
theorem dX6_text_21 : decode cX6_text 21 = .ok (.invokevirtual 270, 3) := by decide +kernel
theorem dX6_text_24 : decode cX6_text 24 = .ok (.aload_n 0, 1) := by decide +kernel
theorem dX6_text_25 : decode cX6_text 25 = .ok (.invokevirtual 313, 3) := by decide +kernel
theorem dX6_text_28 : decode cX6_text 28 = .ok (.aload_n 0, 1) := by decide +kernel
theorem dX6_text_29 : decode cX6_text 29 = .ok (.getfield 266, 3) := by decide +kernel
theorem dX6_text_32 : decode cX6_text 32 = .ok (.ifCond .ne 37, 3) := by decide +kernel
theorem dX6_text_35 : decode cX6_text 35 = .ok (.aload_n 0, 1) := by decide +kernel
theorem dX6_text_36 : decode cX6_text 36 = .ok (.getfield 256, 3) := by decide +kernel
theorem dX6_text_39 : decode cX6_text 39 = .ok (.iconst 3, 1) := by decide +kernel
theorem dX6_text_40 : decode cX6_text 40 = .ok (.if_icmp .ne 29, 3) := by decide +kernel
theorem dX6_text_43 : decode cX6_text 43 = .ok (.aload_n 0, 1) := by decide +kernel
theorem dX6_text_44 : decode cX6_text 44 = .ok (.getfield 22, 3) := by decide +kernel
theorem dX6_text_47 : decode cX6_text 47 = .ok (.aload_n 0, 1) := by decide +kernel
theorem dX6_text_48 : decode cX6_text 48 = .ok (.getfield 247, 3) := by decide +kernel
theorem dX6_text_51 : decode cX6_text 51 = .ok (.iaload, 1) := by decide +kernel
theorem dX6_text_52 : decode cX6_text 52 = .ok (.bipush 59, 2) := by decide +kernel
theorem dX6_text_54 : decode cX6_text 54 = .ok (.if_icmp .ne 15, 3) := by decide +kernel
theorem dX6_text_57 : decode cX6_text 57 = .ok (.aload_n 0, 1) := by decide +kernel
theorem dX6_text_58 : decode cX6_text 58 = .ok (.iconst 1, 1) := by decide +kernel
theorem dX6_text_59 : decode cX6_text 59 = .ok (.invokevirtual 273, 3) := by decide +kernel
theorem dX6_text_62 : decode cX6_text 62 = .ok (.aload_n 0, 1) := by decide +kernel
theorem dX6_text_63 : decode cX6_text 63 = .ok (.invokevirtual 313, 3) := by decide +kernel
theorem dX6_text_66 : decode cX6_text 66 = .ok (.goto (-38), 3) := by decide +kernel
theorem dX6_text_69 : decode cX6_text 69 = .ok (.aload_n 0, 1) := by decide +kernel
theorem dX6_text_70 : decode cX6_text 70 = .ok (.aload_n 0, 1) := by decide +kernel
theorem dX6_text_71 : decode cX6_text 71 = .ok (.getfield 256, 3) := by decide +kernel
theorem dX6_text_74 : decode cX6_text 74 = .ok (.ifCond .ne 7, 3) := by decide +kernel
theorem dX6_text_77 : decode cX6_text 77 = .ok (.iconst 1, 1) := by decide +kernel
theorem dX6_text_78 : decode cX6_text 78 = .ok (.goto 4, 3) := by decide +kernel
theorem dX6_text_81 : decode cX6_text 81 = .ok (.iconst 0, 1) := by decide +kernel
theorem dX6_text_82 : decode cX6_text 82 = .ok (.invokevirtual 273, 3) := by decide +kernel
theorem dX6_text_85 : decode cX6_text 85 = .ok (.aload_n 0, 1) := by decide +kernel
theorem dX6_text_86 : decode cX6_text 86 = .ok (.iconst 0, 1) := by decide +kernel
theorem dX6_text_87 : decode cX6_text 87 = .ok (.putfield 240, 3) := by decide +kernel
theorem dX6_text_90 : decode cX6_text 90 = .ok (.aload_n 0, 1) := by decide +kernel
theorem dX6_text_91 : decode cX6_text 91 = .ok (.getfield 266, 3) := by decide +kernel
theorem dX6_text_94 : decode cX6_text 94 = .ok (.ifCond .eq 10, 3) := by decide +kernel
theorem dX6_text_97 : decode cX6_text 97 = .ok (.iconst (-1), 1) := by decide +kernel
theorem dX6_text_98 : decode cX6_text 98 = .ok (.aload_n 0, 1) := by decide +kernel
theorem dX6_text_99 : decode cX6_text 99 = .ok (.getfield 247, 3) := by decide +kernel
theorem dX6_text_102 : decode cX6_text 102 = .ok (.isub, 1) := by decide +kernel
theorem dX6_text_103 : decode cX6_text 103 = .ok (.ireturn, 1) := by decide +kernel
theorem dX6_text_104 : decode cX6_text 104 = .ok (.iconst 0, 1) := by decide +kernel
theorem dX6_text_105 : decode cX6_text 105 = .ok (.istore_n 1, 1) := by decide +kernel
theorem dX6_text_106 : decode cX6_text 106 = .ok (.iload_n 1, 1) := by decide +kernel
theorem dX6_text_107 : decode cX6_text 107 = .ok (.aload_n 0, 1) := by decide +kernel
theorem dX6_text_108 : decode cX6_text 108 = .ok (.getfield 277, 3) := by decide +kernel
theorem dX6_text_111 : decode cX6_text 111 = .ok (.if_icmp .ge 32, 3) := by decide +kernel
theorem dX6_text_114 : decode cX6_text 114 = .ok (.aload_n 0, 1) := by decide +kernel
theorem dX6_text_115 : decode cX6_text 115 = .ok (.getfield 9, 3) := by decide +kernel
theorem dX6_text_118 : decode cX6_text 118 = .ok (.aload_n 0, 1) := by decide +kernel
theorem dX6_text_119 : decode cX6_text 119 = .ok (.getfield 45, 3) := by decide +kernel
theorem dX6_text_122 : decode cX6_text 122 = .ok (.iconst 2, 1) := by decide +kernel
theorem dX6_text_123 : decode cX6_text 123 = .ok (.iload_n 1, 1) := by decide +kernel
theorem dX6_text_124 : decode cX6_text 124 = .ok (.imul, 1) := by decide +kernel
theorem dX6_text_125 : decode cX6_text 125 = .ok (.iaload, 1) := by decide +kernel
theorem dX6_text_126 : decode cX6_text 126 = .ok (.aload_n 0, 1) := by decide +kernel
theorem dX6_text_127 : decode cX6_text 127 = .ok (.getfield 45, 3) := by decide +kernel
theorem dX6_text_130 : decode cX6_text 130 = .ok (.iconst 2, 1) := by decide +kernel
theorem dX6_text_131 : decode cX6_text 131 = .ok (.iload_n 1, 1) := by decide +kernel
theorem dX6_text_132 : decode cX6_text 132 = .ok (.imul, 1) := by decide +kernel
theorem dX6_text_133 : decode cX6_text 133 = .ok (.iconst 1, 1) := by decide +kernel
theorem dX6_text_134 : decode cX6_text 134 = .ok (.iadd, 1) := by decide +kernel
theorem dX6_text_135 : decode cX6_text 135 = .ok (.iaload, 1) := by decide +kernel
theorem dX6_text_136 : decode cX6_text 136 = .ok (.iastore, 1) := by decide +kernel
theorem dX6_text_137 : decode cX6_text 137 = .ok (.iinc 1 1, 3) := by decide +kernel
theorem dX6_text_140 : decode cX6_text 140 = .ok (.goto (-34), 3) := by decide +kernel
theorem dX6_text_143 : decode cX6_text 143 = .ok (.aload_n 0, 1) := by decide +kernel
theorem dX6_text_144 : decode cX6_text 144 = .ok (.getfield 287, 3) := by decide +kernel
theorem dX6_text_147 : decode cX6_text 147 = .ok (.ireturn, 1) := by decide +kernel
set_option maxRecDepth 20000 in
theorem ggX6_isSpot_X6_within : GoodIn wsX6_isSpot wsX6_within := goodIn_r _ [4] (by decide +kernel) (by decide +kernel)
set_option maxRecDepth 20000 in
theorem gX6_isSpot_X6_within : GoodIn wsX6_isSpot (va_wsS RX6 69 yX6_within wsX6_within) := goodIn_app (goodIn_of _ (by decide +kernel)) ggX6_isSpot_X6_within
theorem dX6_isSpot_0 : decode cX6_isSpot 0 = .ok (.iload_n 0, 1) := by decide +kernel
theorem dX6_isSpot_1 : decode cX6_isSpot 1 = .ok (.iconst 0, 1) := by decide +kernel
theorem dX6_isSpot_2 : decode cX6_isSpot 2 = .ok (.bipush 9, 2) := by decide +kernel
theorem dX6_isSpot_4 : decode cX6_isSpot 4 = .ok (.invokestatic 69, 3) := by decide +kernel
theorem dX6_isSpot_7 : decode cX6_isSpot 7 = .ok (.ireturn, 1) := by decide +kernel
set_option maxRecDepth 20000 in
theorem ggX6_hold_X6_isSpot : GoodIn wsX6_hold wsX6_isSpot := goodIn_r _ [6, 7, 8, 5, 9] (by decide +kernel) (by decide +kernel)
set_option maxRecDepth 20000 in
theorem gX6_hold_X6_isSpot : GoodIn wsX6_hold (va_wsS RX6 316 yX6_isSpot wsX6_isSpot) := goodIn_app (goodIn_of _ (by decide +kernel)) ggX6_hold_X6_isSpot
set_option maxRecDepth 20000 in
theorem ggX6_hold_X6_isThing : GoodIn wsX6_hold wsX6_isThing := goodIn_r _ [12, 7, 8, 5, 9] (by decide +kernel) (by decide +kernel)
set_option maxRecDepth 20000 in
theorem gX6_hold_X6_isThing : GoodIn wsX6_hold (va_wsS RX6 73 yX6_isThing wsX6_isThing) := goodIn_app (goodIn_of _ (by decide +kernel)) ggX6_hold_X6_isThing
set_option maxRecDepth 20000 in
theorem ggX6_hold_X6_finding : GoodIn wsX6_hold wsX6_finding := goodIn_r _ [16, 17, 1, 18, 19, 20, 21, 22, 23, 24, 25, 26, 27, 28, 29, 30, 31, 32, 33, 34, 35, 36, 37, 38, 39] (by decide +kernel) (by decide +kernel)
set_option maxRecDepth 20000 in
theorem gX6_hold_X6_finding : GoodIn wsX6_hold (wsV RX6 83 RX6 yX6_finding wsX6_finding) := goodIn_app (goodIn_of _ (by decide +kernel)) ggX6_hold_X6_finding
theorem dX6_hold_0 : decode cX6_hold 0 = .ok (.iload_n 1, 1) := by decide +kernel
theorem dX6_hold_1 : decode cX6_hold 1 = .ok (.invokestatic 316, 3) := by decide +kernel
theorem dX6_hold_4 : decode cX6_hold 4 = .ok (.ifCond .eq 15, 3) := by decide +kernel
theorem dX6_hold_7 : decode cX6_hold 7 = .ok (.iload_n 2, 1) := by decide +kernel
theorem dX6_hold_8 : decode cX6_hold 8 = .ok (.iconst (-1), 1) := by decide +kernel
theorem dX6_hold_9 : decode cX6_hold 9 = .ok (.if_icmp .eq 17, 3) := by decide +kernel
theorem dX6_hold_12 : decode cX6_hold 12 = .ok (.iload_n 2, 1) := by decide +kernel
theorem dX6_hold_13 : decode cX6_hold 13 = .ok (.invokestatic 73, 3) := by decide +kernel
theorem dX6_hold_16 : decode cX6_hold 16 = .ok (.ifCond .ne 10, 3) := by decide +kernel
theorem dX6_hold_19 : decode cX6_hold 19 = .ok (.aload_n 0, 1) := by decide +kernel
theorem dX6_hold_20 : decode cX6_hold 20 = .ok (.ldc 64, 2) := by decide +kernel
theorem dX6_hold_22 : decode cX6_hold 22 = .ok (.invokevirtual 83, 3) := by decide +kernel
theorem dX6_hold_25 : decode cX6_hold 25 = .ok (.ireturn, 1) := by decide +kernel
theorem dX6_hold_26 : decode cX6_hold 26 = .ok (.aload_n 0, 1) := by decide +kernel
theorem dX6_hold_27 : decode cX6_hold 27 = .ok (.getfield 9, 3) := by decide +kernel
theorem dX6_hold_30 : decode cX6_hold 30 = .ok (.iconst 5, 1) := by decide +kernel
theorem dX6_hold_31 : decode cX6_hold 31 = .ok (.iload_n 1, 1) := by decide +kernel
theorem dX6_hold_32 : decode cX6_hold 32 = .ok (.iadd, 1) := by decide +kernel
theorem dX6_hold_33 : decode cX6_hold 33 = .ok (.iload_n 2, 1) := by decide +kernel
theorem dX6_hold_34 : decode cX6_hold 34 = .ok (.iastore, 1) := by decide +kernel
theorem dX6_hold_35 : decode cX6_hold 35 = .ok (.iconst 1, 1) := by decide +kernel
theorem dX6_hold_36 : decode cX6_hold 36 = .ok (.ireturn, 1) := by decide +kernel
set_option maxRecDepth 20000 in
theorem ggX6_as_X6_isSpot : GoodIn wsX6_as wsX6_isSpot := goodIn_r _ [8, 9, 10, 7, 11] (by decide +kernel) (by decide +kernel)
set_option maxRecDepth 20000 in
theorem gX6_as_X6_isSpot : GoodIn wsX6_as (va_wsS RX6 316 yX6_isSpot wsX6_isSpot) := goodIn_app (goodIn_of _ (by decide +kernel)) ggX6_as_X6_isSpot
set_option maxRecDepth 20000 in
theorem ggX6_as_X6_isKind : GoodIn wsX6_as wsX6_isKind := goodIn_r _ [14, 9, 10, 7, 11] (by decide +kernel) (by decide +kernel)
set_option maxRecDepth 20000 in
theorem gX6_as_X6_isKind : GoodIn wsX6_as (va_wsS RX6 77 yX6_isKind wsX6_isKind) := goodIn_app (goodIn_of _ (by decide +kernel)) ggX6_as_X6_isKind
set_option maxRecDepth 20000 in
theorem ggX6_as_X6_finding : GoodIn wsX6_as wsX6_finding := goodIn_r _ [18, 19, 1, 26, 27, 28, 29, 30, 31, 32, 33, 34, 35, 36, 37, 38, 39, 40, 41, 42, 43, 44, 45, 46, 47] (by decide +kernel) (by decide +kernel)
set_option maxRecDepth 20000 in
theorem gX6_as_X6_finding : GoodIn wsX6_as (wsV RX6 83 RX6 yX6_finding wsX6_finding) := goodIn_app (goodIn_of _ (by decide +kernel)) ggX6_as_X6_finding
set_option maxRecDepth 20000 in
theorem ggX6_as_X6_isUnder : GoodIn wsX6_as wsX6_isUnder := goodIn_r _ [22, 23, 24, 7, 25] (by decide +kernel) (by decide +kernel)
set_option maxRecDepth 20000 in
theorem gX6_as_X6_isUnder : GoodIn wsX6_as (va_wsS RX6 99 yX6_isUnder wsX6_isUnder) := goodIn_app (goodIn_of _ (by decide +kernel)) ggX6_as_X6_isUnder
theorem dX6_as_0 : decode cX6_as 0 = .ok (.iload_n 1, 1) := by decide +kernel
theorem dX6_as_1 : decode cX6_as 1 = .ok (.invokestatic 316, 3) := by decide +kernel
theorem dX6_as_4 : decode cX6_as 4 = .ok (.ifCond .eq 10, 3) := by decide +kernel
theorem dX6_as_7 : decode cX6_as 7 = .ok (.iload_n 2, 1) := by decide +kernel
theorem dX6_as_8 : decode cX6_as 8 = .ok (.invokestatic 77, 3) := by decide +kernel
theorem dX6_as_11 : decode cX6_as 11 = .ok (.ifCond .ne 10, 3) := by decide +kernel
theorem dX6_as_14 : decode cX6_as 14 = .ok (.aload_n 0, 1) := by decide +kernel
theorem dX6_as_15 : decode cX6_as 15 = .ok (.ldc 64, 2) := by decide +kernel
theorem dX6_as_17 : decode cX6_as 17 = .ok (.invokevirtual 83, 3) := by decide +kernel
theorem dX6_as_20 : decode cX6_as 20 = .ok (.ireturn, 1) := by decide +kernel
theorem dX6_as_21 : decode cX6_as 21 = .ok (.aload_n 0, 1) := by decide +kernel
theorem dX6_as_22 : decode cX6_as 22 = .ok (.getfield 9, 3) := by decide +kernel
theorem dX6_as_25 : decode cX6_as 25 = .ok (.iconst 5, 1) := by decide +kernel
theorem dX6_as_26 : decode cX6_as 26 = .ok (.iload_n 1, 1) := by decide +kernel
theorem dX6_as_27 : decode cX6_as 27 = .ok (.iadd, 1) := by decide +kernel
theorem dX6_as_28 : decode cX6_as 28 = .ok (.iaload, 1) := by decide +kernel
theorem dX6_as_29 : decode cX6_as 29 = .ok (.istore_n 3, 1) := by decide +kernel
theorem dX6_as_30 : decode cX6_as 30 = .ok (.iload_n 3, 1) := by decide +kernel
theorem dX6_as_31 : decode cX6_as 31 = .ok (.ifCond .ge 11, 3) := by decide +kernel
theorem dX6_as_34 : decode cX6_as 34 = .ok (.aload_n 0, 1) := by decide +kernel
theorem dX6_as_35 : decode cX6_as 35 = .ok (.ldc_w 319, 3) := by decide +kernel
theorem dX6_as_38 : decode cX6_as 38 = .ok (.invokevirtual 83, 3) := by decide +kernel
theorem dX6_as_41 : decode cX6_as 41 = .ok (.ireturn, 1) := by decide +kernel
theorem dX6_as_42 : decode cX6_as 42 = .ok (.aload_n 0, 1) := by decide +kernel
theorem dX6_as_43 : decode cX6_as 43 = .ok (.getfield 9, 3) := by decide +kernel
theorem dX6_as_46 : decode cX6_as 46 = .ok (.bipush 15, 2) := by decide +kernel
theorem dX6_as_48 : decode cX6_as 48 = .ok (.iload_n 3, 1) := by decide +kernel
theorem dX6_as_49 : decode cX6_as 49 = .ok (.iadd, 1) := by decide +kernel
theorem dX6_as_50 : decode cX6_as 50 = .ok (.iaload, 1) := by decide +kernel
theorem dX6_as_51 : decode cX6_as 51 = .ok (.iload_n 2, 1) := by decide +kernel
theorem dX6_as_52 : decode cX6_as 52 = .ok (.invokestatic 99, 3) := by decide +kernel
theorem dX6_as_55 : decode cX6_as 55 = .ok (.ifCond .eq 7, 3) := by decide +kernel
theorem dX6_as_58 : decode cX6_as 58 = .ok (.iload_n 3, 1) := by decide +kernel
theorem dX6_as_59 : decode cX6_as 59 = .ok (.goto 10, 3) := by decide +kernel
theorem dX6_as_62 : decode cX6_as 62 = .ok (.aload_n 0, 1) := by decide +kernel
theorem dX6_as_63 : decode cX6_as 63 = .ok (.ldc_w 320, 3) := by decide +kernel
theorem dX6_as_66 : decode cX6_as 66 = .ok (.invokevirtual 83, 3) := by decide +kernel
theorem dX6_as_69 : decode cX6_as 69 = .ok (.ireturn, 1) := by decide +kernel
set_option maxRecDepth 20000 in
theorem ggX6_isSheet_X6_within : GoodIn wsX6_isSheet wsX6_within := goodIn_r _ [4] (by decide +kernel) (by decide +kernel)
set_option maxRecDepth 20000 in
theorem gX6_isSheet_X6_within : GoodIn wsX6_isSheet (va_wsS RX6 69 yX6_within wsX6_within) := goodIn_app (goodIn_of _ (by decide +kernel)) ggX6_isSheet_X6_within
theorem dX6_isSheet_0 : decode cX6_isSheet 0 = .ok (.iload_n 0, 1) := by decide +kernel
theorem dX6_isSheet_1 : decode cX6_isSheet 1 = .ok (.iconst 0, 1) := by decide +kernel
theorem dX6_isSheet_2 : decode cX6_isSheet 2 = .ok (.iconst 3, 1) := by decide +kernel
theorem dX6_isSheet_3 : decode cX6_isSheet 3 = .ok (.invokestatic 69, 3) := by decide +kernel
theorem dX6_isSheet_6 : decode cX6_isSheet 6 = .ok (.ireturn, 1) := by decide +kernel
theorem dX6_cutTo_0 : decode cX6_cutTo 0 = .ok (.iload_n 1, 1) := by decide +kernel
theorem dX6_cutTo_1 : decode cX6_cutTo 1 = .ok (.bipush 8, 2) := by decide +kernel
theorem dX6_cutTo_3 : decode cX6_cutTo 3 = .ok (.if_icmp .ne 8, 3) := by decide +kernel
theorem dX6_cutTo_6 : decode cX6_cutTo 6 = .ok (.iload_n 0, 1) := by decide +kernel
theorem dX6_cutTo_7 : decode cX6_cutTo 7 = .ok (.i2b, 1) := by decide +kernel
theorem dX6_cutTo_8 : decode cX6_cutTo 8 = .ok (.goto 15, 3) := by decide +kernel
theorem dX6_cutTo_11 : decode cX6_cutTo 11 = .ok (.iload_n 1, 1) := by decide +kernel
theorem dX6_cutTo_12 : decode cX6_cutTo 12 = .ok (.bipush 16, 2) := by decide +kernel
theorem dX6_cutTo_14 : decode cX6_cutTo 14 = .ok (.if_icmp .ne 8, 3) := by decide +kernel
theorem dX6_cutTo_17 : decode cX6_cutTo 17 = .ok (.iload_n 0, 1) := by decide +kernel
theorem dX6_cutTo_18 : decode cX6_cutTo 18 = .ok (.i2s, 1) := by decide +kernel
theorem dX6_cutTo_19 : decode cX6_cutTo 19 = .ok (.goto 4, 3) := by decide +kernel
theorem dX6_cutTo_22 : decode cX6_cutTo 22 = .ok (.iload_n 0, 1) := by decide +kernel
theorem dX6_cutTo_23 : decode cX6_cutTo 23 = .ok (.ireturn, 1) := by decide +kernel
set_option maxRecDepth 20000 in
theorem ggX6_sheet_X6_isSheet : GoodIn wsX6_sheet wsX6_isSheet := goodIn_r _ [9, 10, 11, 8, 12] (by decide +kernel) (by decide +kernel)
set_option maxRecDepth 20000 in
theorem gX6_sheet_X6_isSheet : GoodIn wsX6_sheet (va_wsS RX6 321 yX6_isSheet wsX6_isSheet) := goodIn_app (goodIn_of _ (by decide +kernel)) ggX6_sheet_X6_isSheet
set_option maxRecDepth 20000 in
theorem ggX6_sheet_X6_finding : GoodIn wsX6_sheet wsX6_finding := goodIn_r _ [16, 17, 1, 18, 19, 20, 21, 22, 23, 24, 25, 26, 27, 28, 29, 30, 31, 32, 33, 34, 35, 36, 37, 38, 39] (by decide +kernel) (by decide +kernel)
set_option maxRecDepth 20000 in
theorem gX6_sheet_X6_finding : GoodIn wsX6_sheet (wsV RX6 83 RX6 yX6_finding wsX6_finding) := goodIn_app (goodIn_of _ (by decide +kernel)) ggX6_sheet_X6_finding
theorem dX6_sheet_0 : decode cX6_sheet 0 = .ok (.iload_n 1, 1) := by decide +kernel
theorem dX6_sheet_1 : decode cX6_sheet 1 = .ok (.invokestatic 321, 3) := by decide +kernel
theorem dX6_sheet_4 : decode cX6_sheet 4 = .ok (.ifCond .eq 25, 3) := by decide +kernel
theorem dX6_sheet_7 : decode cX6_sheet 7 = .ok (.iload_n 2, 1) := by decide +kernel
theorem dX6_sheet_8 : decode cX6_sheet 8 = .ok (.ifCond .eq 28, 3) := by decide +kernel
theorem dX6_sheet_11 : decode cX6_sheet 11 = .ok (.iload_n 2, 1) := by decide +kernel
theorem dX6_sheet_12 : decode cX6_sheet 12 = .ok (.bipush 8, 2) := by decide +kernel
theorem dX6_sheet_14 : decode cX6_sheet 14 = .ok (.if_icmp .eq 22, 3) := by decide +kernel
theorem dX6_sheet_17 : decode cX6_sheet 17 = .ok (.iload_n 2, 1) := by decide +kernel
theorem dX6_sheet_18 : decode cX6_sheet 18 = .ok (.bipush 16, 2) := by decide +kernel
theorem dX6_sheet_20 : decode cX6_sheet 20 = .ok (.if_icmp .eq 16, 3) := by decide +kernel
theorem dX6_sheet_23 : decode cX6_sheet 23 = .ok (.iload_n 2, 1) := by decide +kernel
theorem dX6_sheet_24 : decode cX6_sheet 24 = .ok (.bipush 32, 2) := by decide +kernel
theorem dX6_sheet_26 : decode cX6_sheet 26 = .ok (.if_icmp .eq 10, 3) := by decide +kernel
theorem dX6_sheet_29 : decode cX6_sheet 29 = .ok (.aload_n 0, 1) := by decide +kernel
theorem dX6_sheet_30 : decode cX6_sheet 30 = .ok (.ldc 64, 2) := by decide +kernel
theorem dX6_sheet_32 : decode cX6_sheet 32 = .ok (.invokevirtual 83, 3) := by decide +kernel
theorem dX6_sheet_35 : decode cX6_sheet 35 = .ok (.ireturn, 1) := by decide +kernel
theorem dX6_sheet_36 : decode cX6_sheet 36 = .ok (.iload_n 3, 1) := by decide +kernel
theorem dX6_sheet_37 : decode cX6_sheet 37 = .ok (.ifCond .ge 11, 3) := by decide +kernel
theorem dX6_sheet_40 : decode cX6_sheet 40 = .ok (.aload_n 0, 1) := by decide +kernel
theorem dX6_sheet_41 : decode cX6_sheet 41 = .ok (.ldc_w 324, 3) := by decide +kernel
theorem dX6_sheet_44 : decode cX6_sheet 44 = .ok (.invokevirtual 83, 3) := by decide +kernel
theorem dX6_sheet_47 : decode cX6_sheet 47 = .ok (.ireturn, 1) := by decide +kernel
theorem dX6_sheet_48 : decode cX6_sheet 48 = .ok (.iload_n 3, 1) := by decide +kernel
theorem dX6_sheet_49 : decode cX6_sheet 49 = .ok (.bipush 40, 2) := by decide +kernel
theorem dX6_sheet_51 : decode cX6_sheet 51 = .ok (.if_icmp .le 10, 3) := by decide +kernel
theorem dX6_sheet_54 : decode cX6_sheet 54 = .ok (.aload_n 0, 1) := by decide +kernel
theorem dX6_sheet_55 : decode cX6_sheet 55 = .ok (.ldc 64, 2) := by decide +kernel
theorem dX6_sheet_57 : decode cX6_sheet 57 = .ok (.invokevirtual 83, 3) := by decide +kernel
theorem dX6_sheet_60 : decode cX6_sheet 60 = .ok (.ireturn, 1) := by decide +kernel
theorem dX6_sheet_61 : decode cX6_sheet 61 = .ok (.aload_n 0, 1) := by decide +kernel
theorem dX6_sheet_62 : decode cX6_sheet 62 = .ok (.getfield 48, 3) := by decide +kernel
theorem dX6_sheet_65 : decode cX6_sheet 65 = .ok (.iload_n 1, 1) := by decide +kernel
theorem dX6_sheet_66 : decode cX6_sheet 66 = .ok (.iload_n 2, 1) := by decide +kernel
theorem dX6_sheet_67 : decode cX6_sheet 67 = .ok (.iastore, 1) := by decide +kernel
theorem dX6_sheet_68 : decode cX6_sheet 68 = .ok (.aload_n 0, 1) := by decide +kernel
theorem dX6_sheet_69 : decode cX6_sheet 69 = .ok (.getfield 51, 3) := by decide +kernel
theorem dX6_sheet_72 : decode cX6_sheet 72 = .ok (.iload_n 1, 1) := by decide +kernel
theorem dX6_sheet_73 : decode cX6_sheet 73 = .ok (.iload_n 2, 1) := by decide +kernel
theorem dX6_sheet_74 : decode cX6_sheet 74 = .ok (.ifCond .ne 7, 3) := by decide +kernel
theorem dX6_sheet_77 : decode cX6_sheet 77 = .ok (.iconst 0, 1) := by decide +kernel
theorem dX6_sheet_78 : decode cX6_sheet 78 = .ok (.goto 4, 3) := by decide +kernel
theorem dX6_sheet_81 : decode cX6_sheet 81 = .ok (.iload_n 3, 1) := by decide +kernel
theorem dX6_sheet_82 : decode cX6_sheet 82 = .ok (.iastore, 1) := by decide +kernel
theorem dX6_sheet_83 : decode cX6_sheet 83 = .ok (.iconst 0, 1) := by decide +kernel
theorem dX6_sheet_84 : decode cX6_sheet 84 = .ok (.istore 4, 2) := by decide +kernel
theorem dX6_sheet_86 : decode cX6_sheet 86 = .ok (.iload 4, 2) := by decide +kernel
theorem dX6_sheet_88 : decode cX6_sheet 88 = .ok (.bipush 40, 2) := by decide +kernel
theorem dX6_sheet_90 : decode cX6_sheet 90 = .ok (.if_icmp .ge 22, 3) := by decide +kernel
theorem dX6_sheet_93 : decode cX6_sheet 93 = .ok (.aload_n 0, 1) := by decide +kernel
theorem dX6_sheet_94 : decode cX6_sheet 94 = .ok (.getfield 54, 3) := by decide +kernel
theorem dX6_sheet_97 : decode cX6_sheet 97 = .ok (.bipush 40, 2) := by decide +kernel
theorem dX6_sheet_99 : decode cX6_sheet 99 = .ok (.iload_n 1, 1) := by decide +kernel
theorem dX6_sheet_100 : decode cX6_sheet 100 = .ok (.imul, 1) := by decide +kernel
theorem dX6_sheet_101 : decode cX6_sheet 101 = .ok (.iload 4, 2) := by decide +kernel
theorem dX6_sheet_103 : decode cX6_sheet 103 = .ok (.iadd, 1) := by decide +kernel
theorem dX6_sheet_104 : decode cX6_sheet 104 = .ok (.iconst 0, 1) := by decide +kernel
theorem dX6_sheet_105 : decode cX6_sheet 105 = .ok (.iastore, 1) := by decide +kernel
theorem dX6_sheet_106 : decode cX6_sheet 106 = .ok (.iinc 4 1, 3) := by decide +kernel
theorem dX6_sheet_109 : decode cX6_sheet 109 = .ok (.goto (-23), 3) := by decide +kernel
theorem dX6_sheet_112 : decode cX6_sheet 112 = .ok (.aload_n 0, 1) := by decide +kernel
theorem dX6_sheet_113 : decode cX6_sheet 113 = .ok (.getfield 51, 3) := by decide +kernel
theorem dX6_sheet_116 : decode cX6_sheet 116 = .ok (.iload_n 1, 1) := by decide +kernel
theorem dX6_sheet_117 : decode cX6_sheet 117 = .ok (.iaload, 1) := by decide +kernel
theorem dX6_sheet_118 : decode cX6_sheet 118 = .ok (.ireturn, 1) := by decide +kernel
set_option maxRecDepth 20000 in
theorem ggX6_write_X6_isSheet : GoodIn wsX6_write wsX6_isSheet := goodIn_r _ [9, 10, 11, 8, 12] (by decide +kernel) (by decide +kernel)
set_option maxRecDepth 20000 in
theorem gX6_write_X6_isSheet : GoodIn wsX6_write (va_wsS RX6 321 yX6_isSheet wsX6_isSheet) := goodIn_app (goodIn_of _ (by decide +kernel)) ggX6_write_X6_isSheet
set_option maxRecDepth 20000 in
theorem ggX6_write_X6_finding : GoodIn wsX6_write wsX6_finding := goodIn_r _ [16, 17, 1, 21, 22, 23, 24, 25, 26, 27, 28, 29, 30, 31, 32, 33, 34, 35, 36, 37, 38, 39, 40, 41, 42] (by decide +kernel) (by decide +kernel)
set_option maxRecDepth 20000 in
theorem gX6_write_X6_finding : GoodIn wsX6_write (wsV RX6 83 RX6 yX6_finding wsX6_finding) := goodIn_app (goodIn_of _ (by decide +kernel)) ggX6_write_X6_finding
set_option maxRecDepth 20000 in
theorem ggX6_write_X6_within : GoodIn wsX6_write wsX6_within := goodIn_r _ [12] (by decide +kernel) (by decide +kernel)
set_option maxRecDepth 20000 in
theorem gX6_write_X6_within : GoodIn wsX6_write (va_wsS RX6 69 yX6_within wsX6_within) := goodIn_app (goodIn_of _ (by decide +kernel)) ggX6_write_X6_within
set_option maxRecDepth 20000 in
theorem ggX6_write_X6_cutTo : GoodIn wsX6_write wsX6_cutTo := goodIn_r _ [20] (by decide +kernel) (by decide +kernel)
set_option maxRecDepth 20000 in
theorem gX6_write_X6_cutTo : GoodIn wsX6_write (va_wsS RX6 325 yX6_cutTo wsX6_cutTo) := goodIn_app (goodIn_of _ (by decide +kernel)) ggX6_write_X6_cutTo
theorem dX6_write_0 : decode cX6_write 0 = .ok (.iload_n 1, 1) := by decide +kernel
theorem dX6_write_1 : decode cX6_write 1 = .ok (.invokestatic 321, 3) := by decide +kernel
theorem dX6_write_4 : decode cX6_write 4 = .ok (.ifCond .ne 10, 3) := by decide +kernel
theorem dX6_write_7 : decode cX6_write 7 = .ok (.aload_n 0, 1) := by decide +kernel
theorem dX6_write_8 : decode cX6_write 8 = .ok (.ldc 64, 2) := by decide +kernel
theorem dX6_write_10 : decode cX6_write 10 = .ok (.invokevirtual 83, 3) := by decide +kernel
theorem dX6_write_13 : decode cX6_write 13 = .ok (.ireturn, 1) := by decide +kernel
theorem dX6_write_14 : decode cX6_write 14 = .ok (.aload_n 0, 1) := by decide +kernel
theorem dX6_write_15 : decode cX6_write 15 = .ok (.getfield 48, 3) := by decide +kernel
theorem dX6_write_18 : decode cX6_write 18 = .ok (.iload_n 1, 1) := by decide +kernel
theorem dX6_write_19 : decode cX6_write 19 = .ok (.iaload, 1) := by decide +kernel
theorem dX6_write_20 : decode cX6_write 20 = .ok (.ifCond .ne 11, 3) := by decide +kernel
theorem dX6_write_23 : decode cX6_write 23 = .ok (.aload_n 0, 1) := by decide +kernel
theorem dX6_write_24 : decode cX6_write 24 = .ok (.ldc_w 319, 3) := by decide +kernel
theorem dX6_write_27 : decode cX6_write 27 = .ok (.invokevirtual 83, 3) := by decide +kernel
theorem dX6_write_30 : decode cX6_write 30 = .ok (.ireturn, 1) := by decide +kernel
theorem dX6_write_31 : decode cX6_write 31 = .ok (.iload_n 2, 1) := by decide +kernel
theorem dX6_write_32 : decode cX6_write 32 = .ok (.iconst 0, 1) := by decide +kernel
theorem dX6_write_33 : decode cX6_write 33 = .ok (.aload_n 0, 1) := by decide +kernel
theorem dX6_write_34 : decode cX6_write 34 = .ok (.getfield 51, 3) := by decide +kernel
theorem dX6_write_37 : decode cX6_write 37 = .ok (.iload_n 1, 1) := by decide +kernel
theorem dX6_write_38 : decode cX6_write 38 = .ok (.iaload, 1) := by decide +kernel
theorem dX6_write_39 : decode cX6_write 39 = .ok (.iconst 1, 1) := by decide +kernel
theorem dX6_write_40 : decode cX6_write 40 = .ok (.isub, 1) := by decide +kernel
theorem dX6_write_41 : decode cX6_write 41 = .ok (.invokestatic 69, 3) := by decide +kernel
theorem dX6_write_44 : decode cX6_write 44 = .ok (.ifCond .ne 10, 3) := by decide +kernel
theorem dX6_write_47 : decode cX6_write 47 = .ok (.aload_n 0, 1) := by decide +kernel
theorem dX6_write_48 : decode cX6_write 48 = .ok (.ldc 64, 2) := by decide +kernel
theorem dX6_write_50 : decode cX6_write 50 = .ok (.invokevirtual 83, 3) := by decide +kernel
theorem dX6_write_53 : decode cX6_write 53 = .ok (.ireturn, 1) := by decide +kernel
theorem dX6_write_54 : decode cX6_write 54 = .ok (.aload_n 0, 1) := by decide +kernel
theorem dX6_write_55 : decode cX6_write 55 = .ok (.getfield 54, 3) := by decide +kernel
theorem dX6_write_58 : decode cX6_write 58 = .ok (.bipush 40, 2) := by decide +kernel
theorem dX6_write_60 : decode cX6_write 60 = .ok (.iload_n 1, 1) := by decide +kernel
theorem dX6_write_61 : decode cX6_write 61 = .ok (.imul, 1) := by decide +kernel
theorem dX6_write_62 : decode cX6_write 62 = .ok (.iload_n 2, 1) := by decide +kernel
theorem dX6_write_63 : decode cX6_write 63 = .ok (.iadd, 1) := by decide +kernel
theorem dX6_write_64 : decode cX6_write 64 = .ok (.iload_n 3, 1) := by decide +kernel
theorem dX6_write_65 : decode cX6_write 65 = .ok (.aload_n 0, 1) := by decide +kernel
theorem dX6_write_66 : decode cX6_write 66 = .ok (.getfield 48, 3) := by decide +kernel
theorem dX6_write_69 : decode cX6_write 69 = .ok (.iload_n 1, 1) := by decide +kernel
theorem dX6_write_70 : decode cX6_write 70 = .ok (.iaload, 1) := by decide +kernel
theorem dX6_write_71 : decode cX6_write 71 = .ok (.invokestatic 325, 3) := by decide +kernel
theorem dX6_write_74 : decode cX6_write 74 = .ok (.iastore, 1) := by decide +kernel
theorem dX6_write_75 : decode cX6_write 75 = .ok (.iconst 1, 1) := by decide +kernel
theorem dX6_write_76 : decode cX6_write 76 = .ok (.ireturn, 1) := by decide +kernel
set_option maxRecDepth 20000 in
theorem ggX6_copy_X6_isSheet : GoodIn wsX6_copy wsX6_isSheet := goodIn_r _ [11, 12, 13, 10, 14] (by decide +kernel) (by decide +kernel)
set_option maxRecDepth 20000 in
theorem gX6_copy_X6_isSheet : GoodIn wsX6_copy (va_wsS RX6 321 yX6_isSheet wsX6_isSheet) := goodIn_app (goodIn_of _ (by decide +kernel)) ggX6_copy_X6_isSheet
set_option maxRecDepth 20000 in
theorem ggX6_copy_X6_finding : GoodIn wsX6_copy wsX6_finding := goodIn_r _ [18, 19, 1, 20, 21, 22, 23, 24, 25, 26, 27, 28, 29, 30, 31, 32, 33, 34, 35, 36, 37, 38, 39, 40, 41] (by decide +kernel) (by decide +kernel)
set_option maxRecDepth 20000 in
theorem gX6_copy_X6_finding : GoodIn wsX6_copy (wsV RX6 83 RX6 yX6_finding wsX6_finding) := goodIn_app (goodIn_of _ (by decide +kernel)) ggX6_copy_X6_finding
theorem dX6_copy_0 : decode cX6_copy 0 = .ok (.iload_n 1, 1) := by decide +kernel
theorem dX6_copy_1 : decode cX6_copy 1 = .ok (.invokestatic 321, 3) := by decide +kernel
theorem dX6_copy_4 : decode cX6_copy 4 = .ok (.ifCond .eq 10, 3) := by decide +kernel
theorem dX6_copy_7 : decode cX6_copy 7 = .ok (.iload_n 3, 1) := by decide +kernel
theorem dX6_copy_8 : decode cX6_copy 8 = .ok (.invokestatic 321, 3) := by decide +kernel
theorem dX6_copy_11 : decode cX6_copy 11 = .ok (.ifCond .ne 10, 3) := by decide +kernel
theorem dX6_copy_14 : decode cX6_copy 14 = .ok (.aload_n 0, 1) := by decide +kernel
theorem dX6_copy_15 : decode cX6_copy 15 = .ok (.ldc 64, 2) := by decide +kernel
theorem dX6_copy_17 : decode cX6_copy 17 = .ok (.invokevirtual 83, 3) := by decide +kernel
theorem dX6_copy_20 : decode cX6_copy 20 = .ok (.ireturn, 1) := by decide +kernel
theorem dX6_copy_21 : decode cX6_copy 21 = .ok (.aload_n 0, 1) := by decide +kernel
theorem dX6_copy_22 : decode cX6_copy 22 = .ok (.getfield 48, 3) := by decide +kernel
theorem dX6_copy_25 : decode cX6_copy 25 = .ok (.iload_n 1, 1) := by decide +kernel
theorem dX6_copy_26 : decode cX6_copy 26 = .ok (.iaload, 1) := by decide +kernel
theorem dX6_copy_27 : decode cX6_copy 27 = .ok (.ifCond .eq 12, 3) := by decide +kernel
theorem dX6_copy_30 : decode cX6_copy 30 = .ok (.aload_n 0, 1) := by decide +kernel
theorem dX6_copy_31 : decode cX6_copy 31 = .ok (.getfield 48, 3) := by decide +kernel
theorem dX6_copy_34 : decode cX6_copy 34 = .ok (.iload_n 3, 1) := by decide +kernel
theorem dX6_copy_35 : decode cX6_copy 35 = .ok (.iaload, 1) := by decide +kernel
theorem dX6_copy_36 : decode cX6_copy 36 = .ok (.ifCond .ne 11, 3) := by decide +kernel
theorem dX6_copy_39 : decode cX6_copy 39 = .ok (.aload_n 0, 1) := by decide +kernel
theorem dX6_copy_40 : decode cX6_copy 40 = .ok (.ldc_w 319, 3) := by decide +kernel
theorem dX6_copy_43 : decode cX6_copy 43 = .ok (.invokevirtual 83, 3) := by decide +kernel
theorem dX6_copy_46 : decode cX6_copy 46 = .ok (.ireturn, 1) := by decide +kernel
theorem dX6_copy_47 : decode cX6_copy 47 = .ok (.aload_n 0, 1) := by decide +kernel
theorem dX6_copy_48 : decode cX6_copy 48 = .ok (.getfield 48, 3) := by decide +kernel
theorem dX6_copy_51 : decode cX6_copy 51 = .ok (.iload_n 1, 1) := by decide +kernel
theorem dX6_copy_52 : decode cX6_copy 52 = .ok (.iaload, 1) := by decide +kernel
theorem dX6_copy_53 : decode cX6_copy 53 = .ok (.aload_n 0, 1) := by decide +kernel
theorem dX6_copy_54 : decode cX6_copy 54 = .ok (.getfield 48, 3) := by decide +kernel
theorem dX6_copy_57 : decode cX6_copy 57 = .ok (.iload_n 3, 1) := by decide +kernel
theorem dX6_copy_58 : decode cX6_copy 58 = .ok (.iaload, 1) := by decide +kernel
theorem dX6_copy_59 : decode cX6_copy 59 = .ok (.if_icmp .eq 11, 3) := by decide +kernel
theorem dX6_copy_62 : decode cX6_copy 62 = .ok (.aload_n 0, 1) := by decide +kernel
theorem dX6_copy_63 : decode cX6_copy 63 = .ok (.ldc_w 320, 3) := by decide +kernel
theorem dX6_copy_66 : decode cX6_copy 66 = .ok (.invokevirtual 83, 3) := by decide +kernel
theorem dX6_copy_69 : decode cX6_copy 69 = .ok (.ireturn, 1) := by decide +kernel
theorem dX6_copy_70 : decode cX6_copy 70 = .ok (.iload_n 2, 1) := by decide +kernel
theorem dX6_copy_71 : decode cX6_copy 71 = .ok (.ifCond .lt 48, 3) := by decide +kernel
theorem dX6_copy_74 : decode cX6_copy 74 = .ok (.iload 4, 2) := by decide +kernel
theorem dX6_copy_76 : decode cX6_copy 76 = .ok (.ifCond .lt 43, 3) := by decide +kernel
theorem dX6_copy_79 : decode cX6_copy 79 = .ok (.iload 5, 2) := by decide +kernel
theorem dX6_copy_81 : decode cX6_copy 81 = .ok (.ifCond .lt 38, 3) := by decide +kernel
theorem dX6_copy_84 : decode cX6_copy 84 = .ok (.iload_n 2, 1) := by decide +kernel
theorem dX6_copy_85 : decode cX6_copy 85 = .ok (.i2l, 1) := by decide +kernel
theorem dX6_copy_86 : decode cX6_copy 86 = .ok (.iload 5, 2) := by decide +kernel
theorem dX6_copy_88 : decode cX6_copy 88 = .ok (.i2l, 1) := by decide +kernel
theorem dX6_copy_89 : decode cX6_copy 89 = .ok (.ladd, 1) := by decide +kernel
theorem dX6_copy_90 : decode cX6_copy 90 = .ok (.aload_n 0, 1) := by decide +kernel
theorem dX6_copy_91 : decode cX6_copy 91 = .ok (.getfield 51, 3) := by decide +kernel
theorem dX6_copy_94 : decode cX6_copy 94 = .ok (.iload_n 1, 1) := by decide +kernel
theorem dX6_copy_95 : decode cX6_copy 95 = .ok (.iaload, 1) := by decide +kernel
theorem dX6_copy_96 : decode cX6_copy 96 = .ok (.i2l, 1) := by decide +kernel
theorem dX6_copy_97 : decode cX6_copy 97 = .ok (.lcmp, 1) := by decide +kernel
theorem dX6_copy_98 : decode cX6_copy 98 = .ok (.ifCond .gt 21, 3) := by decide +kernel
theorem dX6_copy_101 : decode cX6_copy 101 = .ok (.iload 4, 2) := by decide +kernel
theorem dX6_copy_103 : decode cX6_copy 103 = .ok (.i2l, 1) := by decide +kernel
theorem dX6_copy_104 : decode cX6_copy 104 = .ok (.iload 5, 2) := by decide +kernel
theorem dX6_copy_106 : decode cX6_copy 106 = .ok (.i2l, 1) := by decide +kernel
theorem dX6_copy_107 : decode cX6_copy 107 = .ok (.ladd, 1) := by decide +kernel
theorem dX6_copy_108 : decode cX6_copy 108 = .ok (.aload_n 0, 1) := by decide +kernel
theorem dX6_copy_109 : decode cX6_copy 109 = .ok (.getfield 51, 3) := by decide +kernel
theorem dX6_copy_112 : decode cX6_copy 112 = .ok (.iload_n 3, 1) := by decide +kernel
theorem dX6_copy_113 : decode cX6_copy 113 = .ok (.iaload, 1) := by decide +kernel
theorem dX6_copy_114 : decode cX6_copy 114 = .ok (.i2l, 1) := by decide +kernel
theorem dX6_copy_115 : decode cX6_copy 115 = .ok (.lcmp, 1) := by decide +kernel
theorem dX6_copy_116 : decode cX6_copy 116 = .ok (.ifCond .le 10, 3) := by decide +kernel
theorem dX6_copy_119 : decode cX6_copy 119 = .ok (.aload_n 0, 1) := by decide +kernel
theorem dX6_copy_120 : decode cX6_copy 120 = .ok (.ldc 64, 2) := by decide +kernel
theorem dX6_copy_122 : decode cX6_copy 122 = .ok (.invokevirtual 83, 3) := by decide +kernel
theorem dX6_copy_125 : decode cX6_copy 125 = .ok (.ireturn, 1) := by decide +kernel
theorem dX6_copy_126 : decode cX6_copy 126 = .ok (.iconst 0, 1) := by decide +kernel
theorem dX6_copy_127 : decode cX6_copy 127 = .ok (.istore 6, 2) := by decide +kernel
theorem dX6_copy_129 : decode cX6_copy 129 = .ok (.iload 6, 2) := by decide +kernel
theorem dX6_copy_131 : decode cX6_copy 131 = .ok (.iload 5, 2) := by decide +kernel
theorem dX6_copy_133 : decode cX6_copy 133 = .ok (.if_icmp .ge 30, 3) := by decide +kernel
theorem dX6_copy_136 : decode cX6_copy 136 = .ok (.aload_n 0, 1) := by decide +kernel
theorem dX6_copy_137 : decode cX6_copy 137 = .ok (.getfield 57, 3) := by decide +kernel
theorem dX6_copy_140 : decode cX6_copy 140 = .ok (.iload 6, 2) := by decide +kernel
theorem dX6_copy_142 : decode cX6_copy 142 = .ok (.aload_n 0, 1) := by decide +kernel
theorem dX6_copy_143 : decode cX6_copy 143 = .ok (.getfield 54, 3) := by decide +kernel
theorem dX6_copy_146 : decode cX6_copy 146 = .ok (.bipush 40, 2) := by decide +kernel
theorem dX6_copy_148 : decode cX6_copy 148 = .ok (.iload_n 1, 1) := by decide +kernel
theorem dX6_copy_149 : decode cX6_copy 149 = .ok (.imul, 1) := by decide +kernel
theorem dX6_copy_150 : decode cX6_copy 150 = .ok (.iload_n 2, 1) := by decide +kernel
theorem dX6_copy_151 : decode cX6_copy 151 = .ok (.iadd, 1) := by decide +kernel
theorem dX6_copy_152 : decode cX6_copy 152 = .ok (.iload 6, 2) := by decide +kernel
theorem dX6_copy_154 : decode cX6_copy 154 = .ok (.iadd, 1) := by decide +kernel
theorem dX6_copy_155 : decode cX6_copy 155 = .ok (.iaload, 1) := by decide +kernel
theorem dX6_copy_156 : decode cX6_copy 156 = .ok (.iastore, 1) := by decide +kernel
theorem dX6_copy_157 : decode cX6_copy 157 = .ok (.iinc 6 1, 3) := by decide +kernel
theorem dX6_copy_160 : decode cX6_copy 160 = .ok (.goto (-31), 3) := by decide +kernel
theorem dX6_copy_163 : decode cX6_copy 163 = .ok (.iconst 0, 1) := by decide +kernel
theorem dX6_copy_164 : decode cX6_copy 164 = .ok (.istore 6, 2) := by decide +kernel
theorem dX6_copy_166 : decode cX6_copy 166 = .ok (.iload 6, 2) := by decide +kernel
theorem dX6_copy_168 : decode cX6_copy 168 = .ok (.iload 5, 2) := by decide +kernel
theorem dX6_copy_170 : decode cX6_copy 170 = .ok (.if_icmp .ge 31, 3) := by decide +kernel
theorem dX6_copy_173 : decode cX6_copy 173 = .ok (.aload_n 0, 1) := by decide +kernel
theorem dX6_copy_174 : decode cX6_copy 174 = .ok (.getfield 54, 3) := by decide +kernel
theorem dX6_copy_177 : decode cX6_copy 177 = .ok (.bipush 40, 2) := by decide +kernel
theorem dX6_copy_179 : decode cX6_copy 179 = .ok (.iload_n 3, 1) := by decide +kernel
theorem dX6_copy_180 : decode cX6_copy 180 = .ok (.imul, 1) := by decide +kernel
theorem dX6_copy_181 : decode cX6_copy 181 = .ok (.iload 4, 2) := by decide +kernel
theorem dX6_copy_183 : decode cX6_copy 183 = .ok (.iadd, 1) := by decide +kernel
theorem dX6_copy_184 : decode cX6_copy 184 = .ok (.iload 6, 2) := by decide +kernel
theorem dX6_copy_186 : decode cX6_copy 186 = .ok (.iadd, 1) := by decide +kernel
theorem dX6_copy_187 : decode cX6_copy 187 = .ok (.aload_n 0, 1) := by decide +kernel
theorem dX6_copy_188 : decode cX6_copy 188 = .ok (.getfield 57, 3) := by decide +kernel
theorem dX6_copy_191 : decode cX6_copy 191 = .ok (.iload 6, 2) := by decide +kernel
theorem dX6_copy_193 : decode cX6_copy 193 = .ok (.iaload, 1) := by decide +kernel
theorem dX6_copy_194 : decode cX6_copy 194 = .ok (.iastore, 1) := by decide +kernel
theorem dX6_copy_195 : decode cX6_copy 195 = .ok (.iinc 6 1, 3) := by decide +kernel
theorem dX6_copy_198 : decode cX6_copy 198 = .ok (.goto (-32), 3) := by decide +kernel
theorem dX6_copy_201 : decode cX6_copy 201 = .ok (.iload 5, 2) := by decide +kernel
theorem dX6_copy_203 : decode cX6_copy 203 = .ok (.ireturn, 1) := by decide +kernel
set_option maxRecDepth 20000 in
theorem ggX6_load_X6_isSheet : GoodIn wsX6_load wsX6_isSheet := goodIn_r _ [10, 11, 12, 9, 13] (by decide +kernel) (by decide +kernel)
set_option maxRecDepth 20000 in
theorem gX6_load_X6_isSheet : GoodIn wsX6_load (va_wsS RX6 321 yX6_isSheet wsX6_isSheet) := goodIn_app (goodIn_of _ (by decide +kernel)) ggX6_load_X6_isSheet
set_option maxRecDepth 20000 in
theorem ggX6_load_X6_finding : GoodIn wsX6_load wsX6_finding := goodIn_r _ [17, 18, 1, 25, 26, 27, 28, 29, 30, 31, 32, 33, 34, 35, 36, 37, 38, 39, 40, 41, 42, 43, 44, 45, 46] (by decide +kernel) (by decide +kernel)
set_option maxRecDepth 20000 in
theorem gX6_load_X6_finding : GoodIn wsX6_load (wsV RX6 83 RX6 yX6_finding wsX6_finding) := goodIn_app (goodIn_of _ (by decide +kernel)) ggX6_load_X6_finding
set_option maxRecDepth 20000 in
theorem ggX6_load_X6_isThing : GoodIn wsX6_load wsX6_isThing := goodIn_r _ [21, 11, 12, 9, 13] (by decide +kernel) (by decide +kernel)
set_option maxRecDepth 20000 in
theorem gX6_load_X6_isThing : GoodIn wsX6_load (va_wsS RX6 73 yX6_isThing wsX6_isThing) := goodIn_app (goodIn_of _ (by decide +kernel)) ggX6_load_X6_isThing
set_option maxRecDepth 20000 in
theorem ggX6_load_X6_within : GoodIn wsX6_load wsX6_within := goodIn_r _ [13] (by decide +kernel) (by decide +kernel)
set_option maxRecDepth 20000 in
theorem gX6_load_X6_within : GoodIn wsX6_load (va_wsS RX6 69 yX6_within wsX6_within) := goodIn_app (goodIn_of _ (by decide +kernel)) ggX6_load_X6_within
set_option maxRecDepth 20000 in
theorem ggX6_load_X6_at : GoodIn wsX6_load wsX6_at := goodIn_r _ [24] (by decide +kernel) (by decide +kernel)
set_option maxRecDepth 20000 in
theorem gX6_load_X6_at : GoodIn wsX6_load (va_wsS RX6 60 yX6_at wsX6_at) := goodIn_app (goodIn_of _ (by decide +kernel)) ggX6_load_X6_at
theorem dX6_load_0 : decode cX6_load 0 = .ok (.iload_n 1, 1) := by decide +kernel
theorem dX6_load_1 : decode cX6_load 1 = .ok (.invokestatic 321, 3) := by decide +kernel
theorem dX6_load_4 : decode cX6_load 4 = .ok (.ifCond .ne 10, 3) := by decide +kernel
theorem dX6_load_7 : decode cX6_load 7 = .ok (.aload_n 0, 1) := by decide +kernel
theorem dX6_load_8 : decode cX6_load 8 = .ok (.ldc 64, 2) := by decide +kernel
theorem dX6_load_10 : decode cX6_load 10 = .ok (.invokevirtual 83, 3) := by decide +kernel
theorem dX6_load_13 : decode cX6_load 13 = .ok (.ireturn, 1) := by decide +kernel
theorem dX6_load_14 : decode cX6_load 14 = .ok (.aload_n 0, 1) := by decide +kernel
theorem dX6_load_15 : decode cX6_load 15 = .ok (.getfield 48, 3) := by decide +kernel
theorem dX6_load_18 : decode cX6_load 18 = .ok (.iload_n 1, 1) := by decide +kernel
theorem dX6_load_19 : decode cX6_load 19 = .ok (.iaload, 1) := by decide +kernel
theorem dX6_load_20 : decode cX6_load 20 = .ok (.ifCond .ne 11, 3) := by decide +kernel
theorem dX6_load_23 : decode cX6_load 23 = .ok (.aload_n 0, 1) := by decide +kernel
theorem dX6_load_24 : decode cX6_load 24 = .ok (.ldc_w 319, 3) := by decide +kernel
theorem dX6_load_27 : decode cX6_load 27 = .ok (.invokevirtual 83, 3) := by decide +kernel
theorem dX6_load_30 : decode cX6_load 30 = .ok (.ireturn, 1) := by decide +kernel
theorem dX6_load_31 : decode cX6_load 31 = .ok (.iconst 0, 1) := by decide +kernel
theorem dX6_load_32 : decode cX6_load 32 = .ok (.istore_n 2, 1) := by decide +kernel
theorem dX6_load_33 : decode cX6_load 33 = .ok (.iload_n 2, 1) := by decide +kernel
theorem dX6_load_34 : decode cX6_load 34 = .ok (.aload_n 0, 1) := by decide +kernel
theorem dX6_load_35 : decode cX6_load 35 = .ok (.getfield 51, 3) := by decide +kernel
theorem dX6_load_38 : decode cX6_load 38 = .ok (.iload_n 1, 1) := by decide +kernel
theorem dX6_load_39 : decode cX6_load 39 = .ok (.iaload, 1) := by decide +kernel
theorem dX6_load_40 : decode cX6_load 40 = .ok (.if_icmp .ge 60, 3) := by decide +kernel
theorem dX6_load_43 : decode cX6_load 43 = .ok (.iload_n 2, 1) := by decide +kernel
theorem dX6_load_44 : decode cX6_load 44 = .ok (.invokestatic 73, 3) := by decide +kernel
theorem dX6_load_47 : decode cX6_load 47 = .ok (.ifCond .eq 53, 3) := by decide +kernel
theorem dX6_load_50 : decode cX6_load 50 = .ok (.aload_n 0, 1) := by decide +kernel
theorem dX6_load_51 : decode cX6_load 51 = .ok (.getfield 54, 3) := by decide +kernel
theorem dX6_load_54 : decode cX6_load 54 = .ok (.bipush 40, 2) := by decide +kernel
theorem dX6_load_56 : decode cX6_load 56 = .ok (.iload_n 1, 1) := by decide +kernel
theorem dX6_load_57 : decode cX6_load 57 = .ok (.imul, 1) := by decide +kernel
theorem dX6_load_58 : decode cX6_load 58 = .ok (.iload_n 2, 1) := by decide +kernel
theorem dX6_load_59 : decode cX6_load 59 = .ok (.iadd, 1) := by decide +kernel
theorem dX6_load_60 : decode cX6_load 60 = .ok (.iaload, 1) := by decide +kernel
theorem dX6_load_61 : decode cX6_load 61 = .ok (.iconst 0, 1) := by decide +kernel
theorem dX6_load_62 : decode cX6_load 62 = .ok (.bipush 20, 2) := by decide +kernel
theorem dX6_load_64 : decode cX6_load 64 = .ok (.invokestatic 69, 3) := by decide +kernel
theorem dX6_load_67 : decode cX6_load 67 = .ok (.ifCond .eq 33, 3) := by decide +kernel
theorem dX6_load_70 : decode cX6_load 70 = .ok (.aload_n 0, 1) := by decide +kernel
theorem dX6_load_71 : decode cX6_load 71 = .ok (.getfield 9, 3) := by decide +kernel
theorem dX6_load_74 : decode cX6_load 74 = .ok (.iconst 1, 1) := by decide +kernel
theorem dX6_load_75 : decode cX6_load 75 = .ok (.bipush 12, 2) := by decide +kernel
theorem dX6_load_77 : decode cX6_load 77 = .ok (.iload_n 2, 1) := by decide +kernel
theorem dX6_load_78 : decode cX6_load 78 = .ok (.iadd, 1) := by decide +kernel
theorem dX6_load_79 : decode cX6_load 79 = .ok (.invokestatic 60, 3) := by decide +kernel
theorem dX6_load_82 : decode cX6_load 82 = .ok (.aload_n 0, 1) := by decide +kernel
theorem dX6_load_83 : decode cX6_load 83 = .ok (.getfield 54, 3) := by decide +kernel
theorem dX6_load_86 : decode cX6_load 86 = .ok (.bipush 40, 2) := by decide +kernel
theorem dX6_load_88 : decode cX6_load 88 = .ok (.iload_n 1, 1) := by decide +kernel
theorem dX6_load_89 : decode cX6_load 89 = .ok (.imul, 1) := by decide +kernel
theorem dX6_load_90 : decode cX6_load 90 = .ok (.iload_n 2, 1) := by decide +kernel
theorem dX6_load_91 : decode cX6_load 91 = .ok (.iadd, 1) := by decide +kernel
theorem dX6_load_92 : decode cX6_load 92 = .ok (.iaload, 1) := by decide +kernel
theorem dX6_load_93 : decode cX6_load 93 = .ok (.iastore, 1) := by decide +kernel
theorem dX6_load_94 : decode cX6_load 94 = .ok (.iinc 2 1, 3) := by decide +kernel
theorem dX6_load_97 : decode cX6_load 97 = .ok (.goto (-64), 3) := by decide +kernel
theorem dX6_load_100 : decode cX6_load 100 = .ok (.iload_n 2, 1) := by decide +kernel
theorem dX6_load_101 : decode cX6_load 101 = .ok (.ireturn, 1) := by decide +kernel
set_option maxRecDepth 20000 in
theorem ggX6_judge_X6_isSheet : GoodIn wsX6_judge wsX6_isSheet := goodIn_r _ [12, 13, 14, 11, 15] (by decide +kernel) (by decide +kernel)
set_option maxRecDepth 20000 in
theorem gX6_judge_X6_isSheet : GoodIn wsX6_judge (va_wsS RX6 321 yX6_isSheet wsX6_isSheet) := goodIn_app (goodIn_of _ (by decide +kernel)) ggX6_judge_X6_isSheet
set_option maxRecDepth 20000 in
theorem ggX6_judge_X6_finding : GoodIn wsX6_judge wsX6_finding := goodIn_r _ [19, 20, 1, 116, 117, 118, 119, 120, 121, 122, 123, 124, 125, 126, 127, 128, 129, 130, 131, 132, 133, 134, 135, 136, 137] (by decide +kernel) (by decide +kernel)
set_option maxRecDepth 20000 in
theorem gX6_judge_X6_finding : GoodIn wsX6_judge (wsV RX6 83 RX6 yX6_finding wsX6_finding) := goodIn_app (goodIn_of _ (by decide +kernel)) ggX6_judge_X6_finding
set_option maxRecDepth 20000 in
theorem ggX6_judge_X6_isTooLate : GoodIn wsX6_judge wsX6_isTooLate := goodIn_r _ [24, 6, 116, 117, 118, 119, 120, 121, 122, 123, 124, 125, 126, 127, 128, 129, 130, 131, 132, 133, 134, 135, 136, 137] (by decide +kernel) (by decide +kernel)
set_option maxRecDepth 20000 in
theorem gX6_judge_X6_isTooLate : GoodIn wsX6_judge (wsV RX6 176 RX6 yX6_isTooLate wsX6_isTooLate) := goodIn_app (goodIn_of _ (by decide +kernel)) ggX6_judge_X6_isTooLate
set_option maxRecDepth 20000 in
theorem ggX6_judge_X6_copyRow : GoodIn wsX6_judge wsX6_copyRow := goodIn_r _ [27] (by decide +kernel) (by decide +kernel)
set_option maxRecDepth 20000 in
theorem gX6_judge_X6_copyRow : GoodIn wsX6_judge (va_wsS RX6 65 yX6_copyRow wsX6_copyRow) := goodIn_app (goodIn_of _ (by decide +kernel)) ggX6_judge_X6_copyRow
set_option maxRecDepth 20000 in
theorem ggX6_judge_X6_night : GoodIn wsX6_judge wsX6_night := goodIn_r _ [31, 6, 32, 33, 34, 11, 35, 36, 37, 38, 39, 40, 41, 42, 43, 44, 45, 46, 47, 48, 49, 50, 51, 52, 53, 54, 55, 56, 57, 58, 59, 60, 61, 62, 63, 64, 65, 66, 67, 68, 69, 70, 71, 72, 73, 74, 75, 76, 77, 78, 79, 80, 81, 82, 83, 84, 85, 86, 87, 88, 89, 90, 91, 92, 93, 94, 95, 96, 97, 98, 99, 100, 101, 102, 103, 104, 105, 106, 107, 108, 109, 110, 111, 116, 117, 118, 119, 120, 121, 122, 123, 124, 125, 126, 127, 128, 129, 130, 131, 132, 133, 134, 135, 136, 137] (by decide +kernel) (by decide +kernel)
set_option maxRecDepth 20000 in
theorem gX6_judge_X6_night : GoodIn wsX6_judge (wsV RX6 172 RX6 yX6_night wsX6_night) := goodIn_app (goodIn_of _ (by decide +kernel)) ggX6_judge_X6_night
set_option maxRecDepth 20000 in
theorem ggX6_judge_X6_putBack : GoodIn wsX6_judge wsX6_putBack := goodIn_r _ [115, 7, 6, 25, 26, 11, 27, 116, 117, 118, 119, 120, 121, 122, 123, 124, 125, 126, 127, 128, 129, 130, 131, 132, 133, 134, 135, 136, 137] (by decide +kernel) (by decide +kernel)
set_option maxRecDepth 20000 in
theorem gX6_judge_X6_putBack : GoodIn wsX6_judge (wsV RX6 188 RX6 yX6_putBack wsX6_putBack) := goodIn_app (goodIn_of _ (by decide +kernel)) ggX6_judge_X6_putBack
theorem dX6_judge_0 : decode cX6_judge 0 = .ok (.iload_n 1, 1) := by decide +kernel
theorem dX6_judge_1 : decode cX6_judge 1 = .ok (.invokestatic 321, 3) := by decide +kernel
theorem dX6_judge_4 : decode cX6_judge 4 = .ok (.ifCond .ne 10, 3) := by decide +kernel
theorem dX6_judge_7 : decode cX6_judge 7 = .ok (.aload_n 0, 1) := by decide +kernel
theorem dX6_judge_8 : decode cX6_judge 8 = .ok (.ldc 64, 2) := by decide +kernel
theorem dX6_judge_10 : decode cX6_judge 10 = .ok (.invokevirtual 83, 3) := by decide +kernel
theorem dX6_judge_13 : decode cX6_judge 13 = .ok (.ireturn, 1) := by decide +kernel
theorem dX6_judge_14 : decode cX6_judge 14 = .ok (.aload_n 0, 1) := by decide +kernel
theorem dX6_judge_15 : decode cX6_judge 15 = .ok (.getfield 48, 3) := by decide +kernel
theorem dX6_judge_18 : decode cX6_judge 18 = .ok (.iload_n 1, 1) := by decide +kernel
theorem dX6_judge_19 : decode cX6_judge 19 = .ok (.iaload, 1) := by decide +kernel
theorem dX6_judge_20 : decode cX6_judge 20 = .ok (.ifCond .ne 11, 3) := by decide +kernel
theorem dX6_judge_23 : decode cX6_judge 23 = .ok (.aload_n 0, 1) := by decide +kernel
theorem dX6_judge_24 : decode cX6_judge 24 = .ok (.ldc_w 319, 3) := by decide +kernel
theorem dX6_judge_27 : decode cX6_judge 27 = .ok (.invokevirtual 83, 3) := by decide +kernel
theorem dX6_judge_30 : decode cX6_judge 30 = .ok (.ireturn, 1) := by decide +kernel
theorem dX6_judge_31 : decode cX6_judge 31 = .ok (.aload_n 0, 1) := by decide +kernel
theorem dX6_judge_32 : decode cX6_judge 32 = .ok (.aload_n 0, 1) := by decide +kernel
theorem dX6_judge_33 : decode cX6_judge 33 = .ok (.getfield 51, 3) := by decide +kernel
theorem dX6_judge_36 : decode cX6_judge 36 = .ok (.iload_n 1, 1) := by decide +kernel
theorem dX6_judge_37 : decode cX6_judge 37 = .ok (.iaload, 1) := by decide +kernel
theorem dX6_judge_38 : decode cX6_judge 38 = .ok (.invokevirtual 176, 3) := by decide +kernel
theorem dX6_judge_41 : decode cX6_judge 41 = .ok (.ifCond .eq 10, 3) := by decide +kernel
theorem dX6_judge_44 : decode cX6_judge 44 = .ok (.aload_n 0, 1) := by decide +kernel
theorem dX6_judge_45 : decode cX6_judge 45 = .ok (.ldc 134, 2) := by decide +kernel
theorem dX6_judge_47 : decode cX6_judge 47 = .ok (.invokevirtual 83, 3) := by decide +kernel
theorem dX6_judge_50 : decode cX6_judge 50 = .ok (.ireturn, 1) := by decide +kernel
theorem dX6_judge_51 : decode cX6_judge 51 = .ok (.aload_n 0, 1) := by decide +kernel
theorem dX6_judge_52 : decode cX6_judge 52 = .ok (.getfield 9, 3) := by decide +kernel
theorem dX6_judge_55 : decode cX6_judge 55 = .ok (.aload_n 0, 1) := by decide +kernel
theorem dX6_judge_56 : decode cX6_judge 56 = .ok (.getfield 16, 3) := by decide +kernel
theorem dX6_judge_59 : decode cX6_judge 59 = .ok (.invokestatic 65, 3) := by decide +kernel
theorem dX6_judge_62 : decode cX6_judge 62 = .ok (.iconst 0, 1) := by decide +kernel
theorem dX6_judge_63 : decode cX6_judge 63 = .ok (.istore_n 2, 1) := by decide +kernel
theorem dX6_judge_64 : decode cX6_judge 64 = .ok (.iload_n 2, 1) := by decide +kernel
theorem dX6_judge_65 : decode cX6_judge 65 = .ok (.aload_n 0, 1) := by decide +kernel
theorem dX6_judge_66 : decode cX6_judge 66 = .ok (.getfield 51, 3) := by decide +kernel
theorem dX6_judge_69 : decode cX6_judge 69 = .ok (.iload_n 1, 1) := by decide +kernel
theorem dX6_judge_70 : decode cX6_judge 70 = .ok (.iaload, 1) := by decide +kernel
theorem dX6_judge_71 : decode cX6_judge 71 = .ok (.if_icmp .ge 27, 3) := by decide +kernel
theorem dX6_judge_74 : decode cX6_judge 74 = .ok (.aload_n 0, 1) := by decide +kernel
theorem dX6_judge_75 : decode cX6_judge 75 = .ok (.invokevirtual 172, 3) := by decide +kernel
theorem dX6_judge_78 : decode cX6_judge 78 = .ok (.aload_n 0, 1) := by decide +kernel
theorem dX6_judge_79 : decode cX6_judge 79 = .ok (.getfield 54, 3) := by decide +kernel
theorem dX6_judge_82 : decode cX6_judge 82 = .ok (.bipush 40, 2) := by decide +kernel
theorem dX6_judge_84 : decode cX6_judge 84 = .ok (.iload_n 1, 1) := by decide +kernel
theorem dX6_judge_85 : decode cX6_judge 85 = .ok (.imul, 1) := by decide +kernel
theorem dX6_judge_86 : decode cX6_judge 86 = .ok (.iload_n 2, 1) := by decide +kernel
theorem dX6_judge_87 : decode cX6_judge 87 = .ok (.iadd, 1) := by decide +kernel
theorem dX6_judge_88 : decode cX6_judge 88 = .ok (.iaload, 1) := by decide +kernel
theorem dX6_judge_89 : decode cX6_judge 89 = .ok (.if_icmp .ne 9, 3) := by decide +kernel
theorem dX6_judge_92 : decode cX6_judge 92 = .ok (.iinc 2 1, 3) := by decide +kernel
theorem dX6_judge_95 : decode cX6_judge 95 = .ok (.goto (-31), 3) := by decide +kernel
theorem dX6_judge_98 : decode cX6_judge 98 = .ok (.aload_n 0, 1) := by decide +kernel
theorem dX6_judge_99 : decode cX6_judge 99 = .ok (.iload_n 2, 1) := by decide +kernel
theorem dX6_judge_100 : decode cX6_judge 100 = .ok (.aload_n 0, 1) := by decide +kernel
theorem dX6_judge_101 : decode cX6_judge 101 = .ok (.getfield 51, 3) := by decide +kernel
theorem dX6_judge_104 : decode cX6_judge 104 = .ok (.iload_n 1, 1) := by decide +kernel
theorem dX6_judge_105 : decode cX6_judge 105 = .ok (.iaload, 1) := by decide +kernel
theorem dX6_judge_106 : decode cX6_judge 106 = .ok (.if_icmp .ne 7, 3) := by decide +kernel
theorem dX6_judge_109 : decode cX6_judge 109 = .ok (.iconst 0, 1) := by decide +kernel
theorem dX6_judge_110 : decode cX6_judge 110 = .ok (.goto 6, 3) := by decide +kernel
theorem dX6_judge_113 : decode cX6_judge 113 = .ok (.iconst 1, 1) := by decide +kernel
theorem dX6_judge_114 : decode cX6_judge 114 = .ok (.iload_n 2, 1) := by decide +kernel
theorem dX6_judge_115 : decode cX6_judge 115 = .ok (.iadd, 1) := by decide +kernel
theorem dX6_judge_116 : decode cX6_judge 116 = .ok (.invokevirtual 188, 3) := by decide +kernel
theorem dX6_judge_119 : decode cX6_judge 119 = .ok (.ireturn, 1) := by decide +kernel
set_option maxRecDepth 20000 in
theorem ggX6_image_X6_copyRow : GoodIn wsX6_image wsX6_copyRow := goodIn_r _ [7] (by decide +kernel) (by decide +kernel)
set_option maxRecDepth 20000 in
theorem gX6_image_X6_copyRow : GoodIn wsX6_image (va_wsS RX6 65 yX6_copyRow wsX6_copyRow) := goodIn_app (goodIn_of _ (by decide +kernel)) ggX6_image_X6_copyRow
theorem dX6_image_0 : decode cX6_image 0 = .ok (.aload_n 0, 1) := by decide +kernel
theorem dX6_image_1 : decode cX6_image 1 = .ok (.getfield 9, 3) := by decide +kernel
theorem dX6_image_4 : decode cX6_image 4 = .ok (.aload_n 0, 1) := by decide +kernel
theorem dX6_image_5 : decode cX6_image 5 = .ok (.getfield 13, 3) := by decide +kernel
theorem dX6_image_8 : decode cX6_image 8 = .ok (.invokestatic 65, 3) := by decide +kernel
theorem dX6_image_11 : decode cX6_image 11 = .ok (.aload_n 0, 1) := by decide +kernel
theorem dX6_image_12 : decode cX6_image 12 = .ok (.iconst 1, 1) := by decide +kernel
theorem dX6_image_13 : decode cX6_image 13 = .ok (.putfield 328, 3) := by decide +kernel
theorem dX6_image_16 : decode cX6_image 16 = .ok (.iconst 1, 1) := by decide +kernel
theorem dX6_image_17 : decode cX6_image 17 = .ok (.ireturn, 1) := by decide +kernel
set_option maxRecDepth 20000 in
theorem ggX6_undo_X6_finding : GoodIn wsX6_undo wsX6_finding := goodIn_r _ [9, 10, 11, 15, 16, 17, 18, 19, 20, 21, 22, 23, 24, 25, 26, 27, 28, 29, 30, 31, 32, 33, 34, 35, 36] (by decide +kernel) (by decide +kernel)
set_option maxRecDepth 20000 in
theorem gX6_undo_X6_finding : GoodIn wsX6_undo (wsV RX6 83 RX6 yX6_finding wsX6_finding) := goodIn_app (goodIn_of _ (by decide +kernel)) ggX6_undo_X6_finding
set_option maxRecDepth 20000 in
theorem ggX6_undo_X6_copyRow : GoodIn wsX6_undo wsX6_copyRow := goodIn_r _ [14] (by decide +kernel) (by decide +kernel)
set_option maxRecDepth 20000 in
theorem gX6_undo_X6_copyRow : GoodIn wsX6_undo (va_wsS RX6 65 yX6_copyRow wsX6_copyRow) := goodIn_app (goodIn_of _ (by decide +kernel)) ggX6_undo_X6_copyRow
theorem dX6_undo_0 : decode cX6_undo 0 = .ok (.aload_n 0, 1) := by decide +kernel
theorem dX6_undo_1 : decode cX6_undo 1 = .ok (.getfield 328, 3) := by decide +kernel
theorem dX6_undo_4 : decode cX6_undo 4 = .ok (.ifCond .ne 10, 3) := by decide +kernel
theorem dX6_undo_7 : decode cX6_undo 7 = .ok (.aload_n 0, 1) := by decide +kernel
theorem dX6_undo_8 : decode cX6_undo 8 = .ok (.ldc 147, 2) := by decide +kernel
theorem dX6_undo_10 : decode cX6_undo 10 = .ok (.invokevirtual 83, 3) := by decide +kernel
theorem dX6_undo_13 : decode cX6_undo 13 = .ok (.ireturn, 1) := by decide +kernel
theorem dX6_undo_14 : decode cX6_undo 14 = .ok (.aload_n 0, 1) := by decide +kernel
theorem dX6_undo_15 : decode cX6_undo 15 = .ok (.getfield 13, 3) := by decide +kernel
theorem dX6_undo_18 : decode cX6_undo 18 = .ok (.aload_n 0, 1) := by decide +kernel
theorem dX6_undo_19 : decode cX6_undo 19 = .ok (.getfield 9, 3) := by decide +kernel
theorem dX6_undo_22 : decode cX6_undo 22 = .ok (.invokestatic 65, 3) := by decide +kernel
theorem dX6_undo_25 : decode cX6_undo 25 = .ok (.aload_n 0, 1) := by decide +kernel
theorem dX6_undo_26 : decode cX6_undo 26 = .ok (.getfield 9, 3) := by decide +kernel
theorem dX6_undo_29 : decode cX6_undo 29 = .ok (.iconst 0, 1) := by decide +kernel
theorem dX6_undo_30 : decode cX6_undo 30 = .ok (.iaload, 1) := by decide +kernel
theorem dX6_undo_31 : decode cX6_undo 31 = .ok (.ireturn, 1) := by decide +kernel
theorem dX6_tear_0 : decode cX6_tear 0 = .ok (.aload_n 0, 1) := by decide +kernel
theorem dX6_tear_1 : decode cX6_tear 1 = .ok (.getfield 328, 3) := by decide +kernel
theorem dX6_tear_4 : decode cX6_tear 4 = .ok (.ifCond .eq 7, 3) := by decide +kernel
theorem dX6_tear_7 : decode cX6_tear 7 = .ok (.iconst 1, 1) := by decide +kernel
theorem dX6_tear_8 : decode cX6_tear 8 = .ok (.goto 4, 3) := by decide +kernel
theorem dX6_tear_11 : decode cX6_tear 11 = .ok (.iconst 0, 1) := by decide +kernel
theorem dX6_tear_12 : decode cX6_tear 12 = .ok (.istore_n 1, 1) := by decide +kernel
theorem dX6_tear_13 : decode cX6_tear 13 = .ok (.aload_n 0, 1) := by decide +kernel
theorem dX6_tear_14 : decode cX6_tear 14 = .ok (.iconst 0, 1) := by decide +kernel
theorem dX6_tear_15 : decode cX6_tear 15 = .ok (.putfield 328, 3) := by decide +kernel
theorem dX6_tear_18 : decode cX6_tear 18 = .ok (.iload_n 1, 1) := by decide +kernel
theorem dX6_tear_19 : decode cX6_tear 19 = .ok (.ireturn, 1) := by decide +kernel
set_option maxRecDepth 20000 in
theorem ggX6_count_X6_inHeaps : GoodIn wsX6_count wsX6_inHeaps := goodIn_r _ [8, 9, 10, 11, 7, 12, 13, 14, 15, 16, 1, 17, 18, 19, 25, 26, 27, 28, 29, 30, 31, 32, 33, 34, 35, 36, 37, 38, 39, 40, 41, 42, 43, 44, 45, 46] (by decide +kernel) (by decide +kernel)
set_option maxRecDepth 20000 in
theorem gX6_count_X6_inHeaps : GoodIn wsX6_count (wsV RX6 185 RX6 yX6_inHeaps wsX6_inHeaps) := goodIn_app (goodIn_of _ (by decide +kernel)) ggX6_count_X6_inHeaps
set_option maxRecDepth 20000 in
theorem ggX6_count_X6_sideIs : GoodIn wsX6_count wsX6_sideIs := goodIn_r _ [16, 1, 17, 18, 7, 19, 25, 26, 27, 28, 29, 30, 31, 32, 33, 34, 35, 36, 37, 38, 39, 40, 41, 42, 43, 44, 45, 46] (by decide +kernel) (by decide +kernel)
set_option maxRecDepth 20000 in
theorem gX6_count_X6_sideIs : GoodIn wsX6_count (wsV RX6 93 RX6 yX6_sideIs wsX6_sideIs) := goodIn_app (goodIn_of _ (by decide +kernel)) ggX6_count_X6_sideIs
set_option maxRecDepth 20000 in
theorem ggX6_count_X6_finding : GoodIn wsX6_count wsX6_finding := goodIn_r _ [23, 24, 3, 25, 26, 27, 28, 29, 30, 31, 32, 33, 34, 35, 36, 37, 38, 39, 40, 41, 42, 43, 44, 45, 46] (by decide +kernel) (by decide +kernel)
set_option maxRecDepth 20000 in
theorem gX6_count_X6_finding : GoodIn wsX6_count (wsV RX6 83 RX6 yX6_finding wsX6_finding) := goodIn_app (goodIn_of _ (by decide +kernel)) ggX6_count_X6_finding
theorem dX6_count_0 : decode cX6_count 0 = .ok (.iconst 0, 1) := by decide +kernel
theorem dX6_count_1 : decode cX6_count 1 = .ok (.istore_n 2, 1) := by decide +kernel
theorem dX6_count_2 : decode cX6_count 2 = .ok (.iload_n 1, 1) := by decide +kernel
theorem dX6_count_3 : decode cX6_count 3 = .ok (.tableswitch 132 0 7 #[45, 52, 59, 64, 78, 85, 90, 97], 45) := by decide +kernel
theorem dX6_count_48 : decode cX6_count 48 = .ok (.aload_n 0, 1) := by decide +kernel
theorem dX6_count_49 : decode cX6_count 49 = .ok (.getfield 9, 3) := by decide +kernel
theorem dX6_count_52 : decode cX6_count 52 = .ok (.iconst 0, 1) := by decide +kernel
theorem dX6_count_53 : decode cX6_count 53 = .ok (.iaload, 1) := by decide +kernel
theorem dX6_count_54 : decode cX6_count 54 = .ok (.ireturn, 1) := by decide +kernel
theorem dX6_count_55 : decode cX6_count 55 = .ok (.aload_n 0, 1) := by decide +kernel
theorem dX6_count_56 : decode cX6_count 56 = .ok (.getfield 9, 3) := by decide +kernel
theorem dX6_count_59 : decode cX6_count 59 = .ok (.iconst 2, 1) := by decide +kernel
theorem dX6_count_60 : decode cX6_count 60 = .ok (.iaload, 1) := by decide +kernel
theorem dX6_count_61 : decode cX6_count 61 = .ok (.ireturn, 1) := by decide +kernel
theorem dX6_count_62 : decode cX6_count 62 = .ok (.aload_n 0, 1) := by decide +kernel
theorem dX6_count_63 : decode cX6_count 63 = .ok (.invokevirtual 185, 3) := by decide +kernel
theorem dX6_count_66 : decode cX6_count 66 = .ok (.ireturn, 1) := by decide +kernel
theorem dX6_count_67 : decode cX6_count 67 = .ok (.aload_n 0, 1) := by decide +kernel
theorem dX6_count_68 : decode cX6_count 68 = .ok (.iconst 0, 1) := by decide +kernel
theorem dX6_count_69 : decode cX6_count 69 = .ok (.iconst 1, 1) := by decide +kernel
theorem dX6_count_70 : decode cX6_count 70 = .ok (.invokevirtual 93, 3) := by decide +kernel
theorem dX6_count_73 : decode cX6_count 73 = .ok (.aload_n 0, 1) := by decide +kernel
theorem dX6_count_74 : decode cX6_count 74 = .ok (.iconst 1, 1) := by decide +kernel
theorem dX6_count_75 : decode cX6_count 75 = .ok (.iconst 1, 1) := by decide +kernel
theorem dX6_count_76 : decode cX6_count 76 = .ok (.invokevirtual 93, 3) := by decide +kernel
theorem dX6_count_79 : decode cX6_count 79 = .ok (.iadd, 1) := by decide +kernel
theorem dX6_count_80 : decode cX6_count 80 = .ok (.ireturn, 1) := by decide +kernel
theorem dX6_count_81 : decode cX6_count 81 = .ok (.aload_n 0, 1) := by decide +kernel
theorem dX6_count_82 : decode cX6_count 82 = .ok (.getfield 9, 3) := by decide +kernel
theorem dX6_count_85 : decode cX6_count 85 = .ok (.iconst 3, 1) := by decide +kernel
theorem dX6_count_86 : decode cX6_count 86 = .ok (.iaload, 1) := by decide +kernel
theorem dX6_count_87 : decode cX6_count 87 = .ok (.ireturn, 1) := by decide +kernel
theorem dX6_count_88 : decode cX6_count 88 = .ok (.aload_n 0, 1) := by decide +kernel
theorem dX6_count_89 : decode cX6_count 89 = .ok (.getfield 240, 3) := by decide +kernel
theorem dX6_count_92 : decode cX6_count 92 = .ok (.ireturn, 1) := by decide +kernel
theorem dX6_count_93 : decode cX6_count 93 = .ok (.aload_n 0, 1) := by decide +kernel
theorem dX6_count_94 : decode cX6_count 94 = .ok (.getfield 9, 3) := by decide +kernel
theorem dX6_count_97 : decode cX6_count 97 = .ok (.iconst 4, 1) := by decide +kernel
theorem dX6_count_98 : decode cX6_count 98 = .ok (.iaload, 1) := by decide +kernel
theorem dX6_count_99 : decode cX6_count 99 = .ok (.ireturn, 1) := by decide +kernel
theorem dX6_count_100 : decode cX6_count 100 = .ok (.iconst 0, 1) := by decide +kernel
theorem dX6_count_101 : decode cX6_count 101 = .ok (.istore_n 3, 1) := by decide +kernel
theorem dX6_count_102 : decode cX6_count 102 = .ok (.iload_n 3, 1) := by decide +kernel
theorem dX6_count_103 : decode cX6_count 103 = .ok (.bipush 10, 2) := by decide +kernel
theorem dX6_count_105 : decode cX6_count 105 = .ok (.if_icmp .ge 28, 3) := by decide +kernel
theorem dX6_count_108 : decode cX6_count 108 = .ok (.iload_n 2, 1) := by decide +kernel
theorem dX6_count_109 : decode cX6_count 109 = .ok (.aload_n 0, 1) := by decide +kernel
theorem dX6_count_110 : decode cX6_count 110 = .ok (.getfield 9, 3) := by decide +kernel
theorem dX6_count_113 : decode cX6_count 113 = .ok (.iconst 5, 1) := by decide +kernel
theorem dX6_count_114 : decode cX6_count 114 = .ok (.iload_n 3, 1) := by decide +kernel
theorem dX6_count_115 : decode cX6_count 115 = .ok (.iadd, 1) := by decide +kernel
theorem dX6_count_116 : decode cX6_count 116 = .ok (.iaload, 1) := by decide +kernel
theorem dX6_count_117 : decode cX6_count 117 = .ok (.ifCond .ge 7, 3) := by decide +kernel
theorem dX6_count_120 : decode cX6_count 120 = .ok (.iconst 0, 1) := by decide +kernel
theorem dX6_count_121 : decode cX6_count 121 = .ok (.goto 4, 3) := by decide +kernel
theorem dX6_count_124 : decode cX6_count 124 = .ok (.iconst 1, 1) := by decide +kernel
theorem dX6_count_125 : decode cX6_count 125 = .ok (.iadd, 1) := by decide +kernel
theorem dX6_count_126 : decode cX6_count 126 = .ok (.istore_n 2, 1) := by decide +kernel
theorem dX6_count_127 : decode cX6_count 127 = .ok (.iinc 3 1, 3) := by decide +kernel
theorem dX6_count_130 : decode cX6_count 130 = .ok (.goto (-28), 3) := by decide +kernel
theorem dX6_count_133 : decode cX6_count 133 = .ok (.iload_n 2, 1) := by decide +kernel
theorem dX6_count_134 : decode cX6_count 134 = .ok (.ireturn, 1) := by decide +kernel
theorem dX6_count_135 : decode cX6_count 135 = .ok (.aload_n 0, 1) := by decide +kernel
theorem dX6_count_136 : decode cX6_count 136 = .ok (.ldc 64, 2) := by decide +kernel
theorem dX6_count_138 : decode cX6_count 138 = .ok (.invokevirtual 83, 3) := by decide +kernel
theorem dX6_count_141 : decode cX6_count 141 = .ok (.ireturn, 1) := by decide +kernel
set_option maxRecDepth 20000 in
theorem ggX6_status_X6_within : GoodIn wsX6_status wsX6_within := goodIn_r _ [6] (by decide +kernel) (by decide +kernel)
set_option maxRecDepth 20000 in
theorem gX6_status_X6_within : GoodIn wsX6_status (va_wsS RX6 69 yX6_within wsX6_within) := goodIn_app (goodIn_of _ (by decide +kernel)) ggX6_status_X6_within
set_option maxRecDepth 20000 in
theorem ggX6_status_X6_finding : GoodIn wsX6_status wsX6_finding := goodIn_r _ [10, 1, 2, 11, 12, 13, 14, 15, 16, 17, 18, 19, 20, 21, 22, 23, 24, 25, 26, 27, 28, 29, 30, 31, 32] (by decide +kernel) (by decide +kernel)
set_option maxRecDepth 20000 in
theorem gX6_status_X6_finding : GoodIn wsX6_status (wsV RX6 83 RX6 yX6_finding wsX6_finding) := goodIn_app (goodIn_of _ (by decide +kernel)) ggX6_status_X6_finding
theorem dX6_status_0 : decode cX6_status 0 = .ok (.iload_n 1, 1) := by decide +kernel
theorem dX6_status_1 : decode cX6_status 1 = .ok (.iconst (-1), 1) := by decide +kernel
theorem dX6_status_2 : decode cX6_status 2 = .ok (.bipush 6, 2) := by decide +kernel
theorem dX6_status_4 : decode cX6_status 4 = .ok (.invokestatic 69, 3) := by decide +kernel
theorem dX6_status_7 : decode cX6_status 7 = .ok (.ifCond .eq 14, 3) := by decide +kernel
theorem dX6_status_10 : decode cX6_status 10 = .ok (.aload_n 0, 1) := by decide +kernel
theorem dX6_status_11 : decode cX6_status 11 = .ok (.getfield 19, 3) := by decide +kernel
theorem dX6_status_14 : decode cX6_status 14 = .ok (.iload_n 1, 1) := by decide +kernel
theorem dX6_status_15 : decode cX6_status 15 = .ok (.iconst 1, 1) := by decide +kernel
theorem dX6_status_16 : decode cX6_status 16 = .ok (.iadd, 1) := by decide +kernel
theorem dX6_status_17 : decode cX6_status 17 = .ok (.iaload, 1) := by decide +kernel
theorem dX6_status_18 : decode cX6_status 18 = .ok (.goto 9, 3) := by decide +kernel
theorem dX6_status_21 : decode cX6_status 21 = .ok (.aload_n 0, 1) := by decide +kernel
theorem dX6_status_22 : decode cX6_status 22 = .ok (.ldc 64, 2) := by decide +kernel
theorem dX6_status_24 : decode cX6_status 24 = .ok (.invokevirtual 83, 3) := by decide +kernel
theorem dX6_status_27 : decode cX6_status 27 = .ok (.ireturn, 1) := by decide +kernel
theorem dJ6_bitCount_0f7a4_0 : decode cJ6_bitCount_0f7a4 0 = .ok (.iload_n 0, 1) := by decide +kernel
theorem dJ6_bitCount_0f7a4_1 : decode cJ6_bitCount_0f7a4 1 = .ok (.iload_n 0, 1) := by decide +kernel
theorem dJ6_bitCount_0f7a4_2 : decode cJ6_bitCount_0f7a4 2 = .ok (.iconst 1, 1) := by decide +kernel
theorem dJ6_bitCount_0f7a4_3 : decode cJ6_bitCount_0f7a4 3 = .ok (.iushr, 1) := by decide +kernel
theorem dJ6_bitCount_0f7a4_4 : decode cJ6_bitCount_0f7a4 4 = .ok (.ldc_w 265, 3) := by decide +kernel
theorem dJ6_bitCount_0f7a4_7 : decode cJ6_bitCount_0f7a4 7 = .ok (.iand, 1) := by decide +kernel
theorem dJ6_bitCount_0f7a4_8 : decode cJ6_bitCount_0f7a4 8 = .ok (.isub, 1) := by decide +kernel
theorem dJ6_bitCount_0f7a4_9 : decode cJ6_bitCount_0f7a4 9 = .ok (.istore_n 0, 1) := by decide +kernel
theorem dJ6_bitCount_0f7a4_10 : decode cJ6_bitCount_0f7a4 10 = .ok (.iload_n 0, 1) := by decide +kernel
theorem dJ6_bitCount_0f7a4_11 : decode cJ6_bitCount_0f7a4 11 = .ok (.ldc_w 266, 3) := by decide +kernel
theorem dJ6_bitCount_0f7a4_14 : decode cJ6_bitCount_0f7a4 14 = .ok (.iand, 1) := by decide +kernel
theorem dJ6_bitCount_0f7a4_15 : decode cJ6_bitCount_0f7a4 15 = .ok (.iload_n 0, 1) := by decide +kernel
theorem dJ6_bitCount_0f7a4_16 : decode cJ6_bitCount_0f7a4 16 = .ok (.iconst 2, 1) := by decide +kernel
theorem dJ6_bitCount_0f7a4_17 : decode cJ6_bitCount_0f7a4 17 = .ok (.iushr, 1) := by decide +kernel
theorem dJ6_bitCount_0f7a4_18 : decode cJ6_bitCount_0f7a4 18 = .ok (.ldc_w 266, 3) := by decide +kernel
theorem dJ6_bitCount_0f7a4_21 : decode cJ6_bitCount_0f7a4 21 = .ok (.iand, 1) := by decide +kernel
theorem dJ6_bitCount_0f7a4_22 : decode cJ6_bitCount_0f7a4 22 = .ok (.iadd, 1) := by decide +kernel
theorem dJ6_bitCount_0f7a4_23 : decode cJ6_bitCount_0f7a4 23 = .ok (.istore_n 0, 1) := by decide +kernel
theorem dJ6_bitCount_0f7a4_24 : decode cJ6_bitCount_0f7a4 24 = .ok (.iload_n 0, 1) := by decide +kernel
theorem dJ6_bitCount_0f7a4_25 : decode cJ6_bitCount_0f7a4 25 = .ok (.iload_n 0, 1) := by decide +kernel
theorem dJ6_bitCount_0f7a4_26 : decode cJ6_bitCount_0f7a4 26 = .ok (.iconst 4, 1) := by decide +kernel
theorem dJ6_bitCount_0f7a4_27 : decode cJ6_bitCount_0f7a4 27 = .ok (.iushr, 1) := by decide +kernel
theorem dJ6_bitCount_0f7a4_28 : decode cJ6_bitCount_0f7a4 28 = .ok (.iadd, 1) := by decide +kernel
theorem dJ6_bitCount_0f7a4_29 : decode cJ6_bitCount_0f7a4 29 = .ok (.ldc_w 267, 3) := by decide +kernel
theorem dJ6_bitCount_0f7a4_32 : decode cJ6_bitCount_0f7a4 32 = .ok (.iand, 1) := by decide +kernel
theorem dJ6_bitCount_0f7a4_33 : decode cJ6_bitCount_0f7a4 33 = .ok (.istore_n 0, 1) := by decide +kernel
theorem dJ6_bitCount_0f7a4_34 : decode cJ6_bitCount_0f7a4 34 = .ok (.iload_n 0, 1) := by decide +kernel
theorem dJ6_bitCount_0f7a4_35 : decode cJ6_bitCount_0f7a4 35 = .ok (.iload_n 0, 1) := by decide +kernel
theorem dJ6_bitCount_0f7a4_36 : decode cJ6_bitCount_0f7a4 36 = .ok (.bipush 8, 2) := by decide +kernel
theorem dJ6_bitCount_0f7a4_38 : decode cJ6_bitCount_0f7a4 38 = .ok (.iushr, 1) := by decide +kernel
theorem dJ6_bitCount_0f7a4_39 : decode cJ6_bitCount_0f7a4 39 = .ok (.iadd, 1) := by decide +kernel
theorem dJ6_bitCount_0f7a4_40 : decode cJ6_bitCount_0f7a4 40 = .ok (.istore_n 0, 1) := by decide +kernel
theorem dJ6_bitCount_0f7a4_41 : decode cJ6_bitCount_0f7a4 41 = .ok (.iload_n 0, 1) := by decide +kernel
theorem dJ6_bitCount_0f7a4_42 : decode cJ6_bitCount_0f7a4 42 = .ok (.iload_n 0, 1) := by decide +kernel
theorem dJ6_bitCount_0f7a4_43 : decode cJ6_bitCount_0f7a4 43 = .ok (.bipush 16, 2) := by decide +kernel
theorem dJ6_bitCount_0f7a4_45 : decode cJ6_bitCount_0f7a4 45 = .ok (.iushr, 1) := by decide +kernel
theorem dJ6_bitCount_0f7a4_46 : decode cJ6_bitCount_0f7a4 46 = .ok (.iadd, 1) := by decide +kernel
theorem dJ6_bitCount_0f7a4_47 : decode cJ6_bitCount_0f7a4 47 = .ok (.istore_n 0, 1) := by decide +kernel
theorem dJ6_bitCount_0f7a4_48 : decode cJ6_bitCount_0f7a4 48 = .ok (.iload_n 0, 1) := by decide +kernel
theorem dJ6_bitCount_0f7a4_49 : decode cJ6_bitCount_0f7a4 49 = .ok (.bipush 63, 2) := by decide +kernel
theorem dJ6_bitCount_0f7a4_51 : decode cJ6_bitCount_0f7a4 51 = .ok (.iand, 1) := by decide +kernel
theorem dJ6_bitCount_0f7a4_52 : decode cJ6_bitCount_0f7a4 52 = .ok (.ireturn, 1) := by decide +kernel
theorem dJ9_floorMod_7cf53_0 : decode cJ9_floorMod_7cf53 0 = .ok (.iload_n 0, 1) := by decide +kernel
theorem dJ9_floorMod_7cf53_1 : decode cJ9_floorMod_7cf53 1 = .ok (.iload_n 1, 1) := by decide +kernel
theorem dJ9_floorMod_7cf53_2 : decode cJ9_floorMod_7cf53 2 = .ok (.irem, 1) := by decide +kernel
theorem dJ9_floorMod_7cf53_3 : decode cJ9_floorMod_7cf53 3 = .ok (.istore_n 2, 1) := by decide +kernel
theorem dJ9_floorMod_7cf53_4 : decode cJ9_floorMod_7cf53 4 = .ok (.iload_n 0, 1) := by decide +kernel
theorem dJ9_floorMod_7cf53_5 : decode cJ9_floorMod_7cf53 5 = .ok (.iload_n 1, 1) := by decide +kernel
theorem dJ9_floorMod_7cf53_6 : decode cJ9_floorMod_7cf53 6 = .ok (.ixor, 1) := by decide +kernel
theorem dJ9_floorMod_7cf53_7 : decode cJ9_floorMod_7cf53 7 = .ok (.ifCond .ge 11, 3) := by decide +kernel
theorem dJ9_floorMod_7cf53_10 : decode cJ9_floorMod_7cf53 10 = .ok (.iload_n 2, 1) := by decide +kernel
theorem dJ9_floorMod_7cf53_11 : decode cJ9_floorMod_7cf53 11 = .ok (.ifCond .eq 7, 3) := by decide +kernel
theorem dJ9_floorMod_7cf53_14 : decode cJ9_floorMod_7cf53 14 = .ok (.iload_n 2, 1) := by decide +kernel
theorem dJ9_floorMod_7cf53_15 : decode cJ9_floorMod_7cf53 15 = .ok (.iload_n 1, 1) := by decide +kernel
theorem dJ9_floorMod_7cf53_16 : decode cJ9_floorMod_7cf53 16 = .ok (.iadd, 1) := by decide +kernel
theorem dJ9_floorMod_7cf53_17 : decode cJ9_floorMod_7cf53 17 = .ok (.ireturn, 1) := by decide +kernel
theorem dJ9_floorMod_7cf53_18 : decode cJ9_floorMod_7cf53 18 = .ok (.iload_n 2, 1) := by decide +kernel
theorem dJ9_floorMod_7cf53_19 : decode cJ9_floorMod_7cf53 19 = .ok (.ireturn, 1) := by decide +kernel
theorem dJ9_max_7cf53_0 : decode cJ9_max_7cf53 0 = .ok (.iload_n 0, 1) := by decide +kernel
theorem dJ9_max_7cf53_1 : decode cJ9_max_7cf53 1 = .ok (.iload_n 1, 1) := by decide +kernel
theorem dJ9_max_7cf53_2 : decode cJ9_max_7cf53 2 = .ok (.if_icmp .lt 7, 3) := by decide +kernel
theorem dJ9_max_7cf53_5 : decode cJ9_max_7cf53 5 = .ok (.iload_n 0, 1) := by decide +kernel
theorem dJ9_max_7cf53_6 : decode cJ9_max_7cf53 6 = .ok (.goto 4, 3) := by decide +kernel
theorem dJ9_max_7cf53_9 : decode cJ9_max_7cf53 9 = .ok (.iload_n 1, 1) := by decide +kernel
theorem dJ9_max_7cf53_10 : decode cJ9_max_7cf53 10 = .ok (.ireturn, 1) := by decide +kernel
theorem dJ9_min_7cf53_0 : decode cJ9_min_7cf53 0 = .ok (.iload_n 0, 1) := by decide +kernel
theorem dJ9_min_7cf53_1 : decode cJ9_min_7cf53 1 = .ok (.iload_n 1, 1) := by decide +kernel
theorem dJ9_min_7cf53_2 : decode cJ9_min_7cf53 2 = .ok (.if_icmp .gt 7, 3) := by decide +kernel
theorem dJ9_min_7cf53_5 : decode cJ9_min_7cf53 5 = .ok (.iload_n 0, 1) := by decide +kernel
theorem dJ9_min_7cf53_6 : decode cJ9_min_7cf53 6 = .ok (.goto 4, 3) := by decide +kernel
theorem dJ9_min_7cf53_9 : decode cJ9_min_7cf53 9 = .ok (.iload_n 1, 1) := by decide +kernel
theorem dJ9_min_7cf53_10 : decode cJ9_min_7cf53 10 = .ok (.ireturn, 1) := by decide +kernel
set_option maxRecDepth 20000 in
theorem ggJ0_length_8abf5_J0_coder_7d493 : GoodIn wsJ0_length_8abf5 wsJ0_coder_7d493 := goodIn_r _ [6, 7, 8] (by decide +kernel) (by decide +kernel)
set_option maxRecDepth 20000 in
theorem gJ0_length_8abf5_J0_coder_7d493 : GoodIn wsJ0_length_8abf5 (wsV RJ0 335 RJ0 yJ0_coder_7d493 wsJ0_coder_7d493) := goodIn_app (goodIn_of _ (by decide +kernel)) ggJ0_length_8abf5_J0_coder_7d493
theorem dJ0_length_8abf5_0 : decode cJ0_length_8abf5 0 = .ok (.aload_n 0, 1) := by decide +kernel
theorem dJ0_length_8abf5_1 : decode cJ0_length_8abf5 1 = .ok (.getfield 9, 3) := by decide +kernel
theorem dJ0_length_8abf5_4 : decode cJ0_length_8abf5 4 = .ok (.arraylength, 1) := by decide +kernel
theorem dJ0_length_8abf5_5 : decode cJ0_length_8abf5 5 = .ok (.aload_n 0, 1) := by decide +kernel
theorem dJ0_length_8abf5_6 : decode cJ0_length_8abf5 6 = .ok (.invokevirtual 335, 3) := by decide +kernel
theorem dJ0_length_8abf5_9 : decode cJ0_length_8abf5 9 = .ok (.ishr, 1) := by decide +kernel
theorem dJ0_length_8abf5_10 : decode cJ0_length_8abf5 10 = .ok (.ireturn, 1) := by decide +kernel
set_option maxRecDepth 20000 in
theorem ggJ0_charAt_5068e_J0_isLatin1_aae02 : GoodIn wsJ0_charAt_5068e wsJ0_isLatin1_aae02 := goodIn_r _ [6, 7, 8] (by decide +kernel) (by decide +kernel)
set_option maxRecDepth 20000 in
theorem gJ0_charAt_5068e_J0_isLatin1_aae02 : GoodIn wsJ0_charAt_5068e (wsV RJ0 492 RJ0 yJ0_isLatin1_aae02 wsJ0_isLatin1_aae02) := goodIn_app (goodIn_of _ (by decide +kernel)) ggJ0_charAt_5068e_J0_isLatin1_aae02
set_option maxRecDepth 20000 in
theorem ggJ0_charAt_5068e_J1_charAt_3b067 : GoodIn wsJ0_charAt_5068e wsJ1_charAt_3b067 := goodIn_r _ [12, 13, 14, 5, 15, 16, 17, 18, 19, 20] (by decide +kernel) (by decide +kernel)
set_option maxRecDepth 20000 in
theorem gJ0_charAt_5068e_J1_charAt_3b067 : GoodIn wsJ0_charAt_5068e (va_wsS RJ0 495 yJ1_charAt_3b067 wsJ1_charAt_3b067) := goodIn_app (goodIn_of _ (by decide +kernel)) ggJ0_charAt_5068e_J1_charAt_3b067
set_option maxRecDepth 20000 in
theorem ggJ0_charAt_5068e_J2_charAt_3b067 : GoodIn wsJ0_charAt_5068e wsJ2_charAt_3b067 := goodIn_r _ [24, 25, 26, 23, 27, 28, 29, 30, 31, 14, 5, 15, 16, 17, 18, 19, 20, 32, 33, 34, 35, 36, 37] (by decide +kernel) (by decide +kernel)
set_option maxRecDepth 20000 in
theorem gJ0_charAt_5068e_J2_charAt_3b067 : GoodIn wsJ0_charAt_5068e (va_wsS RJ0 498 yJ2_charAt_3b067 wsJ2_charAt_3b067) := goodIn_app (goodIn_of _ (by decide +kernel)) ggJ0_charAt_5068e_J2_charAt_3b067
theorem dJ0_charAt_5068e_0 : decode cJ0_charAt_5068e 0 = .ok (.aload_n 0, 1) := by decide +kernel
theorem dJ0_charAt_5068e_1 : decode cJ0_charAt_5068e 1 = .ok (.invokevirtual 492, 3) := by decide +kernel
theorem dJ0_charAt_5068e_4 : decode cJ0_charAt_5068e 4 = .ok (.ifCond .eq 12, 3) := by decide +kernel
theorem dJ0_charAt_5068e_7 : decode cJ0_charAt_5068e 7 = .ok (.aload_n 0, 1) := by decide +kernel
theorem dJ0_charAt_5068e_8 : decode cJ0_charAt_5068e 8 = .ok (.getfield 9, 3) := by decide +kernel
theorem dJ0_charAt_5068e_11 : decode cJ0_charAt_5068e 11 = .ok (.iload_n 1, 1) := by decide +kernel
theorem dJ0_charAt_5068e_12 : decode cJ0_charAt_5068e 12 = .ok (.invokestatic 495, 3) := by decide +kernel
theorem dJ0_charAt_5068e_15 : decode cJ0_charAt_5068e 15 = .ok (.ireturn, 1) := by decide +kernel
theorem dJ0_charAt_5068e_16 : decode cJ0_charAt_5068e 16 = .ok (.aload_n 0, 1) := by decide +kernel
theorem dJ0_charAt_5068e_17 : decode cJ0_charAt_5068e 17 = .ok (.getfield 9, 3) := by decide +kernel
theorem dJ0_charAt_5068e_20 : decode cJ0_charAt_5068e 20 = .ok (.iload_n 1, 1) := by decide +kernel
theorem dJ0_charAt_5068e_21 : decode cJ0_charAt_5068e 21 = .ok (.invokestatic 498, 3) := by decide +kernel
theorem dJ0_charAt_5068e_24 : decode cJ0_charAt_5068e 24 = .ok (.ireturn, 1) := by decide +kernel
theorem dJ0_coder_7d493_0 : decode cJ0_coder_7d493 0 = .ok (.getstatic 38, 3) := by decide +kernel
theorem dJ0_coder_7d493_3 : decode cJ0_coder_7d493 3 = .ok (.ifCond .eq 10, 3) := by decide +kernel
theorem dJ0_coder_7d493_6 : decode cJ0_coder_7d493 6 = .ok (.aload_n 0, 1) := by decide +kernel
theorem dJ0_coder_7d493_7 : decode cJ0_coder_7d493 7 = .ok (.getfield 15, 3) := by decide +kernel
theorem dJ0_coder_7d493_10 : decode cJ0_coder_7d493 10 = .ok (.goto 4, 3) := by decide +kernel
theorem dJ0_coder_7d493_13 : decode cJ0_coder_7d493 13 = .ok (.iconst 1, 1) := by decide +kernel
theorem dJ0_coder_7d493_14 : decode cJ0_coder_7d493 14 = .ok (.ireturn, 1) := by decide +kernel
theorem dJ0_isLatin1_aae02_0 : decode cJ0_isLatin1_aae02 0 = .ok (.getstatic 38, 3) := by decide +kernel
theorem dJ0_isLatin1_aae02_3 : decode cJ0_isLatin1_aae02 3 = .ok (.ifCond .eq 14, 3) := by decide +kernel
theorem dJ0_isLatin1_aae02_6 : decode cJ0_isLatin1_aae02 6 = .ok (.aload_n 0, 1) := by decide +kernel
theorem dJ0_isLatin1_aae02_7 : decode cJ0_isLatin1_aae02 7 = .ok (.getfield 15, 3) := by decide +kernel
theorem dJ0_isLatin1_aae02_10 : decode cJ0_isLatin1_aae02 10 = .ok (.ifCond .ne 7, 3) := by decide +kernel
theorem dJ0_isLatin1_aae02_13 : decode cJ0_isLatin1_aae02 13 = .ok (.iconst 1, 1) := by decide +kernel
theorem dJ0_isLatin1_aae02_14 : decode cJ0_isLatin1_aae02 14 = .ok (.goto 4, 3) := by decide +kernel
theorem dJ0_isLatin1_aae02_17 : decode cJ0_isLatin1_aae02 17 = .ok (.iconst 0, 1) := by decide +kernel
theorem dJ0_isLatin1_aae02_18 : decode cJ0_isLatin1_aae02 18 = .ok (.ireturn, 1) := by decide +kernel
set_option maxRecDepth 20000 in
theorem ggJ0_checkIndex_df160_J3_checkIndex_8e157 : GoodIn wsJ0_checkIndex_df160 wsJ3_checkIndex_8e157 := goodIn_r _ [5] (by decide +kernel) (by decide +kernel)
set_option maxRecDepth 20000 in
theorem gJ0_checkIndex_df160_J3_checkIndex_8e157 : GoodIn wsJ0_checkIndex_df160 (va_wsS RJ0 1059 yJ3_checkIndex_8e157 wsJ3_checkIndex_8e157) := goodIn_app (goodIn_of _ (by decide +kernel)) ggJ0_checkIndex_df160_J3_checkIndex_8e157
theorem dJ0_checkIndex_df160_0 : decode cJ0_checkIndex_df160 0 = .ok (.iload_n 0, 1) := by decide +kernel
theorem dJ0_checkIndex_df160_1 : decode cJ0_checkIndex_df160 1 = .ok (.iload_n 1, 1) := by decide +kernel
theorem dJ0_checkIndex_df160_2 : decode cJ0_checkIndex_df160 2 = .ok (.getstatic 1053, 3) := by decide +kernel
theorem dJ0_checkIndex_df160_5 : decode cJ0_checkIndex_df160 5 = .ok (.invokestatic 1059, 3) := by decide +kernel
theorem dJ0_checkIndex_df160_8 : decode cJ0_checkIndex_df160 8 = .ok (.pop, 1) := by decide +kernel
theorem dJ0_checkIndex_df160_9 : decode cJ0_checkIndex_df160 9 = .ok (.return_, 1) := by decide +kernel
set_option maxRecDepth 20000 in
theorem ggJ1_charAt_3b067_J0_checkIndex_df160 : GoodIn wsJ1_charAt_3b067 wsJ0_checkIndex_df160 := goodIn_r _ [4, 5, 6, 7, 8, 9] (by decide +kernel) (by decide +kernel)
set_option maxRecDepth 20000 in
theorem gJ1_charAt_3b067_J0_checkIndex_df160 : GoodIn wsJ1_charAt_3b067 (va_wsS RJ1 9 yJ0_checkIndex_df160 wsJ0_checkIndex_df160) := goodIn_app (goodIn_of _ (by decide +kernel)) ggJ1_charAt_3b067_J0_checkIndex_df160
theorem dJ1_charAt_3b067_0 : decode cJ1_charAt_3b067 0 = .ok (.iload_n 1, 1) := by decide +kernel
theorem dJ1_charAt_3b067_1 : decode cJ1_charAt_3b067 1 = .ok (.aload_n 0, 1) := by decide +kernel
theorem dJ1_charAt_3b067_2 : decode cJ1_charAt_3b067 2 = .ok (.arraylength, 1) := by decide +kernel
theorem dJ1_charAt_3b067_3 : decode cJ1_charAt_3b067 3 = .ok (.invokestatic 9, 3) := by decide +kernel
theorem dJ1_charAt_3b067_6 : decode cJ1_charAt_3b067 6 = .ok (.aload_n 0, 1) := by decide +kernel
theorem dJ1_charAt_3b067_7 : decode cJ1_charAt_3b067 7 = .ok (.iload_n 1, 1) := by decide +kernel
theorem dJ1_charAt_3b067_8 : decode cJ1_charAt_3b067 8 = .ok (.baload, 1) := by decide +kernel
theorem dJ1_charAt_3b067_9 : decode cJ1_charAt_3b067 9 = .ok (.sipush 255, 3) := by decide +kernel
theorem dJ1_charAt_3b067_12 : decode cJ1_charAt_3b067 12 = .ok (.iand, 1) := by decide +kernel
theorem dJ1_charAt_3b067_13 : decode cJ1_charAt_3b067 13 = .ok (.i2c, 1) := by decide +kernel
theorem dJ1_charAt_3b067_14 : decode cJ1_charAt_3b067 14 = .ok (.ireturn, 1) := by decide +kernel
set_option maxRecDepth 20000 in
theorem ggJ2_getChar_3b067_J2_length_9d52b : GoodIn wsJ2_getChar_3b067 wsJ2_length_9d52b := goodIn_r _ [7] (by decide +kernel) (by decide +kernel)
set_option maxRecDepth 20000 in
theorem gJ2_getChar_3b067_J2_length_9d52b : GoodIn wsJ2_getChar_3b067 (va_wsS RJ2 48 yJ2_length_9d52b wsJ2_length_9d52b) := goodIn_app (goodIn_of _ (by decide +kernel)) ggJ2_getChar_3b067_J2_length_9d52b
theorem dJ2_getChar_3b067_0 : decode cJ2_getChar_3b067 0 = .ok (.getstatic 44, 3) := by decide +kernel
theorem dJ2_getChar_3b067_3 : decode cJ2_getChar_3b067 3 = .ok (.ifCond .ne 25, 3) := by decide +kernel
theorem dJ2_getChar_3b067_6 : decode cJ2_getChar_3b067 6 = .ok (.iload_n 1, 1) := by decide +kernel
theorem dJ2_getChar_3b067_7 : decode cJ2_getChar_3b067 7 = .ok (.ifCond .lt 11, 3) := by decide +kernel
theorem dJ2_getChar_3b067_10 : decode cJ2_getChar_3b067 10 = .ok (.iload_n 1, 1) := by decide +kernel
theorem dJ2_getChar_3b067_11 : decode cJ2_getChar_3b067 11 = .ok (.aload_n 0, 1) := by decide +kernel
theorem dJ2_getChar_3b067_12 : decode cJ2_getChar_3b067 12 = .ok (.invokestatic 48, 3) := by decide +kernel
theorem dJ2_getChar_3b067_15 : decode cJ2_getChar_3b067 15 = .ok (.if_icmp .lt 13, 3) := by decide +kernel
theorem dJ2_getChar_3b067_18 : decode cJ2_getChar_3b067 18 = .ok (.new 52, 3) := by decide +kernel
theorem dJ2_getChar_3b067_21 : decode cJ2_getChar_3b067 21 = .ok (.dup, 1) := by decide +kernel
theorem dJ2_getChar_3b067_22 : decode cJ2_getChar_3b067 22 = .ok (.ldc 54, 2) := by decide +kernel
theorem dJ2_getChar_3b067_24 : decode cJ2_getChar_3b067 24 = .ok (.invokespecial 56, 3) := by decide +kernel
theorem dJ2_getChar_3b067_27 : decode cJ2_getChar_3b067 27 = .ok (.athrow, 1) := by decide +kernel
theorem dJ2_getChar_3b067_28 : decode cJ2_getChar_3b067 28 = .ok (.iload_n 1, 1) := by decide +kernel
theorem dJ2_getChar_3b067_29 : decode cJ2_getChar_3b067 29 = .ok (.iconst 1, 1) := by decide +kernel
theorem dJ2_getChar_3b067_30 : decode cJ2_getChar_3b067 30 = .ok (.ishl, 1) := by decide +kernel
theorem dJ2_getChar_3b067_31 : decode cJ2_getChar_3b067 31 = .ok (.istore_n 1, 1) := by decide +kernel
theorem dJ2_getChar_3b067_32 : decode cJ2_getChar_3b067 32 = .ok (.aload_n 0, 1) := by decide +kernel
theorem dJ2_getChar_3b067_33 : decode cJ2_getChar_3b067 33 = .ok (.iload_n 1, 1) := by decide +kernel
theorem dJ2_getChar_3b067_34 : decode cJ2_getChar_3b067 34 = .ok (.iinc 1 1, 3) := by decide +kernel
theorem dJ2_getChar_3b067_37 : decode cJ2_getChar_3b067 37 = .ok (.baload, 1) := by decide +kernel
theorem dJ2_getChar_3b067_38 : decode cJ2_getChar_3b067 38 = .ok (.sipush 255, 3) := by decide +kernel
theorem dJ2_getChar_3b067_41 : decode cJ2_getChar_3b067 41 = .ok (.iand, 1) := by decide +kernel
theorem dJ2_getChar_3b067_42 : decode cJ2_getChar_3b067 42 = .ok (.getstatic 59, 3) := by decide +kernel
theorem dJ2_getChar_3b067_45 : decode cJ2_getChar_3b067 45 = .ok (.ishl, 1) := by decide +kernel
theorem dJ2_getChar_3b067_46 : decode cJ2_getChar_3b067 46 = .ok (.aload_n 0, 1) := by decide +kernel
theorem dJ2_getChar_3b067_47 : decode cJ2_getChar_3b067 47 = .ok (.iload_n 1, 1) := by decide +kernel
theorem dJ2_getChar_3b067_48 : decode cJ2_getChar_3b067 48 = .ok (.baload, 1) := by decide +kernel
theorem dJ2_getChar_3b067_49 : decode cJ2_getChar_3b067 49 = .ok (.sipush 255, 3) := by decide +kernel
theorem dJ2_getChar_3b067_52 : decode cJ2_getChar_3b067 52 = .ok (.iand, 1) := by decide +kernel
theorem dJ2_getChar_3b067_53 : decode cJ2_getChar_3b067 53 = .ok (.getstatic 63, 3) := by decide +kernel
theorem dJ2_getChar_3b067_56 : decode cJ2_getChar_3b067 56 = .ok (.ishl, 1) := by decide +kernel
theorem dJ2_getChar_3b067_57 : decode cJ2_getChar_3b067 57 = .ok (.ior, 1) := by decide +kernel
theorem dJ2_getChar_3b067_58 : decode cJ2_getChar_3b067 58 = .ok (.i2c, 1) := by decide +kernel
theorem dJ2_getChar_3b067_59 : decode cJ2_getChar_3b067 59 = .ok (.ireturn, 1) := by decide +kernel
theorem dJ2_length_9d52b_0 : decode cJ2_length_9d52b 0 = .ok (.aload_n 0, 1) := by decide +kernel
theorem dJ2_length_9d52b_1 : decode cJ2_length_9d52b 1 = .ok (.arraylength, 1) := by decide +kernel
theorem dJ2_length_9d52b_2 : decode cJ2_length_9d52b 2 = .ok (.iconst 1, 1) := by decide +kernel
theorem dJ2_length_9d52b_3 : decode cJ2_length_9d52b 3 = .ok (.ishr, 1) := by decide +kernel
theorem dJ2_length_9d52b_4 : decode cJ2_length_9d52b 4 = .ok (.ireturn, 1) := by decide +kernel
set_option maxRecDepth 20000 in
theorem ggJ2_charAt_3b067_J2_checkIndex_2214a : GoodIn wsJ2_charAt_3b067 wsJ2_checkIndex_2214a := goodIn_r _ [4, 5, 6, 3, 7, 8, 9, 10, 11, 12, 13, 14, 15, 16] (by decide +kernel) (by decide +kernel)
set_option maxRecDepth 20000 in
theorem gJ2_charAt_3b067_J2_checkIndex_2214a : GoodIn wsJ2_charAt_3b067 (va_wsS RJ2 67 yJ2_checkIndex_2214a wsJ2_checkIndex_2214a) := goodIn_app (goodIn_of _ (by decide +kernel)) ggJ2_charAt_3b067_J2_checkIndex_2214a
set_option maxRecDepth 20000 in
theorem ggJ2_charAt_3b067_J2_getChar_3b067 : GoodIn wsJ2_charAt_3b067 wsJ2_getChar_3b067 := goodIn_r _ [19, 20, 21, 22, 5, 6, 3, 7] (by decide +kernel) (by decide +kernel)
set_option maxRecDepth 20000 in
theorem gJ2_charAt_3b067_J2_getChar_3b067 : GoodIn wsJ2_charAt_3b067 (va_wsS RJ2 71 yJ2_getChar_3b067 wsJ2_getChar_3b067) := goodIn_app (goodIn_of _ (by decide +kernel)) ggJ2_charAt_3b067_J2_getChar_3b067
theorem dJ2_charAt_3b067_0 : decode cJ2_charAt_3b067 0 = .ok (.iload_n 1, 1) := by decide +kernel
theorem dJ2_charAt_3b067_1 : decode cJ2_charAt_3b067 1 = .ok (.aload_n 0, 1) := by decide +kernel
theorem dJ2_charAt_3b067_2 : decode cJ2_charAt_3b067 2 = .ok (.invokestatic 67, 3) := by decide +kernel
theorem dJ2_charAt_3b067_5 : decode cJ2_charAt_3b067 5 = .ok (.aload_n 0, 1) := by decide +kernel
theorem dJ2_charAt_3b067_6 : decode cJ2_charAt_3b067 6 = .ok (.iload_n 1, 1) := by decide +kernel
theorem dJ2_charAt_3b067_7 : decode cJ2_charAt_3b067 7 = .ok (.invokestatic 71, 3) := by decide +kernel
theorem dJ2_charAt_3b067_10 : decode cJ2_charAt_3b067 10 = .ok (.ireturn, 1) := by decide +kernel
set_option maxRecDepth 20000 in
theorem ggJ2_checkIndex_2214a_J2_length_9d52b : GoodIn wsJ2_checkIndex_2214a wsJ2_length_9d52b := goodIn_r _ [4] (by decide +kernel) (by decide +kernel)
set_option maxRecDepth 20000 in
theorem gJ2_checkIndex_2214a_J2_length_9d52b : GoodIn wsJ2_checkIndex_2214a (va_wsS RJ2 48 yJ2_length_9d52b wsJ2_length_9d52b) := goodIn_app (goodIn_of _ (by decide +kernel)) ggJ2_checkIndex_2214a_J2_length_9d52b
set_option maxRecDepth 20000 in
theorem ggJ2_checkIndex_2214a_J0_checkIndex_df160 : GoodIn wsJ2_checkIndex_2214a wsJ0_checkIndex_df160 := goodIn_r _ [8, 9, 10, 11, 12, 13] (by decide +kernel) (by decide +kernel)
set_option maxRecDepth 20000 in
theorem gJ2_checkIndex_2214a_J0_checkIndex_df160 : GoodIn wsJ2_checkIndex_2214a (va_wsS RJ2 414 yJ0_checkIndex_df160 wsJ0_checkIndex_df160) := goodIn_app (goodIn_of _ (by decide +kernel)) ggJ2_checkIndex_2214a_J0_checkIndex_df160
theorem dJ2_checkIndex_2214a_0 : decode cJ2_checkIndex_2214a 0 = .ok (.iload_n 0, 1) := by decide +kernel
theorem dJ2_checkIndex_2214a_1 : decode cJ2_checkIndex_2214a 1 = .ok (.aload_n 1, 1) := by decide +kernel
theorem dJ2_checkIndex_2214a_2 : decode cJ2_checkIndex_2214a 2 = .ok (.invokestatic 48, 3) := by decide +kernel
theorem dJ2_checkIndex_2214a_5 : decode cJ2_checkIndex_2214a 5 = .ok (.invokestatic 414, 3) := by decide +kernel
theorem dJ2_checkIndex_2214a_8 : decode cJ2_checkIndex_2214a 8 = .ok (.return_, 1) := by decide +kernel
theorem dJ7_fill_53178_0 : decode cJ7_fill_53178 0 = .ok (.iconst 0, 1) := by decide +kernel
theorem dJ7_fill_53178_1 : decode cJ7_fill_53178 1 = .ok (.istore_n 2, 1) := by decide +kernel
theorem dJ7_fill_53178_2 : decode cJ7_fill_53178 2 = .ok (.aload_n 0, 1) := by decide +kernel
theorem dJ7_fill_53178_3 : decode cJ7_fill_53178 3 = .ok (.arraylength, 1) := by decide +kernel
theorem dJ7_fill_53178_4 : decode cJ7_fill_53178 4 = .ok (.istore_n 3, 1) := by decide +kernel
theorem dJ7_fill_53178_5 : decode cJ7_fill_53178 5 = .ok (.iload_n 2, 1) := by decide +kernel
theorem dJ7_fill_53178_6 : decode cJ7_fill_53178 6 = .ok (.iload_n 3, 1) := by decide +kernel
theorem dJ7_fill_53178_7 : decode cJ7_fill_53178 7 = .ok (.if_icmp .ge 13, 3) := by decide +kernel
theorem dJ7_fill_53178_10 : decode cJ7_fill_53178 10 = .ok (.aload_n 0, 1) := by decide +kernel
theorem dJ7_fill_53178_11 : decode cJ7_fill_53178 11 = .ok (.iload_n 2, 1) := by decide +kernel
theorem dJ7_fill_53178_12 : decode cJ7_fill_53178 12 = .ok (.iload_n 1, 1) := by decide +kernel
theorem dJ7_fill_53178_13 : decode cJ7_fill_53178 13 = .ok (.iastore, 1) := by decide +kernel
theorem dJ7_fill_53178_14 : decode cJ7_fill_53178 14 = .ok (.iinc 2 1, 3) := by decide +kernel
theorem dJ7_fill_53178_17 : decode cJ7_fill_53178 17 = .ok (.goto (-12), 3) := by decide +kernel
theorem dJ7_fill_53178_20 : decode cJ7_fill_53178 20 = .ok (.return_, 1) := by decide +kernel
theorem dJ3_checkIndex_8e157_0 : decode cJ3_checkIndex_8e157 0 = .ok (.iload_n 0, 1) := by decide +kernel
theorem dJ3_checkIndex_8e157_1 : decode cJ3_checkIndex_8e157 1 = .ok (.ifCond .lt 8, 3) := by decide +kernel
theorem dJ3_checkIndex_8e157_4 : decode cJ3_checkIndex_8e157 4 = .ok (.iload_n 0, 1) := by decide +kernel
theorem dJ3_checkIndex_8e157_5 : decode cJ3_checkIndex_8e157 5 = .ok (.iload_n 1, 1) := by decide +kernel
theorem dJ3_checkIndex_8e157_6 : decode cJ3_checkIndex_8e157 6 = .ok (.if_icmp .lt 10, 3) := by decide +kernel
theorem dJ3_checkIndex_8e157_9 : decode cJ3_checkIndex_8e157 9 = .ok (.aload_n 2, 1) := by decide +kernel
theorem dJ3_checkIndex_8e157_10 : decode cJ3_checkIndex_8e157 10 = .ok (.iload_n 0, 1) := by decide +kernel
theorem dJ3_checkIndex_8e157_11 : decode cJ3_checkIndex_8e157 11 = .ok (.iload_n 1, 1) := by decide +kernel
theorem dJ3_checkIndex_8e157_12 : decode cJ3_checkIndex_8e157 12 = .ok (.invokestatic 95, 3) := by decide +kernel
theorem dJ3_checkIndex_8e157_15 : decode cJ3_checkIndex_8e157 15 = .ok (.athrow, 1) := by decide +kernel
theorem dJ3_checkIndex_8e157_16 : decode cJ3_checkIndex_8e157 16 = .ok (.iload_n 0, 1) := by decide +kernel
theorem dJ3_checkIndex_8e157_17 : decode cJ3_checkIndex_8e157 17 = .ok (.ireturn, 1) := by decide +kernel
