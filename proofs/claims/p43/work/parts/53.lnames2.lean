/-! the law's four large methods: words, instructions -/
set_option maxRecDepth 20000 in
theorem ggL_box_L_charms : GoodIn wsL_box wsL_charms := goodIn_r _ [4, 5, 6, 3, 7, 8, 9, 10, 11] (by decide +kernel) (by decide +kernel)
set_option maxRecDepth 20000 in
theorem gL_box_L_charms : GoodIn wsL_box (va_wsS RL 49 yL_charms wsL_charms) := goodIn_app (goodIn_of _ (by decide +kernel)) ggL_box_L_charms
set_option maxRecDepth 20000 in
theorem ggL_box_X5_kind : GoodIn wsL_box wsX5_kind := goodIn_r _ [16, 17, 18, 19, 15, 20, 21, 22, 23, 24, 25, 26, 27, 28, 29, 30, 31, 32, 33, 34, 35, 107, 108, 109, 110, 111, 112, 113, 114, 115, 116, 117, 118, 119, 120] (by decide +kernel) (by decide +kernel)
set_option maxRecDepth 20000 in
theorem gL_box_X5_kind : GoodIn wsL_box (wsV RL 52 RX5 yX5_kind wsX5_kind) := goodIn_app (goodIn_of _ (by decide +kernel)) ggL_box_X5_kind
set_option maxRecDepth 20000 in
theorem ggL_box_X5_motif : GoodIn wsL_box wsX5_motif := goodIn_r _ [39, 17, 107, 108, 109, 110, 111, 112, 113, 114, 115, 116, 117, 118, 121, 122] (by decide +kernel) (by decide +kernel)
set_option maxRecDepth 20000 in
theorem gL_box_X5_motif : GoodIn wsL_box (wsV RL 57 RX5 yX5_motif wsX5_motif) := goodIn_app (goodIn_of _ (by decide +kernel)) ggL_box_X5_motif
set_option maxRecDepth 20000 in
theorem ggL_box_L_least : GoodIn wsL_box wsL_least := goodIn_r _ [42, 43, 44, 3, 45, 5, 6, 7, 8, 46, 47, 48, 49, 50, 51, 9, 10, 11, 52, 53, 54, 55, 56, 57, 58, 59, 60, 61] (by decide +kernel) (by decide +kernel)
set_option maxRecDepth 20000 in
theorem gL_box_L_least : GoodIn wsL_box (va_wsS RL 61 yL_least wsL_least) := goodIn_app (goodIn_of _ (by decide +kernel)) ggL_box_L_least
set_option maxRecDepth 20000 in
theorem ggL_box_X5_entry : GoodIn wsL_box wsX5_entry := goodIn_r _ [65, 17, 66, 22, 67, 68, 25, 69, 27, 70, 71, 30, 72, 73, 74, 75, 76, 77, 78, 79, 80, 15, 81, 82, 83, 84, 85, 86, 87, 88, 89, 90, 91, 92, 93, 94, 95, 31, 32, 33, 34, 35, 107, 108, 109, 110, 111, 112, 113, 114, 115, 116, 117, 118, 123, 124, 125, 119, 120] (by decide +kernel) (by decide +kernel)
set_option maxRecDepth 20000 in
theorem gL_box_X5_entry : GoodIn wsL_box (wsV RL 64 RX5 yX5_entry wsX5_entry) := goodIn_app (goodIn_of _ (by decide +kernel)) ggL_box_X5_entry
set_option maxRecDepth 20000 in
theorem ggL_box_L_slots : GoodIn wsL_box wsL_slots := goodIn_r _ [7, 8] (by decide +kernel) (by decide +kernel)
set_option maxRecDepth 20000 in
theorem gL_box_L_slots : GoodIn wsL_box (va_wsS RL 12 yL_slots wsL_slots) := goodIn_app (goodIn_of _ (by decide +kernel)) ggL_box_L_slots
set_option maxRecDepth 20000 in
theorem ggL_box_X5_bracelets : GoodIn wsL_box wsX5_bracelets := goodIn_r _ [99, 17, 100, 22, 101, 102, 25, 107, 108, 109, 110, 111, 112, 113, 114, 115, 116, 117, 118, 119, 120] (by decide +kernel) (by decide +kernel)
set_option maxRecDepth 20000 in
theorem gL_box_X5_bracelets : GoodIn wsL_box (wsV RL 67 RX5 yX5_bracelets wsX5_bracelets) := goodIn_app (goodIn_of _ (by decide +kernel)) ggL_box_X5_bracelets
set_option maxRecDepth 20000 in
theorem ggL_box_X5_entries : GoodIn wsL_box wsX5_entries := goodIn_r _ [106, 17, 107, 108, 109, 110, 111, 112, 113, 114, 115, 116, 117, 118, 123, 124, 125] (by decide +kernel) (by decide +kernel)
set_option maxRecDepth 20000 in
theorem gL_box_X5_entries : GoodIn wsL_box (wsV RL 71 RX5 yX5_entries wsX5_entries) := goodIn_app (goodIn_of _ (by decide +kernel)) ggL_box_X5_entries
theorem dL_box_0 : decode cL_box 0 = .ok (.iconst 0, 1) := by decide +kernel
theorem dL_box_1 : decode cL_box 1 = .ok (.istore 7, 2) := by decide +kernel
theorem dL_box_3 : decode cL_box 3 = .ok (.iconst 0, 1) := by decide +kernel
theorem dL_box_4 : decode cL_box 4 = .ok (.istore 8, 2) := by decide +kernel
theorem dL_box_6 : decode cL_box 6 = .ok (.iload 8, 2) := by decide +kernel
theorem dL_box_8 : decode cL_box 8 = .ok (.bipush 6, 2) := by decide +kernel
theorem dL_box_10 : decode cL_box 10 = .ok (.if_icmp .ge 31, 3) := by decide +kernel
theorem dL_box_13 : decode cL_box 13 = .ok (.iload 7, 2) := by decide +kernel
theorem dL_box_15 : decode cL_box 15 = .ok (.aload_n 1, 1) := by decide +kernel
theorem dL_box_16 : decode cL_box 16 = .ok (.iload 8, 2) := by decide +kernel
theorem dL_box_18 : decode cL_box 18 = .ok (.laload, 1) := by decide +kernel
theorem dL_box_19 : decode cL_box 19 = .ok (.lconst 0, 1) := by decide +kernel
theorem dL_box_20 : decode cL_box 20 = .ok (.lcmp, 1) := by decide +kernel
theorem dL_box_21 : decode cL_box 21 = .ok (.ifCond .le 10, 3) := by decide +kernel
theorem dL_box_24 : decode cL_box 24 = .ok (.iconst 1, 1) := by decide +kernel
theorem dL_box_25 : decode cL_box 25 = .ok (.iload 8, 2) := by decide +kernel
theorem dL_box_27 : decode cL_box 27 = .ok (.ishl, 1) := by decide +kernel
theorem dL_box_28 : decode cL_box 28 = .ok (.goto 4, 3) := by decide +kernel
theorem dL_box_31 : decode cL_box 31 = .ok (.iconst 0, 1) := by decide +kernel
theorem dL_box_32 : decode cL_box 32 = .ok (.ior, 1) := by decide +kernel
theorem dL_box_33 : decode cL_box 33 = .ok (.istore 7, 2) := by decide +kernel
theorem dL_box_35 : decode cL_box 35 = .ok (.iinc 8 1, 3) := by decide +kernel
theorem dL_box_38 : decode cL_box 38 = .ok (.goto (-32), 3) := by decide +kernel
theorem dL_box_41 : decode cL_box 41 = .ok (.iconst 1, 1) := by decide +kernel
theorem dL_box_42 : decode cL_box 42 = .ok (.istore 8, 2) := by decide +kernel
theorem dL_box_44 : decode cL_box 44 = .ok (.iload 8, 2) := by decide +kernel
theorem dL_box_46 : decode cL_box 46 = .ok (.iconst 5, 1) := by decide +kernel
theorem dL_box_47 : decode cL_box 47 = .ok (.if_icmp .gt 101, 3) := by decide +kernel
theorem dL_box_50 : decode cL_box 50 = .ok (.iconst 0, 1) := by decide +kernel
theorem dL_box_51 : decode cL_box 51 = .ok (.istore 9, 2) := by decide +kernel
theorem dL_box_53 : decode cL_box 53 = .ok (.iconst 0, 1) := by decide +kernel
theorem dL_box_54 : decode cL_box 54 = .ok (.istore 10, 2) := by decide +kernel
theorem dL_box_56 : decode cL_box 56 = .ok (.iload 10, 2) := by decide +kernel
theorem dL_box_58 : decode cL_box 58 = .ok (.bipush 6, 2) := by decide +kernel
theorem dL_box_60 : decode cL_box 60 = .ok (.if_icmp .ge 36, 3) := by decide +kernel
theorem dL_box_63 : decode cL_box 63 = .ok (.iload 9, 2) := by decide +kernel
theorem dL_box_65 : decode cL_box 65 = .ok (.aload_n 1, 1) := by decide +kernel
theorem dL_box_66 : decode cL_box 66 = .ok (.iload 10, 2) := by decide +kernel
theorem dL_box_68 : decode cL_box 68 = .ok (.laload, 1) := by decide +kernel
theorem dL_box_69 : decode cL_box 69 = .ok (.lconst 0, 1) := by decide +kernel
theorem dL_box_70 : decode cL_box 70 = .ok (.lcmp, 1) := by decide +kernel
theorem dL_box_71 : decode cL_box 71 = .ok (.ifCond .le 15, 3) := by decide +kernel
theorem dL_box_74 : decode cL_box 74 = .ok (.aload_n 1, 1) := by decide +kernel
theorem dL_box_75 : decode cL_box 75 = .ok (.iload 10, 2) := by decide +kernel
theorem dL_box_77 : decode cL_box 77 = .ok (.laload, 1) := by decide +kernel
theorem dL_box_78 : decode cL_box 78 = .ok (.iload 8, 2) := by decide +kernel
theorem dL_box_80 : decode cL_box 80 = .ok (.invokestatic 49, 3) := by decide +kernel
theorem dL_box_83 : decode cL_box 83 = .ok (.goto 4, 3) := by decide +kernel
theorem dL_box_86 : decode cL_box 86 = .ok (.iconst 0, 1) := by decide +kernel
theorem dL_box_87 : decode cL_box 87 = .ok (.iadd, 1) := by decide +kernel
theorem dL_box_88 : decode cL_box 88 = .ok (.istore 9, 2) := by decide +kernel
theorem dL_box_90 : decode cL_box 90 = .ok (.iinc 10 1, 3) := by decide +kernel
theorem dL_box_93 : decode cL_box 93 = .ok (.goto (-37), 3) := by decide +kernel
theorem dL_box_96 : decode cL_box 96 = .ok (.aload_n 0, 1) := by decide +kernel
theorem dL_box_97 : decode cL_box 97 = .ok (.iload 8, 2) := by decide +kernel
theorem dL_box_99 : decode cL_box 99 = .ok (.iconst 0, 1) := by decide +kernel
theorem dL_box_100 : decode cL_box 100 = .ok (.invokevirtual 52, 3) := by decide +kernel
theorem dL_box_103 : decode cL_box 103 = .ok (.aload_n 2, 1) := by decide +kernel
theorem dL_box_104 : decode cL_box 104 = .ok (.iload 8, 2) := by decide +kernel
theorem dL_box_106 : decode cL_box 106 = .ok (.iconst 1, 1) := by decide +kernel
theorem dL_box_107 : decode cL_box 107 = .ok (.isub, 1) := by decide +kernel
theorem dL_box_108 : decode cL_box 108 = .ok (.iaload, 1) := by decide +kernel
theorem dL_box_109 : decode cL_box 109 = .ok (.if_icmp .ne 31, 3) := by decide +kernel
theorem dL_box_112 : decode cL_box 112 = .ok (.aload_n 0, 1) := by decide +kernel
theorem dL_box_113 : decode cL_box 113 = .ok (.iload 8, 2) := by decide +kernel
theorem dL_box_115 : decode cL_box 115 = .ok (.iconst 1, 1) := by decide +kernel
theorem dL_box_116 : decode cL_box 116 = .ok (.invokevirtual 52, 3) := by decide +kernel
theorem dL_box_119 : decode cL_box 119 = .ok (.aload_n 2, 1) := by decide +kernel
theorem dL_box_120 : decode cL_box 120 = .ok (.iconst 4, 1) := by decide +kernel
theorem dL_box_121 : decode cL_box 121 = .ok (.iload 8, 2) := by decide +kernel
theorem dL_box_123 : decode cL_box 123 = .ok (.iadd, 1) := by decide +kernel
theorem dL_box_124 : decode cL_box 124 = .ok (.iaload, 1) := by decide +kernel
theorem dL_box_125 : decode cL_box 125 = .ok (.if_icmp .ne 15, 3) := by decide +kernel
theorem dL_box_128 : decode cL_box 128 = .ok (.aload_n 0, 1) := by decide +kernel
theorem dL_box_129 : decode cL_box 129 = .ok (.iload 8, 2) := by decide +kernel
theorem dL_box_131 : decode cL_box 131 = .ok (.iconst 2, 1) := by decide +kernel
theorem dL_box_132 : decode cL_box 132 = .ok (.invokevirtual 52, 3) := by decide +kernel
theorem dL_box_135 : decode cL_box 135 = .ok (.iload 9, 2) := by decide +kernel
theorem dL_box_137 : decode cL_box 137 = .ok (.if_icmp .eq 5, 3) := by decide +kernel
theorem dL_box_140 : decode cL_box 140 = .ok (.iconst 0, 1) := by decide +kernel
theorem dL_box_141 : decode cL_box 141 = .ok (.ireturn, 1) := by decide +kernel
theorem dL_box_142 : decode cL_box 142 = .ok (.iinc 8 1, 3) := by decide +kernel
theorem dL_box_145 : decode cL_box 145 = .ok (.goto (-101), 3) := by decide +kernel
theorem dL_box_148 : decode cL_box 148 = .ok (.iconst 0, 1) := by decide +kernel
theorem dL_box_149 : decode cL_box 149 = .ok (.istore 8, 2) := by decide +kernel
theorem dL_box_151 : decode cL_box 151 = .ok (.iload 8, 2) := by decide +kernel
theorem dL_box_153 : decode cL_box 153 = .ok (.bipush 6, 2) := by decide +kernel
theorem dL_box_155 : decode cL_box 155 = .ok (.if_icmp .ge 37, 3) := by decide +kernel
theorem dL_box_158 : decode cL_box 158 = .ok (.aload_n 0, 1) := by decide +kernel
theorem dL_box_159 : decode cL_box 159 = .ok (.iload 8, 2) := by decide +kernel
theorem dL_box_161 : decode cL_box 161 = .ok (.invokevirtual 57, 3) := by decide +kernel
theorem dL_box_164 : decode cL_box 164 = .ok (.iload 8, 2) := by decide +kernel
theorem dL_box_166 : decode cL_box 166 = .ok (.aload_n 3, 1) := by decide +kernel
theorem dL_box_167 : decode cL_box 167 = .ok (.bipush 6, 2) := by decide +kernel
theorem dL_box_169 : decode cL_box 169 = .ok (.iaload, 1) := by decide +kernel
theorem dL_box_170 : decode cL_box 170 = .ok (.if_icmp .ge 10, 3) := by decide +kernel
theorem dL_box_173 : decode cL_box 173 = .ok (.aload_n 3, 1) := by decide +kernel
theorem dL_box_174 : decode cL_box 174 = .ok (.iload 8, 2) := by decide +kernel
theorem dL_box_176 : decode cL_box 176 = .ok (.iaload, 1) := by decide +kernel
theorem dL_box_177 : decode cL_box 177 = .ok (.goto 4, 3) := by decide +kernel
theorem dL_box_180 : decode cL_box 180 = .ok (.iconst (-1), 1) := by decide +kernel
theorem dL_box_181 : decode cL_box 181 = .ok (.if_icmp .eq 5, 3) := by decide +kernel
theorem dL_box_184 : decode cL_box 184 = .ok (.iconst 0, 1) := by decide +kernel
theorem dL_box_185 : decode cL_box 185 = .ok (.ireturn, 1) := by decide +kernel
theorem dL_box_186 : decode cL_box 186 = .ok (.iinc 8 1, 3) := by decide +kernel
theorem dL_box_189 : decode cL_box 189 = .ok (.goto (-38), 3) := by decide +kernel
theorem dL_box_192 : decode cL_box 192 = .ok (.iconst 0, 1) := by decide +kernel
theorem dL_box_193 : decode cL_box 193 = .ok (.istore 8, 2) := by decide +kernel
theorem dL_box_195 : decode cL_box 195 = .ok (.iload 8, 2) := by decide +kernel
theorem dL_box_197 : decode cL_box 197 = .ok (.iload 6, 2) := by decide +kernel
theorem dL_box_199 : decode cL_box 199 = .ok (.if_icmp .ge 111, 3) := by decide +kernel
theorem dL_box_202 : decode cL_box 202 = .ok (.iconst 0, 1) := by decide +kernel
theorem dL_box_203 : decode cL_box 203 = .ok (.istore 9, 2) := by decide +kernel
theorem dL_box_205 : decode cL_box 205 = .ok (.iconst 0, 1) := by decide +kernel
theorem dL_box_206 : decode cL_box 206 = .ok (.istore 10, 2) := by decide +kernel
theorem dL_box_208 : decode cL_box 208 = .ok (.iload 10, 2) := by decide +kernel
theorem dL_box_210 : decode cL_box 210 = .ok (.bipush 6, 2) := by decide +kernel
theorem dL_box_212 : decode cL_box 212 = .ok (.if_icmp .ge 45, 3) := by decide +kernel
theorem dL_box_215 : decode cL_box 215 = .ok (.iload 9, 2) := by decide +kernel
theorem dL_box_217 : decode cL_box 217 = .ok (.aload_n 1, 1) := by decide +kernel
theorem dL_box_218 : decode cL_box 218 = .ok (.iload 10, 2) := by decide +kernel
theorem dL_box_220 : decode cL_box 220 = .ok (.laload, 1) := by decide +kernel
theorem dL_box_221 : decode cL_box 221 = .ok (.lconst 0, 1) := by decide +kernel
theorem dL_box_222 : decode cL_box 222 = .ok (.lcmp, 1) := by decide +kernel
theorem dL_box_223 : decode cL_box 223 = .ok (.ifCond .le 24, 3) := by decide +kernel
theorem dL_box_226 : decode cL_box 226 = .ok (.aload_n 1, 1) := by decide +kernel
theorem dL_box_227 : decode cL_box 227 = .ok (.iload 10, 2) := by decide +kernel
theorem dL_box_229 : decode cL_box 229 = .ok (.laload, 1) := by decide +kernel
theorem dL_box_230 : decode cL_box 230 = .ok (.iconst 1, 1) := by decide +kernel
theorem dL_box_231 : decode cL_box 231 = .ok (.invokestatic 61, 3) := by decide +kernel
theorem dL_box_234 : decode cL_box 234 = .ok (.aload 4, 2) := by decide +kernel
theorem dL_box_236 : decode cL_box 236 = .ok (.iload 8, 2) := by decide +kernel
theorem dL_box_238 : decode cL_box 238 = .ok (.laload, 1) := by decide +kernel
theorem dL_box_239 : decode cL_box 239 = .ok (.lcmp, 1) := by decide +kernel
theorem dL_box_240 : decode cL_box 240 = .ok (.ifCond .ne 7, 3) := by decide +kernel
theorem dL_box_243 : decode cL_box 243 = .ok (.iconst 1, 1) := by decide +kernel
theorem dL_box_244 : decode cL_box 244 = .ok (.goto 4, 3) := by decide +kernel
theorem dL_box_247 : decode cL_box 247 = .ok (.iconst 0, 1) := by decide +kernel
theorem dL_box_248 : decode cL_box 248 = .ok (.iadd, 1) := by decide +kernel
theorem dL_box_249 : decode cL_box 249 = .ok (.istore 9, 2) := by decide +kernel
theorem dL_box_251 : decode cL_box 251 = .ok (.iinc 10 1, 3) := by decide +kernel
theorem dL_box_254 : decode cL_box 254 = .ok (.goto (-46), 3) := by decide +kernel
theorem dL_box_257 : decode cL_box 257 = .ok (.aload_n 0, 1) := by decide +kernel
theorem dL_box_258 : decode cL_box 258 = .ok (.iload 8, 2) := by decide +kernel
theorem dL_box_260 : decode cL_box 260 = .ok (.iconst 0, 1) := by decide +kernel
theorem dL_box_261 : decode cL_box 261 = .ok (.invokevirtual 64, 3) := by decide +kernel
theorem dL_box_264 : decode cL_box 264 = .ok (.aload 4, 2) := by decide +kernel
theorem dL_box_266 : decode cL_box 266 = .ok (.iload 8, 2) := by decide +kernel
theorem dL_box_268 : decode cL_box 268 = .ok (.laload, 1) := by decide +kernel
theorem dL_box_269 : decode cL_box 269 = .ok (.invokestatic 12, 3) := by decide +kernel
theorem dL_box_272 : decode cL_box 272 = .ok (.if_icmp .ne 30, 3) := by decide +kernel
theorem dL_box_275 : decode cL_box 275 = .ok (.aload_n 0, 1) := by decide +kernel
theorem dL_box_276 : decode cL_box 276 = .ok (.iload 8, 2) := by decide +kernel
theorem dL_box_278 : decode cL_box 278 = .ok (.iconst 1, 1) := by decide +kernel
theorem dL_box_279 : decode cL_box 279 = .ok (.invokevirtual 64, 3) := by decide +kernel
theorem dL_box_282 : decode cL_box 282 = .ok (.aload 5, 2) := by decide +kernel
theorem dL_box_284 : decode cL_box 284 = .ok (.iload 8, 2) := by decide +kernel
theorem dL_box_286 : decode cL_box 286 = .ok (.iaload, 1) := by decide +kernel
theorem dL_box_287 : decode cL_box 287 = .ok (.if_icmp .ne 15, 3) := by decide +kernel
theorem dL_box_290 : decode cL_box 290 = .ok (.aload_n 0, 1) := by decide +kernel
theorem dL_box_291 : decode cL_box 291 = .ok (.iload 8, 2) := by decide +kernel
theorem dL_box_293 : decode cL_box 293 = .ok (.iconst 2, 1) := by decide +kernel
theorem dL_box_294 : decode cL_box 294 = .ok (.invokevirtual 64, 3) := by decide +kernel
theorem dL_box_297 : decode cL_box 297 = .ok (.iload 9, 2) := by decide +kernel
theorem dL_box_299 : decode cL_box 299 = .ok (.if_icmp .eq 5, 3) := by decide +kernel
theorem dL_box_302 : decode cL_box 302 = .ok (.iconst 0, 1) := by decide +kernel
theorem dL_box_303 : decode cL_box 303 = .ok (.ireturn, 1) := by decide +kernel
theorem dL_box_304 : decode cL_box 304 = .ok (.iinc 8 1, 3) := by decide +kernel
theorem dL_box_307 : decode cL_box 307 = .ok (.goto (-112), 3) := by decide +kernel
theorem dL_box_310 : decode cL_box 310 = .ok (.aload_n 0, 1) := by decide +kernel
theorem dL_box_311 : decode cL_box 311 = .ok (.invokevirtual 67, 3) := by decide +kernel
theorem dL_box_314 : decode cL_box 314 = .ok (.iload 7, 2) := by decide +kernel
theorem dL_box_316 : decode cL_box 316 = .ok (.if_icmp .ne 16, 3) := by decide +kernel
theorem dL_box_319 : decode cL_box 319 = .ok (.aload_n 0, 1) := by decide +kernel
theorem dL_box_320 : decode cL_box 320 = .ok (.invokevirtual 71, 3) := by decide +kernel
theorem dL_box_323 : decode cL_box 323 = .ok (.iload 6, 2) := by decide +kernel
theorem dL_box_325 : decode cL_box 325 = .ok (.if_icmp .ne 7, 3) := by decide +kernel
theorem dL_box_328 : decode cL_box 328 = .ok (.iconst 1, 1) := by decide +kernel
theorem dL_box_329 : decode cL_box 329 = .ok (.goto 4, 3) := by decide +kernel
theorem dL_box_332 : decode cL_box 332 = .ok (.iconst 0, 1) := by decide +kernel
theorem dL_box_333 : decode cL_box 333 = .ok (.ireturn, 1) := by decide +kernel
set_option maxRecDepth 20000 in
theorem ggL_ring_L_slots : GoodIn wsL_ring wsL_slots := goodIn_r _ [4, 5] (by decide +kernel) (by decide +kernel)
set_option maxRecDepth 20000 in
theorem gL_ring_L_slots : GoodIn wsL_ring (va_wsS RL 12 yL_slots wsL_slots) := goodIn_app (goodIn_of _ (by decide +kernel)) ggL_ring_L_slots
set_option maxRecDepth 20000 in
theorem ggL_ring_L_low : GoodIn wsL_ring wsL_low := goodIn_r _ [8, 9] (by decide +kernel) (by decide +kernel)
set_option maxRecDepth 20000 in
theorem gL_ring_L_low : GoodIn wsL_ring (va_wsS RL 74 yL_low wsL_low) := goodIn_app (goodIn_of _ (by decide +kernel)) ggL_ring_L_low
set_option maxRecDepth 20000 in
theorem ggL_ring_L_least : GoodIn wsL_ring wsL_least := goodIn_r _ [12, 13, 14, 3, 15, 1, 2, 4, 5, 16, 17, 18, 19, 20, 21, 22, 23, 24, 25, 26, 27, 28, 29, 30, 31, 32, 33, 34] (by decide +kernel) (by decide +kernel)
set_option maxRecDepth 20000 in
theorem gL_ring_L_least : GoodIn wsL_ring (va_wsS RL 61 yL_least wsL_least) := goodIn_app (goodIn_of _ (by decide +kernel)) ggL_ring_L_least
set_option maxRecDepth 20000 in
theorem ggL_ring_L_places : GoodIn wsL_ring wsL_places := goodIn_r _ [37, 1, 2, 3, 4, 5, 22, 23, 24] (by decide +kernel) (by decide +kernel)
set_option maxRecDepth 20000 in
theorem gL_ring_L_places : GoodIn wsL_ring (va_wsS RL 77 yL_places wsL_places) := goodIn_app (goodIn_of _ (by decide +kernel)) ggL_ring_L_places
set_option maxRecDepth 20000 in
theorem ggL_ring_X5_slot : GoodIn wsL_ring wsX5_slot := goodIn_r _ [42, 43, 44, 45, 46, 47, 48, 49, 50, 51, 52, 53, 54, 55, 56, 57, 196, 197, 198, 199, 200, 201, 202, 203, 204, 205, 206, 207, 208, 209] (by decide +kernel) (by decide +kernel)
set_option maxRecDepth 20000 in
theorem gL_ring_X5_slot : GoodIn wsL_ring (wsV RL 81 RX5 yX5_slot wsX5_slot) := goodIn_app (goodIn_of _ (by decide +kernel)) ggL_ring_X5_slot
set_option maxRecDepth 20000 in
theorem ggL_ring_L_kind : GoodIn wsL_ring wsL_kind := goodIn_r _ [24, 1, 2, 3, 4, 5] (by decide +kernel) (by decide +kernel)
set_option maxRecDepth 20000 in
theorem gL_ring_L_kind : GoodIn wsL_ring (va_wsS RL 24 yL_kind wsL_kind) := goodIn_app (goodIn_of _ (by decide +kernel)) ggL_ring_L_kind
set_option maxRecDepth 20000 in
theorem ggL_ring_X5_least : GoodIn wsL_ring wsX5_least := goodIn_r _ [61, 43, 44, 45, 46, 47, 48, 49, 50, 51, 52, 53, 62, 63, 41, 64, 65, 66, 67, 68, 69, 70, 71, 72, 73, 74, 75, 76, 77, 78, 79, 80, 81, 82, 83, 84, 54, 55, 56, 57, 196, 197, 198, 199, 200, 201, 202, 203, 204, 205, 206, 207, 208, 209] (by decide +kernel) (by decide +kernel)
set_option maxRecDepth 20000 in
theorem gL_ring_X5_least : GoodIn wsL_ring (wsV RL 84 RX5 yX5_least wsX5_least) := goodIn_app (goodIn_of _ (by decide +kernel)) ggL_ring_X5_least
set_option maxRecDepth 20000 in
theorem ggL_ring_L_rolledBy : GoodIn wsL_ring wsL_rolledBy := goodIn_r _ [31, 32, 33, 3, 34, 5, 1, 2, 4] (by decide +kernel) (by decide +kernel)
set_option maxRecDepth 20000 in
theorem gL_ring_L_rolledBy : GoodIn wsL_ring (va_wsS RL 35 yL_rolledBy wsL_rolledBy) := goodIn_app (goodIn_of _ (by decide +kernel)) ggL_ring_L_rolledBy
set_option maxRecDepth 20000 in
theorem ggL_ring_X5_quarter : GoodIn wsL_ring wsX5_quarter := goodIn_r _ [88, 43, 44, 45, 46, 47, 48, 89, 90, 91, 92, 93, 94, 95, 96, 54, 50, 55, 56, 57, 97, 41, 98, 196, 197, 198, 199, 200, 201, 202, 203, 204, 205, 206, 207, 208, 209] (by decide +kernel) (by decide +kernel)
set_option maxRecDepth 20000 in
theorem gL_ring_X5_quarter : GoodIn wsL_ring (wsV RL 87 RX5 yX5_quarter wsX5_quarter) := goodIn_app (goodIn_of _ (by decide +kernel)) ggL_ring_X5_quarter
set_option maxRecDepth 20000 in
theorem ggL_ring_L_weight : GoodIn wsL_ring wsL_weight := goodIn_r _ [101, 22, 23, 3, 24, 1, 2, 4, 5] (by decide +kernel) (by decide +kernel)
set_option maxRecDepth 20000 in
theorem gL_ring_L_weight : GoodIn wsL_ring (va_wsS RL 45 yL_weight wsL_weight) := goodIn_app (goodIn_of _ (by decide +kernel)) ggL_ring_L_weight
set_option maxRecDepth 20000 in
theorem ggL_ring_X5_bracelet : GoodIn wsL_ring wsX5_bracelet := goodIn_r _ [105, 43, 44, 45, 46, 47, 48, 106, 50, 107, 108, 53, 109, 110, 111, 112, 84, 54, 55, 56, 57, 93, 94, 95, 96, 97, 41, 98, 113, 114, 115, 116, 117, 118, 119, 120, 89, 90, 91, 92, 196, 197, 198, 199, 200, 201, 202, 208, 209, 203, 204, 205, 206, 207] (by decide +kernel) (by decide +kernel)
set_option maxRecDepth 20000 in
theorem gL_ring_X5_bracelet : GoodIn wsL_ring (wsV RL 90 RX5 yX5_bracelet wsX5_bracelet) := goodIn_app (goodIn_of _ (by decide +kernel)) ggL_ring_X5_bracelet
set_option maxRecDepth 20000 in
theorem ggL_ring_L_charms : GoodIn wsL_ring wsL_charms := goodIn_r _ [123, 1, 2, 3, 4, 5, 22, 23, 24] (by decide +kernel) (by decide +kernel)
set_option maxRecDepth 20000 in
theorem gL_ring_L_charms : GoodIn wsL_ring (va_wsS RL 49 yL_charms wsL_charms) := goodIn_app (goodIn_of _ (by decide +kernel)) ggL_ring_L_charms
set_option maxRecDepth 20000 in
theorem ggL_ring_L_lean : GoodIn wsL_ring wsL_lean := goodIn_r _ [126, 1, 2, 3, 4, 5, 99, 100, 101, 22, 23, 24] (by decide +kernel) (by decide +kernel)
set_option maxRecDepth 20000 in
theorem gL_ring_L_lean : GoodIn wsL_ring (va_wsS RL 93 yL_lean wsL_lean) := goodIn_app (goodIn_of _ (by decide +kernel)) ggL_ring_L_lean
set_option maxRecDepth 20000 in
theorem ggL_ring_X5_orbit : GoodIn wsL_ring wsX5_orbit := goodIn_r _ [130, 43, 44, 45, 46, 47, 48, 62, 63, 41, 64, 131, 50, 132, 133, 53, 68, 69, 70, 71, 134, 135, 136, 137, 76, 77, 78, 79, 80, 81, 82, 83, 84, 54, 55, 56, 57, 196, 197, 198, 199, 200, 201, 202, 203, 204, 205, 206, 207, 208, 209] (by decide +kernel) (by decide +kernel)
set_option maxRecDepth 20000 in
theorem gL_ring_X5_orbit : GoodIn wsL_ring (wsV RL 96 RX5 yX5_orbit wsX5_orbit) := goodIn_app (goodIn_of _ (by decide +kernel)) ggL_ring_X5_orbit
set_option maxRecDepth 20000 in
theorem ggL_ring_L_changes : GoodIn wsL_ring wsL_changes := goodIn_r _ [15, 1, 2, 3, 4, 5] (by decide +kernel) (by decide +kernel)
set_option maxRecDepth 20000 in
theorem gL_ring_L_changes : GoodIn wsL_ring (va_wsS RL 39 yL_changes wsL_changes) := goodIn_app (goodIn_of _ (by decide +kernel)) ggL_ring_L_changes
set_option maxRecDepth 20000 in
theorem ggL_ring_L_stays : GoodIn wsL_ring wsL_stays := goodIn_r _ [140, 13, 14, 3, 15, 1, 2, 4, 5, 16, 17, 18, 19, 20, 21, 22, 23, 24, 25, 26, 27, 28, 29, 30, 31, 32, 33, 34] (by decide +kernel) (by decide +kernel)
set_option maxRecDepth 20000 in
theorem gL_ring_L_stays : GoodIn wsL_ring (va_wsS RL 99 yL_stays wsL_stays) := goodIn_app (goodIn_of _ (by decide +kernel)) ggL_ring_L_stays
set_option maxRecDepth 20000 in
theorem ggL_ring_X5_fixed : GoodIn wsL_ring wsX5_fixed := goodIn_r _ [144, 43, 44, 45, 46, 47, 48, 145, 70, 41, 71, 135, 50, 136, 137, 53, 76, 77, 78, 79, 80, 81, 82, 83, 84, 54, 55, 56, 57, 196, 197, 198, 199, 200, 201, 202, 208, 209, 203, 204, 205, 206, 207] (by decide +kernel) (by decide +kernel)
set_option maxRecDepth 20000 in
theorem gL_ring_X5_fixed : GoodIn wsL_ring (wsV RL 102 RX5 yX5_fixed wsX5_fixed) := goodIn_app (goodIn_of _ (by decide +kernel)) ggL_ring_X5_fixed
set_option maxRecDepth 20000 in
theorem ggL_ring_X5_motifAt : GoodIn wsL_ring wsX5_motifAt := goodIn_r _ [149, 43, 44, 45, 46, 47, 48, 150, 151, 152, 153, 154, 155, 156, 157, 158, 159, 81, 50, 82, 83, 53, 54, 55, 56, 57, 196, 197, 198, 199, 200, 201, 202, 203, 204, 205, 206, 207, 208, 209, 210, 211] (by decide +kernel) (by decide +kernel)
set_option maxRecDepth 20000 in
theorem gL_ring_X5_motifAt : GoodIn wsL_ring (wsV RL 105 RX5 yX5_motifAt wsX5_motifAt) := goodIn_app (goodIn_of _ (by decide +kernel)) ggL_ring_X5_motifAt
set_option maxRecDepth 20000 in
theorem ggL_ring_X5_staysAt : GoodIn wsL_ring wsX5_staysAt := goodIn_r _ [163, 43, 44, 45, 46, 47, 48, 150, 151, 152, 153, 154, 155, 156, 157, 158, 159, 81, 50, 82, 83, 53, 54, 55, 56, 57, 164, 165, 166, 70, 41, 71, 80, 196, 197, 198, 199, 200, 201, 202, 203, 204, 205, 206, 207, 208, 209, 210, 211] (by decide +kernel) (by decide +kernel)
set_option maxRecDepth 20000 in
theorem gL_ring_X5_staysAt : GoodIn wsL_ring (wsV RL 108 RX5 yX5_staysAt wsX5_staysAt) := goodIn_app (goodIn_of _ (by decide +kernel)) ggL_ring_X5_staysAt
set_option maxRecDepth 20000 in
theorem ggL_ring_X5_ifHung : GoodIn wsL_ring wsX5_ifHung := goodIn_r _ [170, 43, 171, 44, 45, 46, 47, 48, 49, 50, 51, 52, 53, 172, 173, 41, 174, 175, 97, 98, 176, 177, 178, 57, 179, 180, 181, 182, 183, 184, 185, 150, 151, 152, 153, 154, 155, 156, 157, 158, 159, 81, 82, 83, 54, 55, 56, 186, 187, 188, 189, 190, 191, 192, 196, 197, 198, 199, 200, 201, 202, 203, 204, 205, 206, 207, 208, 209, 210, 211] (by decide +kernel) (by decide +kernel)
set_option maxRecDepth 20000 in
theorem gL_ring_X5_ifHung : GoodIn wsL_ring (wsV RL 111 RX5 yX5_ifHung wsX5_ifHung) := goodIn_app (goodIn_of _ (by decide +kernel)) ggL_ring_X5_ifHung
set_option maxRecDepth 20000 in
theorem ggL_ring_L_lay : GoodIn wsL_ring wsL_lay := goodIn_r _ [27, 5, 28, 1, 2, 3, 4] (by decide +kernel) (by decide +kernel)
set_option maxRecDepth 20000 in
theorem gL_ring_L_lay : GoodIn wsL_ring (va_wsS RL 28 yL_lay wsL_lay) := goodIn_app (goodIn_of _ (by decide +kernel)) ggL_ring_L_lay
set_option maxRecDepth 20000 in
theorem ggL_ring_L_ones : GoodIn wsL_ring wsL_ones := goodIn_r _ [195] (by decide +kernel) (by decide +kernel)
set_option maxRecDepth 20000 in
theorem gL_ring_L_ones : GoodIn wsL_ring (va_wsS RL 114 yL_ones wsL_ones) := goodIn_app (goodIn_of _ (by decide +kernel)) ggL_ring_L_ones
theorem dL_ring_0 : decode cL_ring 0 = .ok (.lload 4, 2) := by decide +kernel
theorem dL_ring_2 : decode cL_ring 2 = .ok (.invokestatic 12, 3) := by decide +kernel
theorem dL_ring_5 : decode cL_ring 5 = .ok (.istore 7, 2) := by decide +kernel
theorem dL_ring_7 : decode cL_ring 7 = .ok (.iload 7, 2) := by decide +kernel
theorem dL_ring_9 : decode cL_ring 9 = .ok (.iconst 4, 1) := by decide +kernel
theorem dL_ring_10 : decode cL_ring 10 = .ok (.idiv, 1) := by decide +kernel
theorem dL_ring_11 : decode cL_ring 11 = .ok (.istore 8, 2) := by decide +kernel
theorem dL_ring_13 : decode cL_ring 13 = .ok (.iload 6, 2) := by decide +kernel
theorem dL_ring_15 : decode cL_ring 15 = .ok (.iconst 3, 1) := by decide +kernel
theorem dL_ring_16 : decode cL_ring 16 = .ok (.invokestatic 74, 3) := by decide +kernel
theorem dL_ring_19 : decode cL_ring 19 = .ok (.istore 9, 2) := by decide +kernel
theorem dL_ring_21 : decode cL_ring 21 = .ok (.lload 4, 2) := by decide +kernel
theorem dL_ring_23 : decode cL_ring 23 = .ok (.iload 9, 2) := by decide +kernel
theorem dL_ring_25 : decode cL_ring 25 = .ok (.invokestatic 61, 3) := by decide +kernel
theorem dL_ring_28 : decode cL_ring 28 = .ok (.lstore 10, 2) := by decide +kernel
theorem dL_ring_30 : decode cL_ring 30 = .ok (.aload_n 2, 1) := by decide +kernel
theorem dL_ring_31 : decode cL_ring 31 = .ok (.lload 4, 2) := by decide +kernel
theorem dL_ring_33 : decode cL_ring 33 = .ok (.invokestatic 77, 3) := by decide +kernel
theorem dL_ring_36 : decode cL_ring 36 = .ok (.istore 12, 2) := by decide +kernel
theorem dL_ring_38 : decode cL_ring 38 = .ok (.iconst 0, 1) := by decide +kernel
theorem dL_ring_39 : decode cL_ring 39 = .ok (.istore 13, 2) := by decide +kernel
theorem dL_ring_41 : decode cL_ring 41 = .ok (.iconst 0, 1) := by decide +kernel
theorem dL_ring_42 : decode cL_ring 42 = .ok (.istore 14, 2) := by decide +kernel
theorem dL_ring_44 : decode cL_ring 44 = .ok (.iconst 0, 1) := by decide +kernel
theorem dL_ring_45 : decode cL_ring 45 = .ok (.istore 15, 2) := by decide +kernel
theorem dL_ring_47 : decode cL_ring 47 = .ok (.iload 15, 2) := by decide +kernel
theorem dL_ring_49 : decode cL_ring 49 = .ok (.iload 7, 2) := by decide +kernel
theorem dL_ring_51 : decode cL_ring 51 = .ok (.if_icmp .ge 138, 3) := by decide +kernel
theorem dL_ring_54 : decode cL_ring 54 = .ok (.iload 12, 2) := by decide +kernel
theorem dL_ring_56 : decode cL_ring 56 = .ok (.iload 15, 2) := by decide +kernel
theorem dL_ring_58 : decode cL_ring 58 = .ok (.ishr, 1) := by decide +kernel
theorem dL_ring_59 : decode cL_ring 59 = .ok (.iconst 1, 1) := by decide +kernel
theorem dL_ring_60 : decode cL_ring 60 = .ok (.iand, 1) := by decide +kernel
theorem dL_ring_61 : decode cL_ring 61 = .ok (.iconst 1, 1) := by decide +kernel
theorem dL_ring_62 : decode cL_ring 62 = .ok (.if_icmp .ne 62, 3) := by decide +kernel
theorem dL_ring_65 : decode cL_ring 65 = .ok (.iload 12, 2) := by decide +kernel
theorem dL_ring_67 : decode cL_ring 67 = .ok (.iload 15, 2) := by decide +kernel
theorem dL_ring_69 : decode cL_ring 69 = .ok (.iload 8, 2) := by decide +kernel
theorem dL_ring_71 : decode cL_ring 71 = .ok (.iadd, 1) := by decide +kernel
theorem dL_ring_72 : decode cL_ring 72 = .ok (.iload 7, 2) := by decide +kernel
theorem dL_ring_74 : decode cL_ring 74 = .ok (.irem, 1) := by decide +kernel
theorem dL_ring_75 : decode cL_ring 75 = .ok (.ishr, 1) := by decide +kernel
theorem dL_ring_76 : decode cL_ring 76 = .ok (.iconst 1, 1) := by decide +kernel
theorem dL_ring_77 : decode cL_ring 77 = .ok (.iand, 1) := by decide +kernel
theorem dL_ring_78 : decode cL_ring 78 = .ok (.iconst 1, 1) := by decide +kernel
theorem dL_ring_79 : decode cL_ring 79 = .ok (.if_icmp .ne 45, 3) := by decide +kernel
theorem dL_ring_82 : decode cL_ring 82 = .ok (.iload 12, 2) := by decide +kernel
theorem dL_ring_84 : decode cL_ring 84 = .ok (.iload 15, 2) := by decide +kernel
theorem dL_ring_86 : decode cL_ring 86 = .ok (.iconst 2, 1) := by decide +kernel
theorem dL_ring_87 : decode cL_ring 87 = .ok (.iload 8, 2) := by decide +kernel
theorem dL_ring_89 : decode cL_ring 89 = .ok (.imul, 1) := by decide +kernel
theorem dL_ring_90 : decode cL_ring 90 = .ok (.iadd, 1) := by decide +kernel
theorem dL_ring_91 : decode cL_ring 91 = .ok (.iload 7, 2) := by decide +kernel
theorem dL_ring_93 : decode cL_ring 93 = .ok (.irem, 1) := by decide +kernel
theorem dL_ring_94 : decode cL_ring 94 = .ok (.ishr, 1) := by decide +kernel
theorem dL_ring_95 : decode cL_ring 95 = .ok (.iconst 1, 1) := by decide +kernel
theorem dL_ring_96 : decode cL_ring 96 = .ok (.iand, 1) := by decide +kernel
theorem dL_ring_97 : decode cL_ring 97 = .ok (.iconst 1, 1) := by decide +kernel
theorem dL_ring_98 : decode cL_ring 98 = .ok (.if_icmp .ne 26, 3) := by decide +kernel
theorem dL_ring_101 : decode cL_ring 101 = .ok (.iload 12, 2) := by decide +kernel
theorem dL_ring_103 : decode cL_ring 103 = .ok (.iload 15, 2) := by decide +kernel
theorem dL_ring_105 : decode cL_ring 105 = .ok (.iconst 3, 1) := by decide +kernel
theorem dL_ring_106 : decode cL_ring 106 = .ok (.iload 8, 2) := by decide +kernel
theorem dL_ring_108 : decode cL_ring 108 = .ok (.imul, 1) := by decide +kernel
theorem dL_ring_109 : decode cL_ring 109 = .ok (.iadd, 1) := by decide +kernel
theorem dL_ring_110 : decode cL_ring 110 = .ok (.iload 7, 2) := by decide +kernel
theorem dL_ring_112 : decode cL_ring 112 = .ok (.irem, 1) := by decide +kernel
theorem dL_ring_113 : decode cL_ring 113 = .ok (.ishr, 1) := by decide +kernel
theorem dL_ring_114 : decode cL_ring 114 = .ok (.iconst 1, 1) := by decide +kernel
theorem dL_ring_115 : decode cL_ring 115 = .ok (.iand, 1) := by decide +kernel
theorem dL_ring_116 : decode cL_ring 116 = .ok (.iconst 1, 1) := by decide +kernel
theorem dL_ring_117 : decode cL_ring 117 = .ok (.if_icmp .ne 7, 3) := by decide +kernel
theorem dL_ring_120 : decode cL_ring 120 = .ok (.iconst 1, 1) := by decide +kernel
theorem dL_ring_121 : decode cL_ring 121 = .ok (.goto 4, 3) := by decide +kernel
theorem dL_ring_124 : decode cL_ring 124 = .ok (.iconst 0, 1) := by decide +kernel
theorem dL_ring_125 : decode cL_ring 125 = .ok (.istore 16, 2) := by decide +kernel
theorem dL_ring_127 : decode cL_ring 127 = .ok (.iload 13, 2) := by decide +kernel
theorem dL_ring_129 : decode cL_ring 129 = .ok (.iload 16, 2) := by decide +kernel
theorem dL_ring_131 : decode cL_ring 131 = .ok (.ifCond .eq 10, 3) := by decide +kernel
theorem dL_ring_134 : decode cL_ring 134 = .ok (.iconst 1, 1) := by decide +kernel
theorem dL_ring_135 : decode cL_ring 135 = .ok (.iload 15, 2) := by decide +kernel
theorem dL_ring_137 : decode cL_ring 137 = .ok (.ishl, 1) := by decide +kernel
theorem dL_ring_138 : decode cL_ring 138 = .ok (.goto 4, 3) := by decide +kernel
theorem dL_ring_141 : decode cL_ring 141 = .ok (.iconst 0, 1) := by decide +kernel
theorem dL_ring_142 : decode cL_ring 142 = .ok (.ior, 1) := by decide +kernel
theorem dL_ring_143 : decode cL_ring 143 = .ok (.istore 13, 2) := by decide +kernel
theorem dL_ring_145 : decode cL_ring 145 = .ok (.aload_n 0, 1) := by decide +kernel
theorem dL_ring_146 : decode cL_ring 146 = .ok (.iload_n 3, 1) := by decide +kernel
theorem dL_ring_147 : decode cL_ring 147 = .ok (.iload 15, 2) := by decide +kernel
theorem dL_ring_149 : decode cL_ring 149 = .ok (.invokevirtual 81, 3) := by decide +kernel
theorem dL_ring_152 : decode cL_ring 152 = .ok (.lload 4, 2) := by decide +kernel
theorem dL_ring_154 : decode cL_ring 154 = .ok (.iload 15, 2) := by decide +kernel
theorem dL_ring_156 : decode cL_ring 156 = .ok (.invokestatic 24, 3) := by decide +kernel
theorem dL_ring_159 : decode cL_ring 159 = .ok (.if_icmp .ne 22, 3) := by decide +kernel
theorem dL_ring_162 : decode cL_ring 162 = .ok (.aload_n 0, 1) := by decide +kernel
theorem dL_ring_163 : decode cL_ring 163 = .ok (.iload_n 3, 1) := by decide +kernel
theorem dL_ring_164 : decode cL_ring 164 = .ok (.iload 9, 2) := by decide +kernel
theorem dL_ring_166 : decode cL_ring 166 = .ok (.iload 15, 2) := by decide +kernel
theorem dL_ring_168 : decode cL_ring 168 = .ok (.invokevirtual 84, 3) := by decide +kernel
theorem dL_ring_171 : decode cL_ring 171 = .ok (.lload 10, 2) := by decide +kernel
theorem dL_ring_173 : decode cL_ring 173 = .ok (.iload 15, 2) := by decide +kernel
theorem dL_ring_175 : decode cL_ring 175 = .ok (.invokestatic 24, 3) := by decide +kernel
theorem dL_ring_178 : decode cL_ring 178 = .ok (.if_icmp .eq 5, 3) := by decide +kernel
theorem dL_ring_181 : decode cL_ring 181 = .ok (.iconst 0, 1) := by decide +kernel
theorem dL_ring_182 : decode cL_ring 182 = .ok (.ireturn, 1) := by decide +kernel
theorem dL_ring_183 : decode cL_ring 183 = .ok (.iinc 15 1, 3) := by decide +kernel
theorem dL_ring_186 : decode cL_ring 186 = .ok (.goto (-139), 3) := by decide +kernel
theorem dL_ring_189 : decode cL_ring 189 = .ok (.iconst 0, 1) := by decide +kernel
theorem dL_ring_190 : decode cL_ring 190 = .ok (.istore 15, 2) := by decide +kernel
theorem dL_ring_192 : decode cL_ring 192 = .ok (.iload 15, 2) := by decide +kernel
theorem dL_ring_194 : decode cL_ring 194 = .ok (.iconst 4, 1) := by decide +kernel
theorem dL_ring_195 : decode cL_ring 195 = .ok (.if_icmp .ge 69, 3) := by decide +kernel
theorem dL_ring_198 : decode cL_ring 198 = .ok (.iload 14, 2) := by decide +kernel
theorem dL_ring_200 : decode cL_ring 200 = .ok (.lload 4, 2) := by decide +kernel
theorem dL_ring_202 : decode cL_ring 202 = .ok (.iload 15, 2) := by decide +kernel
theorem dL_ring_204 : decode cL_ring 204 = .ok (.iload 8, 2) := by decide +kernel
theorem dL_ring_206 : decode cL_ring 206 = .ok (.imul, 1) := by decide +kernel
theorem dL_ring_207 : decode cL_ring 207 = .ok (.invokestatic 35, 3) := by decide +kernel
theorem dL_ring_210 : decode cL_ring 210 = .ok (.lload 4, 2) := by decide +kernel
theorem dL_ring_212 : decode cL_ring 212 = .ok (.lcmp, 1) := by decide +kernel
theorem dL_ring_213 : decode cL_ring 213 = .ok (.ifCond .ne 10, 3) := by decide +kernel
theorem dL_ring_216 : decode cL_ring 216 = .ok (.iconst 1, 1) := by decide +kernel
theorem dL_ring_217 : decode cL_ring 217 = .ok (.iload 15, 2) := by decide +kernel
theorem dL_ring_219 : decode cL_ring 219 = .ok (.ishl, 1) := by decide +kernel
theorem dL_ring_220 : decode cL_ring 220 = .ok (.goto 4, 3) := by decide +kernel
theorem dL_ring_223 : decode cL_ring 223 = .ok (.iconst 0, 1) := by decide +kernel
theorem dL_ring_224 : decode cL_ring 224 = .ok (.ior, 1) := by decide +kernel
theorem dL_ring_225 : decode cL_ring 225 = .ok (.istore 14, 2) := by decide +kernel
theorem dL_ring_227 : decode cL_ring 227 = .ok (.aload_n 0, 1) := by decide +kernel
theorem dL_ring_228 : decode cL_ring 228 = .ok (.iload_n 3, 1) := by decide +kernel
theorem dL_ring_229 : decode cL_ring 229 = .ok (.iload 15, 2) := by decide +kernel
theorem dL_ring_231 : decode cL_ring 231 = .ok (.invokevirtual 87, 3) := by decide +kernel
theorem dL_ring_234 : decode cL_ring 234 = .ok (.aload_n 1, 1) := by decide +kernel
theorem dL_ring_235 : decode cL_ring 235 = .ok (.lload 4, 2) := by decide +kernel
theorem dL_ring_237 : decode cL_ring 237 = .ok (.iload 15, 2) := by decide +kernel
theorem dL_ring_239 : decode cL_ring 239 = .ok (.iload 8, 2) := by decide +kernel
theorem dL_ring_241 : decode cL_ring 241 = .ok (.imul, 1) := by decide +kernel
theorem dL_ring_242 : decode cL_ring 242 = .ok (.iload 15, 2) := by decide +kernel
theorem dL_ring_244 : decode cL_ring 244 = .ok (.iload 8, 2) := by decide +kernel
theorem dL_ring_246 : decode cL_ring 246 = .ok (.imul, 1) := by decide +kernel
theorem dL_ring_247 : decode cL_ring 247 = .ok (.iload 8, 2) := by decide +kernel
theorem dL_ring_249 : decode cL_ring 249 = .ok (.iadd, 1) := by decide +kernel
theorem dL_ring_250 : decode cL_ring 250 = .ok (.invokestatic 45, 3) := by decide +kernel
theorem dL_ring_253 : decode cL_ring 253 = .ok (.if_icmp .eq 5, 3) := by decide +kernel
theorem dL_ring_256 : decode cL_ring 256 = .ok (.iconst 0, 1) := by decide +kernel
theorem dL_ring_257 : decode cL_ring 257 = .ok (.ireturn, 1) := by decide +kernel
theorem dL_ring_258 : decode cL_ring 258 = .ok (.iinc 15 1, 3) := by decide +kernel
theorem dL_ring_261 : decode cL_ring 261 = .ok (.goto (-69), 3) := by decide +kernel
theorem dL_ring_264 : decode cL_ring 264 = .ok (.iload 6, 2) := by decide +kernel
theorem dL_ring_266 : decode cL_ring 266 = .ok (.iconst 2, 1) := by decide +kernel
theorem dL_ring_267 : decode cL_ring 267 = .ok (.ishr, 1) := by decide +kernel
theorem dL_ring_268 : decode cL_ring 268 = .ok (.iload 7, 2) := by decide +kernel
theorem dL_ring_270 : decode cL_ring 270 = .ok (.invokestatic 74, 3) := by decide +kernel
theorem dL_ring_273 : decode cL_ring 273 = .ok (.istore 15, 2) := by decide +kernel
theorem dL_ring_275 : decode cL_ring 275 = .ok (.iload 6, 2) := by decide +kernel
theorem dL_ring_277 : decode cL_ring 277 = .ok (.bipush 6, 2) := by decide +kernel
theorem dL_ring_279 : decode cL_ring 279 = .ok (.ishr, 1) := by decide +kernel
theorem dL_ring_280 : decode cL_ring 280 = .ok (.bipush 6, 2) := by decide +kernel
theorem dL_ring_282 : decode cL_ring 282 = .ok (.invokestatic 74, 3) := by decide +kernel
theorem dL_ring_285 : decode cL_ring 285 = .ok (.istore 16, 2) := by decide +kernel
theorem dL_ring_287 : decode cL_ring 287 = .ok (.aload_n 0, 1) := by decide +kernel
theorem dL_ring_288 : decode cL_ring 288 = .ok (.iload_n 3, 1) := by decide +kernel
theorem dL_ring_289 : decode cL_ring 289 = .ok (.iconst 0, 1) := by decide +kernel
theorem dL_ring_290 : decode cL_ring 290 = .ok (.invokevirtual 90, 3) := by decide +kernel
theorem dL_ring_293 : decode cL_ring 293 = .ok (.iload 7, 2) := by decide +kernel
theorem dL_ring_295 : decode cL_ring 295 = .ok (.if_icmp .ne 93, 3) := by decide +kernel
theorem dL_ring_298 : decode cL_ring 298 = .ok (.aload_n 0, 1) := by decide +kernel
theorem dL_ring_299 : decode cL_ring 299 = .ok (.iload_n 3, 1) := by decide +kernel
theorem dL_ring_300 : decode cL_ring 300 = .ok (.iconst 1, 1) := by decide +kernel
theorem dL_ring_301 : decode cL_ring 301 = .ok (.invokevirtual 90, 3) := by decide +kernel
theorem dL_ring_304 : decode cL_ring 304 = .ok (.iload 7, 2) := by decide +kernel
theorem dL_ring_306 : decode cL_ring 306 = .ok (.lload 4, 2) := by decide +kernel
theorem dL_ring_308 : decode cL_ring 308 = .ok (.iconst 0, 1) := by decide +kernel
theorem dL_ring_309 : decode cL_ring 309 = .ok (.invokestatic 49, 3) := by decide +kernel
theorem dL_ring_312 : decode cL_ring 312 = .ok (.isub, 1) := by decide +kernel
theorem dL_ring_313 : decode cL_ring 313 = .ok (.if_icmp .ne 75, 3) := by decide +kernel
theorem dL_ring_316 : decode cL_ring 316 = .ok (.aload_n 0, 1) := by decide +kernel
theorem dL_ring_317 : decode cL_ring 317 = .ok (.iload_n 3, 1) := by decide +kernel
theorem dL_ring_318 : decode cL_ring 318 = .ok (.iconst 2, 1) := by decide +kernel
theorem dL_ring_319 : decode cL_ring 319 = .ok (.invokevirtual 90, 3) := by decide +kernel
theorem dL_ring_322 : decode cL_ring 322 = .ok (.aload_n 1, 1) := by decide +kernel
theorem dL_ring_323 : decode cL_ring 323 = .ok (.lload 4, 2) := by decide +kernel
theorem dL_ring_325 : decode cL_ring 325 = .ok (.iconst 0, 1) := by decide +kernel
theorem dL_ring_326 : decode cL_ring 326 = .ok (.iload 7, 2) := by decide +kernel
theorem dL_ring_328 : decode cL_ring 328 = .ok (.invokestatic 45, 3) := by decide +kernel
theorem dL_ring_331 : decode cL_ring 331 = .ok (.if_icmp .ne 57, 3) := by decide +kernel
theorem dL_ring_334 : decode cL_ring 334 = .ok (.aload_n 0, 1) := by decide +kernel
theorem dL_ring_335 : decode cL_ring 335 = .ok (.iload_n 3, 1) := by decide +kernel
theorem dL_ring_336 : decode cL_ring 336 = .ok (.iconst 3, 1) := by decide +kernel
theorem dL_ring_337 : decode cL_ring 337 = .ok (.invokevirtual 90, 3) := by decide +kernel
theorem dL_ring_340 : decode cL_ring 340 = .ok (.aload_n 1, 1) := by decide +kernel
theorem dL_ring_341 : decode cL_ring 341 = .ok (.lload 4, 2) := by decide +kernel
theorem dL_ring_343 : decode cL_ring 343 = .ok (.invokestatic 93, 3) := by decide +kernel
theorem dL_ring_346 : decode cL_ring 346 = .ok (.if_icmp .ne 42, 3) := by decide +kernel
theorem dL_ring_349 : decode cL_ring 349 = .ok (.aload_n 0, 1) := by decide +kernel
theorem dL_ring_350 : decode cL_ring 350 = .ok (.iload_n 3, 1) := by decide +kernel
theorem dL_ring_351 : decode cL_ring 351 = .ok (.iload 9, 2) := by decide +kernel
theorem dL_ring_353 : decode cL_ring 353 = .ok (.invokevirtual 96, 3) := by decide +kernel
theorem dL_ring_356 : decode cL_ring 356 = .ok (.lload 4, 2) := by decide +kernel
theorem dL_ring_358 : decode cL_ring 358 = .ok (.iload 9, 2) := by decide +kernel
theorem dL_ring_360 : decode cL_ring 360 = .ok (.invokestatic 39, 3) := by decide +kernel
theorem dL_ring_363 : decode cL_ring 363 = .ok (.lload 4, 2) := by decide +kernel
theorem dL_ring_365 : decode cL_ring 365 = .ok (.iload 9, 2) := by decide +kernel
theorem dL_ring_367 : decode cL_ring 367 = .ok (.invokestatic 99, 3) := by decide +kernel
theorem dL_ring_370 : decode cL_ring 370 = .ok (.idiv, 1) := by decide +kernel
theorem dL_ring_371 : decode cL_ring 371 = .ok (.if_icmp .ne 17, 3) := by decide +kernel
theorem dL_ring_374 : decode cL_ring 374 = .ok (.aload_n 0, 1) := by decide +kernel
theorem dL_ring_375 : decode cL_ring 375 = .ok (.iload_n 3, 1) := by decide +kernel
theorem dL_ring_376 : decode cL_ring 376 = .ok (.invokevirtual 102, 3) := by decide +kernel
theorem dL_ring_379 : decode cL_ring 379 = .ok (.iload 14, 2) := by decide +kernel
theorem dL_ring_381 : decode cL_ring 381 = .ok (.if_icmp .ne 7, 3) := by decide +kernel
theorem dL_ring_384 : decode cL_ring 384 = .ok (.iconst 1, 1) := by decide +kernel
theorem dL_ring_385 : decode cL_ring 385 = .ok (.goto 4, 3) := by decide +kernel
theorem dL_ring_388 : decode cL_ring 388 = .ok (.iconst 0, 1) := by decide +kernel
theorem dL_ring_389 : decode cL_ring 389 = .ok (.istore 17, 2) := by decide +kernel
theorem dL_ring_391 : decode cL_ring 391 = .ok (.iload 17, 2) := by decide +kernel
theorem dL_ring_393 : decode cL_ring 393 = .ok (.ifCond .eq 66, 3) := by decide +kernel
theorem dL_ring_396 : decode cL_ring 396 = .ok (.aload_n 0, 1) := by decide +kernel
theorem dL_ring_397 : decode cL_ring 397 = .ok (.iload_n 3, 1) := by decide +kernel
theorem dL_ring_398 : decode cL_ring 398 = .ok (.invokevirtual 105, 3) := by decide +kernel
theorem dL_ring_401 : decode cL_ring 401 = .ok (.iload 12, 2) := by decide +kernel
theorem dL_ring_403 : decode cL_ring 403 = .ok (.if_icmp .ne 56, 3) := by decide +kernel
theorem dL_ring_406 : decode cL_ring 406 = .ok (.aload_n 0, 1) := by decide +kernel
theorem dL_ring_407 : decode cL_ring 407 = .ok (.iload_n 3, 1) := by decide +kernel
theorem dL_ring_408 : decode cL_ring 408 = .ok (.invokevirtual 108, 3) := by decide +kernel
theorem dL_ring_411 : decode cL_ring 411 = .ok (.iload 13, 2) := by decide +kernel
theorem dL_ring_413 : decode cL_ring 413 = .ok (.if_icmp .ne 46, 3) := by decide +kernel
theorem dL_ring_416 : decode cL_ring 416 = .ok (.aload_n 0, 1) := by decide +kernel
theorem dL_ring_417 : decode cL_ring 417 = .ok (.iload_n 3, 1) := by decide +kernel
theorem dL_ring_418 : decode cL_ring 418 = .ok (.iload 15, 2) := by decide +kernel
theorem dL_ring_420 : decode cL_ring 420 = .ok (.iload 16, 2) := by decide +kernel
theorem dL_ring_422 : decode cL_ring 422 = .ok (.invokevirtual 111, 3) := by decide +kernel
theorem dL_ring_425 : decode cL_ring 425 = .ok (.aload_n 2, 1) := by decide +kernel
theorem dL_ring_426 : decode cL_ring 426 = .ok (.lload 4, 2) := by decide +kernel
theorem dL_ring_428 : decode cL_ring 428 = .ok (.iload 15, 2) := by decide +kernel
theorem dL_ring_430 : decode cL_ring 430 = .ok (.iload 16, 2) := by decide +kernel
theorem dL_ring_432 : decode cL_ring 432 = .ok (.invokestatic 28, 3) := by decide +kernel
theorem dL_ring_435 : decode cL_ring 435 = .ok (.invokestatic 77, 3) := by decide +kernel
theorem dL_ring_438 : decode cL_ring 438 = .ok (.invokestatic 114, 3) := by decide +kernel
theorem dL_ring_441 : decode cL_ring 441 = .ok (.if_icmp .ne 18, 3) := by decide +kernel
theorem dL_ring_444 : decode cL_ring 444 = .ok (.aload_n 0, 1) := by decide +kernel
theorem dL_ring_445 : decode cL_ring 445 = .ok (.iload_n 3, 1) := by decide +kernel
theorem dL_ring_446 : decode cL_ring 446 = .ok (.iload 7, 2) := by decide +kernel
theorem dL_ring_448 : decode cL_ring 448 = .ok (.invokevirtual 81, 3) := by decide +kernel
theorem dL_ring_451 : decode cL_ring 451 = .ok (.iconst (-1), 1) := by decide +kernel
theorem dL_ring_452 : decode cL_ring 452 = .ok (.if_icmp .ne 7, 3) := by decide +kernel
theorem dL_ring_455 : decode cL_ring 455 = .ok (.iconst 1, 1) := by decide +kernel
theorem dL_ring_456 : decode cL_ring 456 = .ok (.goto 4, 3) := by decide +kernel
theorem dL_ring_459 : decode cL_ring 459 = .ok (.iconst 0, 1) := by decide +kernel
theorem dL_ring_460 : decode cL_ring 460 = .ok (.ireturn, 1) := by decide +kernel
set_option maxRecDepth 20000 in
theorem ggL_best_L_lean : GoodIn wsL_best wsL_lean := goodIn_r _ [4, 5, 6, 3, 7, 8, 9, 10, 11, 12, 13, 14] (by decide +kernel) (by decide +kernel)
set_option maxRecDepth 20000 in
theorem gL_best_L_lean : GoodIn wsL_best (va_wsS RL 93 yL_lean wsL_lean) := goodIn_app (goodIn_of _ (by decide +kernel)) ggL_best_L_lean
set_option maxRecDepth 20000 in
theorem ggL_best_L_slots : GoodIn wsL_best wsL_slots := goodIn_r _ [7, 8] (by decide +kernel) (by decide +kernel)
set_option maxRecDepth 20000 in
theorem gL_best_L_slots : GoodIn wsL_best (va_wsS RL 12 yL_slots wsL_slots) := goodIn_app (goodIn_of _ (by decide +kernel)) ggL_best_L_slots
set_option maxRecDepth 20000 in
theorem ggL_best_L_kind : GoodIn wsL_best wsL_kind := goodIn_r _ [14, 5, 6, 3, 7, 8] (by decide +kernel) (by decide +kernel)
set_option maxRecDepth 20000 in
theorem gL_best_L_kind : GoodIn wsL_best (va_wsS RL 24 yL_kind wsL_kind) := goodIn_app (goodIn_of _ (by decide +kernel)) ggL_best_L_kind
set_option maxRecDepth 20000 in
theorem ggL_best_L_lay : GoodIn wsL_best wsL_lay := goodIn_r _ [17, 8, 18, 5, 6, 3, 7] (by decide +kernel) (by decide +kernel)
set_option maxRecDepth 20000 in
theorem gL_best_L_lay : GoodIn wsL_best (va_wsS RL 28 yL_lay wsL_lay) := goodIn_app (goodIn_of _ (by decide +kernel)) ggL_best_L_lay
set_option maxRecDepth 20000 in
theorem ggL_best_X5_bestSwap : GoodIn wsL_best wsX5_bestSwap := goodIn_r _ [23, 24, 25, 26, 27, 28, 29, 30, 31, 32, 33, 34, 35, 36, 37, 38, 39, 40, 41, 42, 43, 44, 45, 46, 47, 48, 49, 50, 51, 52, 53, 54, 55, 56, 57, 58, 59, 60, 22, 61, 62, 63, 64, 65, 66, 67, 68, 69, 70, 71, 72, 73, 74, 75, 76, 77, 78, 79, 80, 81, 82, 83, 84, 85, 86, 87] (by decide +kernel) (by decide +kernel)
set_option maxRecDepth 20000 in
theorem gL_best_X5_bestSwap : GoodIn wsL_best (wsV RL 117 RX5 yX5_bestSwap wsX5_bestSwap) := goodIn_app (goodIn_of _ (by decide +kernel)) ggL_best_X5_bestSwap
theorem dL_best_0 : decode cL_best 0 = .ok (.bipush (-6), 2) := by decide +kernel
theorem dL_best_2 : decode cL_best 2 = .ok (.istore 5, 2) := by decide +kernel
theorem dL_best_4 : decode cL_best 4 = .ok (.aload_n 1, 1) := by decide +kernel
theorem dL_best_5 : decode cL_best 5 = .ok (.lload_n 3, 1) := by decide +kernel
theorem dL_best_6 : decode cL_best 6 = .ok (.invokestatic 93, 3) := by decide +kernel
theorem dL_best_9 : decode cL_best 9 = .ok (.istore 6, 2) := by decide +kernel
theorem dL_best_11 : decode cL_best 11 = .ok (.iconst 0, 1) := by decide +kernel
theorem dL_best_12 : decode cL_best 12 = .ok (.istore 7, 2) := by decide +kernel
theorem dL_best_14 : decode cL_best 14 = .ok (.iload 7, 2) := by decide +kernel
theorem dL_best_16 : decode cL_best 16 = .ok (.sipush 256, 3) := by decide +kernel
theorem dL_best_19 : decode cL_best 19 = .ok (.if_icmp .ge 106, 3) := by decide +kernel
theorem dL_best_22 : decode cL_best 22 = .ok (.iload 7, 2) := by decide +kernel
theorem dL_best_24 : decode cL_best 24 = .ok (.bipush 16, 2) := by decide +kernel
theorem dL_best_26 : decode cL_best 26 = .ok (.idiv, 1) := by decide +kernel
theorem dL_best_27 : decode cL_best 27 = .ok (.istore 8, 2) := by decide +kernel
theorem dL_best_29 : decode cL_best 29 = .ok (.iload 7, 2) := by decide +kernel
theorem dL_best_31 : decode cL_best 31 = .ok (.bipush 16, 2) := by decide +kernel
theorem dL_best_33 : decode cL_best 33 = .ok (.irem, 1) := by decide +kernel
theorem dL_best_34 : decode cL_best 34 = .ok (.istore 9, 2) := by decide +kernel
theorem dL_best_36 : decode cL_best 36 = .ok (.iload 8, 2) := by decide +kernel
theorem dL_best_38 : decode cL_best 38 = .ok (.iload 9, 2) := by decide +kernel
theorem dL_best_40 : decode cL_best 40 = .ok (.if_icmp .ge 79, 3) := by decide +kernel
theorem dL_best_43 : decode cL_best 43 = .ok (.iload 9, 2) := by decide +kernel
theorem dL_best_45 : decode cL_best 45 = .ok (.lload_n 3, 1) := by decide +kernel
theorem dL_best_46 : decode cL_best 46 = .ok (.invokestatic 12, 3) := by decide +kernel
theorem dL_best_49 : decode cL_best 49 = .ok (.if_icmp .ge 70, 3) := by decide +kernel
theorem dL_best_52 : decode cL_best 52 = .ok (.aload_n 1, 1) := by decide +kernel
theorem dL_best_53 : decode cL_best 53 = .ok (.lload_n 3, 1) := by decide +kernel
theorem dL_best_54 : decode cL_best 54 = .ok (.iload 8, 2) := by decide +kernel
theorem dL_best_56 : decode cL_best 56 = .ok (.lload_n 3, 1) := by decide +kernel
theorem dL_best_57 : decode cL_best 57 = .ok (.iload 9, 2) := by decide +kernel
theorem dL_best_59 : decode cL_best 59 = .ok (.invokestatic 24, 3) := by decide +kernel
theorem dL_best_62 : decode cL_best 62 = .ok (.invokestatic 28, 3) := by decide +kernel
theorem dL_best_65 : decode cL_best 65 = .ok (.iload 9, 2) := by decide +kernel
theorem dL_best_67 : decode cL_best 67 = .ok (.lload_n 3, 1) := by decide +kernel
theorem dL_best_68 : decode cL_best 68 = .ok (.iload 8, 2) := by decide +kernel
theorem dL_best_70 : decode cL_best 70 = .ok (.invokestatic 24, 3) := by decide +kernel
theorem dL_best_73 : decode cL_best 73 = .ok (.invokestatic 28, 3) := by decide +kernel
theorem dL_best_76 : decode cL_best 76 = .ok (.invokestatic 93, 3) := by decide +kernel
theorem dL_best_79 : decode cL_best 79 = .ok (.istore 10, 2) := by decide +kernel
theorem dL_best_81 : decode cL_best 81 = .ok (.iload 10, 2) := by decide +kernel
theorem dL_best_83 : decode cL_best 83 = .ok (.iload 6, 2) := by decide +kernel
theorem dL_best_85 : decode cL_best 85 = .ok (.if_icmp .ge 14, 3) := by decide +kernel
theorem dL_best_88 : decode cL_best 88 = .ok (.bipush 100, 2) := by decide +kernel
theorem dL_best_90 : decode cL_best 90 = .ok (.iload 8, 2) := by decide +kernel
theorem dL_best_92 : decode cL_best 92 = .ok (.imul, 1) := by decide +kernel
theorem dL_best_93 : decode cL_best 93 = .ok (.iload 9, 2) := by decide +kernel
theorem dL_best_95 : decode cL_best 95 = .ok (.iadd, 1) := by decide +kernel
theorem dL_best_96 : decode cL_best 96 = .ok (.goto 5, 3) := by decide +kernel
theorem dL_best_99 : decode cL_best 99 = .ok (.iload 5, 2) := by decide +kernel
theorem dL_best_101 : decode cL_best 101 = .ok (.istore 5, 2) := by decide +kernel
theorem dL_best_103 : decode cL_best 103 = .ok (.iload 10, 2) := by decide +kernel
theorem dL_best_105 : decode cL_best 105 = .ok (.iload 6, 2) := by decide +kernel
theorem dL_best_107 : decode cL_best 107 = .ok (.if_icmp .ge 8, 3) := by decide +kernel
theorem dL_best_110 : decode cL_best 110 = .ok (.iload 10, 2) := by decide +kernel
theorem dL_best_112 : decode cL_best 112 = .ok (.goto 5, 3) := by decide +kernel
theorem dL_best_115 : decode cL_best 115 = .ok (.iload 6, 2) := by decide +kernel
theorem dL_best_117 : decode cL_best 117 = .ok (.istore 6, 2) := by decide +kernel
theorem dL_best_119 : decode cL_best 119 = .ok (.iinc 7 1, 3) := by decide +kernel
theorem dL_best_122 : decode cL_best 122 = .ok (.goto (-108), 3) := by decide +kernel
theorem dL_best_125 : decode cL_best 125 = .ok (.aload_n 0, 1) := by decide +kernel
theorem dL_best_126 : decode cL_best 126 = .ok (.iload_n 2, 1) := by decide +kernel
theorem dL_best_127 : decode cL_best 127 = .ok (.invokevirtual 117, 3) := by decide +kernel
theorem dL_best_130 : decode cL_best 130 = .ok (.iload 5, 2) := by decide +kernel
theorem dL_best_132 : decode cL_best 132 = .ok (.if_icmp .ne 7, 3) := by decide +kernel
theorem dL_best_135 : decode cL_best 135 = .ok (.iconst 1, 1) := by decide +kernel
theorem dL_best_136 : decode cL_best 136 = .ok (.goto 4, 3) := by decide +kernel
theorem dL_best_139 : decode cL_best 139 = .ok (.iconst 0, 1) := by decide +kernel
theorem dL_best_140 : decode cL_best 140 = .ok (.ireturn, 1) := by decide +kernel
set_option maxRecDepth 20000 in
theorem ggL_two_X5_alike : GoodIn wsL_two wsX5_alike := goodIn_r _ [5, 6, 7, 8, 9, 10, 11, 12, 13, 4, 14, 15, 16, 17, 18, 19, 20, 21, 22, 23, 24, 25, 26, 27, 28, 29, 30, 31, 32, 33, 34, 35, 36, 37, 38, 39, 40, 41, 42, 43, 44, 45, 46, 47, 48, 86, 87, 88, 89, 90, 91, 92, 93, 94, 95, 96, 97, 98, 99] (by decide +kernel) (by decide +kernel)
set_option maxRecDepth 20000 in
theorem gL_two_X5_alike : GoodIn wsL_two (wsV RL 120 RX5 yX5_alike wsX5_alike) := goodIn_app (goodIn_of _ (by decide +kernel)) ggL_two_X5_alike
set_option maxRecDepth 20000 in
theorem ggL_two_X5_distance : GoodIn wsL_two wsX5_distance := goodIn_r _ [52, 6, 7, 8, 9, 10, 11, 21, 16, 22, 23, 19, 24, 25, 26, 27, 28, 4, 29, 30, 31, 32, 33, 34, 35, 36, 37, 38, 39, 40, 41, 42, 43, 44, 45, 46, 47, 48, 86, 87, 88, 89, 90, 91, 92, 98, 99, 93, 94, 95, 96, 97] (by decide +kernel) (by decide +kernel)
set_option maxRecDepth 20000 in
theorem gL_two_X5_distance : GoodIn wsL_two (wsV RL 123 RX5 yX5_distance wsX5_distance) := goodIn_app (goodIn_of _ (by decide +kernel)) ggL_two_X5_distance
set_option maxRecDepth 20000 in
theorem ggL_two_L_slots : GoodIn wsL_two wsL_slots := goodIn_r _ [56, 57] (by decide +kernel) (by decide +kernel)
set_option maxRecDepth 20000 in
theorem gL_two_L_slots : GoodIn wsL_two (va_wsS RL 12 yL_slots wsL_slots) := goodIn_app (goodIn_of _ (by decide +kernel)) ggL_two_L_slots
set_option maxRecDepth 20000 in
theorem ggL_two_L_changes : GoodIn wsL_two wsL_changes := goodIn_r _ [60, 53, 54, 55, 56, 57] (by decide +kernel) (by decide +kernel)
set_option maxRecDepth 20000 in
theorem gL_two_L_changes : GoodIn wsL_two (va_wsS RL 39 yL_changes wsL_changes) := goodIn_app (goodIn_of _ (by decide +kernel)) ggL_two_L_changes
set_option maxRecDepth 20000 in
theorem ggL_two_L_image : GoodIn wsL_two wsL_image := goodIn_r _ [63, 53, 54, 55, 56, 57, 64, 65, 66, 67, 68, 69, 70, 71, 72, 73, 74, 75, 76, 77, 78, 79] (by decide +kernel) (by decide +kernel)
set_option maxRecDepth 20000 in
theorem gL_two_L_image : GoodIn wsL_two (va_wsS RL 42 yL_image wsL_image) := goodIn_app (goodIn_of _ (by decide +kernel)) ggL_two_L_image
set_option maxRecDepth 20000 in
theorem ggL_two_L_unlike : GoodIn wsL_two wsL_unlike := goodIn_r _ [82, 53, 54, 55, 56, 57, 67, 68, 69] (by decide +kernel) (by decide +kernel)
set_option maxRecDepth 20000 in
theorem gL_two_L_unlike : GoodIn wsL_two (va_wsS RL 126 yL_unlike wsL_unlike) := goodIn_app (goodIn_of _ (by decide +kernel)) ggL_two_L_unlike
set_option maxRecDepth 20000 in
theorem ggL_two_L_least : GoodIn wsL_two wsL_least := goodIn_r _ [85, 58, 59, 55, 60, 53, 54, 56, 57, 61, 62, 63, 64, 65, 66, 67, 68, 69, 70, 71, 72, 73, 74, 75, 76, 77, 78, 79] (by decide +kernel) (by decide +kernel)
set_option maxRecDepth 20000 in
theorem gL_two_L_least : GoodIn wsL_two (va_wsS RL 61 yL_least wsL_least) := goodIn_app (goodIn_of _ (by decide +kernel)) ggL_two_L_least
theorem dL_two_0 : decode cL_two 0 = .ok (.aload_n 1, 1) := by decide +kernel
theorem dL_two_1 : decode cL_two 1 = .ok (.iload_n 2, 1) := by decide +kernel
theorem dL_two_2 : decode cL_two 2 = .ok (.laload, 1) := by decide +kernel
theorem dL_two_3 : decode cL_two 3 = .ok (.lconst 0, 1) := by decide +kernel
theorem dL_two_4 : decode cL_two 4 = .ok (.lcmp, 1) := by decide +kernel
theorem dL_two_5 : decode cL_two 5 = .ok (.ifCond .eq 11, 3) := by decide +kernel
theorem dL_two_8 : decode cL_two 8 = .ok (.aload_n 1, 1) := by decide +kernel
theorem dL_two_9 : decode cL_two 9 = .ok (.iload_n 3, 1) := by decide +kernel
theorem dL_two_10 : decode cL_two 10 = .ok (.laload, 1) := by decide +kernel
theorem dL_two_11 : decode cL_two 11 = .ok (.lconst 0, 1) := by decide +kernel
theorem dL_two_12 : decode cL_two 12 = .ok (.lcmp, 1) := by decide +kernel
theorem dL_two_13 : decode cL_two 13 = .ok (.ifCond .ne 31, 3) := by decide +kernel
theorem dL_two_16 : decode cL_two 16 = .ok (.aload_n 0, 1) := by decide +kernel
theorem dL_two_17 : decode cL_two 17 = .ok (.iload_n 2, 1) := by decide +kernel
theorem dL_two_18 : decode cL_two 18 = .ok (.iload_n 3, 1) := by decide +kernel
theorem dL_two_19 : decode cL_two 19 = .ok (.iload 4, 2) := by decide +kernel
theorem dL_two_21 : decode cL_two 21 = .ok (.invokevirtual 120, 3) := by decide +kernel
theorem dL_two_24 : decode cL_two 24 = .ok (.iconst (-1), 1) := by decide +kernel
theorem dL_two_25 : decode cL_two 25 = .ok (.if_icmp .ne 17, 3) := by decide +kernel
theorem dL_two_28 : decode cL_two 28 = .ok (.aload_n 0, 1) := by decide +kernel
theorem dL_two_29 : decode cL_two 29 = .ok (.iload_n 2, 1) := by decide +kernel
theorem dL_two_30 : decode cL_two 30 = .ok (.iload_n 3, 1) := by decide +kernel
theorem dL_two_31 : decode cL_two 31 = .ok (.invokevirtual 123, 3) := by decide +kernel
theorem dL_two_34 : decode cL_two 34 = .ok (.iconst (-1), 1) := by decide +kernel
theorem dL_two_35 : decode cL_two 35 = .ok (.if_icmp .ne 7, 3) := by decide +kernel
theorem dL_two_38 : decode cL_two 38 = .ok (.iconst 1, 1) := by decide +kernel
theorem dL_two_39 : decode cL_two 39 = .ok (.goto 4, 3) := by decide +kernel
theorem dL_two_42 : decode cL_two 42 = .ok (.iconst 0, 1) := by decide +kernel
theorem dL_two_43 : decode cL_two 43 = .ok (.ireturn, 1) := by decide +kernel
theorem dL_two_44 : decode cL_two 44 = .ok (.aload_n 1, 1) := by decide +kernel
theorem dL_two_45 : decode cL_two 45 = .ok (.iload_n 2, 1) := by decide +kernel
theorem dL_two_46 : decode cL_two 46 = .ok (.laload, 1) := by decide +kernel
theorem dL_two_47 : decode cL_two 47 = .ok (.invokestatic 12, 3) := by decide +kernel
theorem dL_two_50 : decode cL_two 50 = .ok (.aload_n 1, 1) := by decide +kernel
theorem dL_two_51 : decode cL_two 51 = .ok (.iload_n 3, 1) := by decide +kernel
theorem dL_two_52 : decode cL_two 52 = .ok (.laload, 1) := by decide +kernel
theorem dL_two_53 : decode cL_two 53 = .ok (.invokestatic 12, 3) := by decide +kernel
theorem dL_two_56 : decode cL_two 56 = .ok (.if_icmp .ne 7, 3) := by decide +kernel
theorem dL_two_59 : decode cL_two 59 = .ok (.iconst 1, 1) := by decide +kernel
theorem dL_two_60 : decode cL_two 60 = .ok (.goto 4, 3) := by decide +kernel
theorem dL_two_63 : decode cL_two 63 = .ok (.iconst 0, 1) := by decide +kernel
theorem dL_two_64 : decode cL_two 64 = .ok (.istore 5, 2) := by decide +kernel
theorem dL_two_66 : decode cL_two 66 = .ok (.bipush 99, 2) := by decide +kernel
theorem dL_two_68 : decode cL_two 68 = .ok (.istore 6, 2) := by decide +kernel
theorem dL_two_70 : decode cL_two 70 = .ok (.iconst 0, 1) := by decide +kernel
theorem dL_two_71 : decode cL_two 71 = .ok (.istore 7, 2) := by decide +kernel
theorem dL_two_73 : decode cL_two 73 = .ok (.iload 7, 2) := by decide +kernel
theorem dL_two_75 : decode cL_two 75 = .ok (.aload_n 1, 1) := by decide +kernel
theorem dL_two_76 : decode cL_two 76 = .ok (.iload_n 2, 1) := by decide +kernel
theorem dL_two_77 : decode cL_two 77 = .ok (.laload, 1) := by decide +kernel
theorem dL_two_78 : decode cL_two 78 = .ok (.iconst 2, 1) := by decide +kernel
theorem dL_two_79 : decode cL_two 79 = .ok (.invokestatic 39, 3) := by decide +kernel
theorem dL_two_82 : decode cL_two 82 = .ok (.if_icmp .ge 47, 3) := by decide +kernel
theorem dL_two_85 : decode cL_two 85 = .ok (.iload 5, 2) := by decide +kernel
theorem dL_two_87 : decode cL_two 87 = .ok (.ifCond .eq 42, 3) := by decide +kernel
theorem dL_two_90 : decode cL_two 90 = .ok (.aload_n 1, 1) := by decide +kernel
theorem dL_two_91 : decode cL_two 91 = .ok (.iload_n 2, 1) := by decide +kernel
theorem dL_two_92 : decode cL_two 92 = .ok (.laload, 1) := by decide +kernel
theorem dL_two_93 : decode cL_two 93 = .ok (.iconst 2, 1) := by decide +kernel
theorem dL_two_94 : decode cL_two 94 = .ok (.iload 7, 2) := by decide +kernel
theorem dL_two_96 : decode cL_two 96 = .ok (.invokestatic 42, 3) := by decide +kernel
theorem dL_two_99 : decode cL_two 99 = .ok (.aload_n 1, 1) := by decide +kernel
theorem dL_two_100 : decode cL_two 100 = .ok (.iload_n 3, 1) := by decide +kernel
theorem dL_two_101 : decode cL_two 101 = .ok (.laload, 1) := by decide +kernel
theorem dL_two_102 : decode cL_two 102 = .ok (.invokestatic 126, 3) := by decide +kernel
theorem dL_two_105 : decode cL_two 105 = .ok (.istore 8, 2) := by decide +kernel
theorem dL_two_107 : decode cL_two 107 = .ok (.iload 8, 2) := by decide +kernel
theorem dL_two_109 : decode cL_two 109 = .ok (.iload 6, 2) := by decide +kernel
theorem dL_two_111 : decode cL_two 111 = .ok (.if_icmp .ge 8, 3) := by decide +kernel
theorem dL_two_114 : decode cL_two 114 = .ok (.iload 8, 2) := by decide +kernel
theorem dL_two_116 : decode cL_two 116 = .ok (.goto 5, 3) := by decide +kernel
theorem dL_two_119 : decode cL_two 119 = .ok (.iload 6, 2) := by decide +kernel
theorem dL_two_121 : decode cL_two 121 = .ok (.istore 6, 2) := by decide +kernel
theorem dL_two_123 : decode cL_two 123 = .ok (.iinc 7 1, 3) := by decide +kernel
theorem dL_two_126 : decode cL_two 126 = .ok (.goto (-53), 3) := by decide +kernel
theorem dL_two_129 : decode cL_two 129 = .ok (.aload_n 0, 1) := by decide +kernel
theorem dL_two_130 : decode cL_two 130 = .ok (.iload_n 2, 1) := by decide +kernel
theorem dL_two_131 : decode cL_two 131 = .ok (.iload_n 3, 1) := by decide +kernel
theorem dL_two_132 : decode cL_two 132 = .ok (.iload 4, 2) := by decide +kernel
theorem dL_two_134 : decode cL_two 134 = .ok (.invokevirtual 120, 3) := by decide +kernel
theorem dL_two_137 : decode cL_two 137 = .ok (.iload 5, 2) := by decide +kernel
theorem dL_two_139 : decode cL_two 139 = .ok (.ifCond .eq 27, 3) := by decide +kernel
theorem dL_two_142 : decode cL_two 142 = .ok (.aload_n 1, 1) := by decide +kernel
theorem dL_two_143 : decode cL_two 143 = .ok (.iload_n 2, 1) := by decide +kernel
theorem dL_two_144 : decode cL_two 144 = .ok (.laload, 1) := by decide +kernel
theorem dL_two_145 : decode cL_two 145 = .ok (.iload 4, 2) := by decide +kernel
theorem dL_two_147 : decode cL_two 147 = .ok (.invokestatic 61, 3) := by decide +kernel
theorem dL_two_150 : decode cL_two 150 = .ok (.aload_n 1, 1) := by decide +kernel
theorem dL_two_151 : decode cL_two 151 = .ok (.iload_n 3, 1) := by decide +kernel
theorem dL_two_152 : decode cL_two 152 = .ok (.laload, 1) := by decide +kernel
theorem dL_two_153 : decode cL_two 153 = .ok (.iload 4, 2) := by decide +kernel
theorem dL_two_155 : decode cL_two 155 = .ok (.invokestatic 61, 3) := by decide +kernel
theorem dL_two_158 : decode cL_two 158 = .ok (.lcmp, 1) := by decide +kernel
theorem dL_two_159 : decode cL_two 159 = .ok (.ifCond .ne 7, 3) := by decide +kernel
theorem dL_two_162 : decode cL_two 162 = .ok (.iconst 1, 1) := by decide +kernel
theorem dL_two_163 : decode cL_two 163 = .ok (.goto 4, 3) := by decide +kernel
theorem dL_two_166 : decode cL_two 166 = .ok (.iconst 0, 1) := by decide +kernel
theorem dL_two_167 : decode cL_two 167 = .ok (.if_icmp .ne 28, 3) := by decide +kernel
theorem dL_two_170 : decode cL_two 170 = .ok (.aload_n 0, 1) := by decide +kernel
theorem dL_two_171 : decode cL_two 171 = .ok (.iload_n 2, 1) := by decide +kernel
theorem dL_two_172 : decode cL_two 172 = .ok (.iload_n 3, 1) := by decide +kernel
theorem dL_two_173 : decode cL_two 173 = .ok (.invokevirtual 123, 3) := by decide +kernel
theorem dL_two_176 : decode cL_two 176 = .ok (.iload 5, 2) := by decide +kernel
theorem dL_two_178 : decode cL_two 178 = .ok (.ifCond .eq 8, 3) := by decide +kernel
theorem dL_two_181 : decode cL_two 181 = .ok (.iload 6, 2) := by decide +kernel
theorem dL_two_183 : decode cL_two 183 = .ok (.goto 5, 3) := by decide +kernel
theorem dL_two_186 : decode cL_two 186 = .ok (.bipush (-6), 2) := by decide +kernel
theorem dL_two_188 : decode cL_two 188 = .ok (.if_icmp .ne 7, 3) := by decide +kernel
theorem dL_two_191 : decode cL_two 191 = .ok (.iconst 1, 1) := by decide +kernel
theorem dL_two_192 : decode cL_two 192 = .ok (.goto 4, 3) := by decide +kernel
theorem dL_two_195 : decode cL_two 195 = .ok (.iconst 0, 1) := by decide +kernel
theorem dL_two_196 : decode cL_two 196 = .ok (.ireturn, 1) := by decide +kernel
