/-! the law's calls: their words -/
set_option maxRecDepth 20000 in
theorem ggL_law_X5_init : GoodIn wsL_law wsX5_init := goodIn_r _ [8, 9, 10, 11, 12, 13, 14, 15, 16, 17, 18, 19, 20, 21, 22, 23, 24, 25, 26, 27, 28, 4, 29, 30, 31, 32, 33, 34, 35, 36, 37, 38, 39, 40, 41, 42, 43, 44, 45, 46, 47, 48, 49, 50, 51, 52, 53, 54, 55, 56, 57, 58, 458, 459, 460, 461, 462, 451, 452, 453, 454, 455, 456, 457, 463, 464, 465, 466, 467, 468, 469, 470, 471, 472, 473] (by decide +kernel) (by decide +kernel)
set_option maxRecDepth 20000 in
theorem gL_law_X5_init : GoodIn wsL_law (wsX5_init) := ggL_law_X5_init
set_option maxRecDepth 20000 in
theorem ggL_law_L_cell : GoodIn wsL_law wsL_cell := goodIn_r _ [62, 63, 64] (by decide +kernel) (by decide +kernel)
set_option maxRecDepth 20000 in
theorem gL_law_L_cell : GoodIn wsL_law (va_wsS RL 131 yL_cell wsL_cell) := goodIn_app (goodIn_of _ (by decide +kernel)) ggL_law_L_cell
set_option maxRecDepth 20000 in
theorem ggL_law_L_low : GoodIn wsL_law wsL_low := goodIn_r _ [67, 68] (by decide +kernel) (by decide +kernel)
set_option maxRecDepth 20000 in
theorem gL_law_L_low : GoodIn wsL_law (va_wsS RL 74 yL_low wsL_low) := goodIn_app (goodIn_of _ (by decide +kernel)) ggL_law_L_low
set_option maxRecDepth 20000 in
theorem ggL_law_X5_make : GoodIn wsL_law wsX5_make := goodIn_r _ [72, 25, 73, 74, 2, 75, 76, 24, 77, 78, 79, 54, 80, 81, 82, 83, 15, 84, 14, 85, 86, 29, 87, 88, 89, 90, 91, 92, 93, 94, 95, 96, 32, 97, 98, 99, 100, 101, 17, 102, 103, 104, 105, 106, 107, 108, 109, 110, 111, 112, 30, 36, 40, 113, 114, 115, 116, 117, 35, 118, 119, 120, 44, 121, 122, 39, 123, 124, 125, 49, 50, 126, 127, 128, 129, 451, 452, 453, 454, 455, 456, 457, 467, 468, 458, 459, 460, 461, 462, 469, 470, 471, 472, 473] (by decide +kernel) (by decide +kernel)
set_option maxRecDepth 20000 in
theorem gL_law_X5_make : GoodIn wsL_law (wsV RL 135 RX5 yX5_make wsX5_make) := goodIn_app (goodIn_of _ (by decide +kernel)) ggL_law_X5_make
set_option maxRecDepth 20000 in
theorem ggL_law_X5_fill : GoodIn wsL_law wsX5_fill := goodIn_r _ [133, 15, 134, 135, 2, 136, 97, 98, 99, 100, 101, 17, 102, 103, 104, 105, 106, 14, 107, 108, 29, 109, 110, 111, 112, 30, 32, 36, 40, 113, 24, 114, 115, 79, 54, 116, 117, 35, 118, 119, 120, 44, 121, 122, 39, 123, 124, 125, 49, 50, 126, 451, 452, 453, 454, 455, 456, 457, 458, 459, 460, 461, 462, 467, 468, 469, 470, 471, 472, 473] (by decide +kernel) (by decide +kernel)
set_option maxRecDepth 20000 in
theorem gL_law_X5_fill : GoodIn wsL_law (wsV RL 138 RX5 yX5_fill wsX5_fill) := goodIn_app (goodIn_of _ (by decide +kernel)) ggL_law_X5_fill
set_option maxRecDepth 20000 in
theorem ggL_law_X5_weigh : GoodIn wsL_law wsX5_weigh := goodIn_r _ [140, 15, 134, 135, 2, 136, 97, 98, 99, 100, 101, 17, 102, 103, 104, 105, 106, 14, 107, 108, 29, 109, 110, 111, 112, 30, 32, 36, 40, 113, 24, 114, 115, 79, 54, 116, 117, 35, 118, 119, 120, 44, 121, 122, 39, 123, 124, 125, 49, 50, 126, 451, 452, 453, 454, 455, 456, 457, 458, 459, 460, 461, 462, 467, 468, 469, 470, 471, 472, 473] (by decide +kernel) (by decide +kernel)
set_option maxRecDepth 20000 in
theorem gL_law_X5_weigh : GoodIn wsL_law (wsV RL 141 RX5 yX5_weigh wsX5_weigh) := goodIn_app (goodIn_of _ (by decide +kernel)) ggL_law_X5_weigh
set_option maxRecDepth 20000 in
theorem ggL_law_X5_sign : GoodIn wsL_law wsX5_sign := goodIn_r _ [144, 15, 145, 146, 2, 147, 134, 135, 136, 97, 98, 99, 100, 101, 17, 102, 103, 104, 105, 106, 14, 107, 108, 29, 109, 110, 111, 112, 30, 32, 36, 40, 113, 24, 114, 115, 79, 54, 116, 117, 35, 118, 119, 120, 44, 121, 122, 39, 123, 124, 125, 49, 50, 126, 148, 149, 150, 451, 452, 453, 454, 455, 456, 457, 458, 459, 460, 461, 462, 469, 470, 467, 468, 471, 472, 473] (by decide +kernel) (by decide +kernel)
set_option maxRecDepth 20000 in
theorem gL_law_X5_sign : GoodIn wsL_law (wsV RL 144 RX5 yX5_sign wsX5_sign) := goodIn_app (goodIn_of _ (by decide +kernel)) ggL_law_X5_sign
set_option maxRecDepth 20000 in
theorem ggL_law_X5_cutMotif : GoodIn wsL_law wsX5_cutMotif := goodIn_r _ [154, 15, 97, 98, 99, 2, 100, 101, 17, 102, 103, 104, 105, 106, 14, 107, 108, 29, 109, 110, 111, 112, 30, 32, 36, 40, 113, 24, 114, 115, 79, 54, 116, 117, 35, 118, 119, 120, 44, 121, 122, 39, 123, 124, 125, 49, 50, 126, 451, 452, 453, 454, 455, 456, 457, 458, 459, 460, 461, 462, 469, 470, 467, 468, 471, 472, 473] (by decide +kernel) (by decide +kernel)
set_option maxRecDepth 20000 in
theorem gL_law_X5_cutMotif : GoodIn wsL_law (wsV RL 147 RX5 yX5_cutMotif wsX5_cutMotif) := goodIn_app (goodIn_of _ (by decide +kernel)) ggL_law_X5_cutMotif
set_option maxRecDepth 20000 in
theorem ggL_law_X5_roll : GoodIn wsL_law wsX5_roll := goodIn_r _ [158, 15, 159, 14, 160, 161, 32, 162, 163, 2, 164, 165, 166, 167, 168, 25, 97, 98, 99, 100, 101, 17, 102, 103, 104, 105, 106, 107, 108, 29, 109, 110, 111, 112, 30, 36, 40, 113, 24, 114, 115, 79, 54, 116, 117, 35, 118, 119, 120, 44, 121, 122, 39, 123, 124, 125, 49, 50, 126, 169, 170, 171, 172, 173, 174, 175, 176, 177, 178, 179, 90, 91, 92, 93, 180, 181, 182, 451, 452, 453, 454, 455, 456, 457, 467, 468, 458, 459, 460, 461, 462, 469, 470, 471, 472, 473] (by decide +kernel) (by decide +kernel)
set_option maxRecDepth 20000 in
theorem gL_law_X5_roll : GoodIn wsL_law (wsV RL 150 RX5 yX5_roll wsX5_roll) := goodIn_app (goodIn_of _ (by decide +kernel)) ggL_law_X5_roll
set_option maxRecDepth 20000 in
theorem ggL_law_X5_note : GoodIn wsL_law wsX5_note := goodIn_r _ [186, 15, 159, 14, 160, 161, 32, 187, 39, 188, 189, 125, 49, 190, 24, 191, 192, 79, 193, 194, 195, 196, 197, 198, 199, 200, 201, 2, 202, 163, 164, 203, 169, 170, 171, 172, 173, 174, 175, 176, 177, 178, 179, 90, 91, 92, 93, 54, 97, 98, 99, 100, 101, 17, 102, 103, 104, 105, 106, 107, 108, 29, 109, 110, 111, 112, 30, 36, 40, 113, 114, 115, 116, 117, 35, 118, 119, 120, 44, 121, 122, 123, 124, 50, 126, 204, 205, 206, 451, 452, 453, 454, 455, 456, 457, 458, 459, 460, 461, 462, 467, 468, 471, 472, 473, 469, 470] (by decide +kernel) (by decide +kernel)
set_option maxRecDepth 20000 in
theorem gL_law_X5_note : GoodIn wsL_law (wsV RL 153 RX5 yX5_note wsX5_note) := goodIn_app (goodIn_of _ (by decide +kernel)) ggL_law_X5_note
set_option maxRecDepth 20000 in
theorem ggL_law_X5_copy : GoodIn wsL_law wsX5_copy := goodIn_r _ [210, 15, 159, 14, 160, 161, 32, 80, 81, 82, 2, 83, 84, 85, 86, 29, 87, 24, 88, 89, 79, 90, 91, 92, 93, 54, 94, 95, 96, 97, 98, 99, 100, 101, 17, 102, 103, 104, 105, 106, 107, 108, 109, 110, 111, 112, 30, 36, 40, 113, 114, 115, 116, 117, 35, 118, 119, 120, 44, 121, 122, 39, 123, 124, 125, 49, 50, 126, 127, 128, 129, 451, 452, 453, 454, 455, 456, 457, 458, 459, 460, 461, 462, 467, 468, 469, 470, 471, 472, 473] (by decide +kernel) (by decide +kernel)
set_option maxRecDepth 20000 in
theorem gL_law_X5_copy : GoodIn wsL_law (wsV RL 156 RX5 yX5_copy wsX5_copy) := goodIn_app (goodIn_of _ (by decide +kernel)) ggL_law_X5_copy
set_option maxRecDepth 20000 in
theorem ggL_law_X5_remove : GoodIn wsL_law wsX5_remove := goodIn_r _ [214, 15, 159, 14, 160, 161, 32, 215, 216, 217, 29, 87, 24, 88, 89, 79, 90, 91, 92, 93, 54, 97, 98, 99, 2, 100, 101, 17, 102, 103, 104, 105, 106, 107, 108, 109, 110, 111, 112, 30, 36, 40, 113, 114, 115, 116, 117, 35, 118, 119, 120, 44, 121, 122, 39, 123, 124, 125, 49, 50, 126, 218, 219, 220, 221, 222, 223, 224, 76, 77, 78, 451, 452, 453, 454, 455, 456, 457, 458, 459, 460, 461, 462, 467, 468, 469, 470, 471, 472, 473] (by decide +kernel) (by decide +kernel)
set_option maxRecDepth 20000 in
theorem gL_law_X5_remove : GoodIn wsL_law (wsV RL 159 RX5 yX5_remove wsX5_remove) := goodIn_app (goodIn_of _ (by decide +kernel)) ggL_law_X5_remove
set_option maxRecDepth 20000 in
theorem ggL_law_X5_hang : GoodIn wsL_law wsX5_hang := goodIn_r _ [228, 15, 159, 14, 160, 161, 32, 229, 24, 230, 231, 79, 134, 135, 2, 136, 91, 92, 93, 54, 97, 98, 99, 100, 101, 17, 102, 103, 104, 105, 106, 107, 108, 29, 109, 110, 111, 112, 30, 36, 40, 113, 114, 115, 116, 117, 35, 118, 119, 120, 44, 121, 122, 39, 123, 124, 125, 49, 50, 126, 180, 181, 182, 451, 452, 453, 454, 455, 456, 457, 458, 459, 460, 461, 462, 467, 468, 469, 470, 471, 472, 473] (by decide +kernel) (by decide +kernel)
set_option maxRecDepth 20000 in
theorem gL_law_X5_hang : GoodIn wsL_law (wsV RL 162 RX5 yX5_hang wsX5_hang) := goodIn_app (goodIn_of _ (by decide +kernel)) ggL_law_X5_hang
set_option maxRecDepth 20000 in
theorem ggL_law_L_enough : GoodIn wsL_law wsL_enough := goodIn_r _ [234, 235, 236, 61, 237, 238, 239, 240, 5, 241, 242, 243] (by decide +kernel) (by decide +kernel)
set_option maxRecDepth 20000 in
theorem gL_law_L_enough : GoodIn wsL_law (va_wsS RL 165 yL_enough wsL_enough) := goodIn_app (goodIn_of _ (by decide +kernel)) ggL_law_L_enough
set_option maxRecDepth 20000 in
theorem ggL_law_L_charms : GoodIn wsL_law wsL_charms := goodIn_r _ [237, 238, 239, 61, 240, 5, 241, 242, 243] (by decide +kernel) (by decide +kernel)
set_option maxRecDepth 20000 in
theorem gL_law_L_charms : GoodIn wsL_law (va_wsS RL 49 yL_charms wsL_charms) := goodIn_app (goodIn_of _ (by decide +kernel)) ggL_law_L_charms
set_option maxRecDepth 20000 in
theorem ggL_law_L_room : GoodIn wsL_law wsL_room := goodIn_r _ [246, 235, 236, 61, 237, 238, 239, 240, 5, 241, 242, 243] (by decide +kernel) (by decide +kernel)
set_option maxRecDepth 20000 in
theorem gL_law_L_room : GoodIn wsL_law (va_wsS RL 169 yL_room wsL_room) := goodIn_app (goodIn_of _ (by decide +kernel)) ggL_law_L_room
set_option maxRecDepth 20000 in
theorem ggL_law_L_slots : GoodIn wsL_law wsL_slots := goodIn_r _ [240, 5] (by decide +kernel) (by decide +kernel)
set_option maxRecDepth 20000 in
theorem gL_law_L_slots : GoodIn wsL_law (va_wsS RL 12 yL_slots wsL_slots) := goodIn_app (goodIn_of _ (by decide +kernel)) ggL_law_L_slots
set_option maxRecDepth 20000 in
theorem ggL_law_L_kind : GoodIn wsL_law wsL_kind := goodIn_r _ [243, 238, 239, 61, 240, 5] (by decide +kernel) (by decide +kernel)
set_option maxRecDepth 20000 in
theorem gL_law_L_kind : GoodIn wsL_law (va_wsS RL 24 yL_kind wsL_kind) := goodIn_app (goodIn_of _ (by decide +kernel)) ggL_law_L_kind
set_option maxRecDepth 20000 in
theorem ggL_law_L_lay : GoodIn wsL_law wsL_lay := goodIn_r _ [249, 5, 250, 238, 239, 61, 240] (by decide +kernel) (by decide +kernel)
set_option maxRecDepth 20000 in
theorem gL_law_L_lay : GoodIn wsL_law (va_wsS RL 28 yL_lay wsL_lay) := goodIn_app (goodIn_of _ (by decide +kernel)) ggL_law_L_lay
set_option maxRecDepth 20000 in
theorem ggL_law_X5_takeOff : GoodIn wsL_law wsX5_takeOff := goodIn_r _ [254, 15, 159, 14, 160, 161, 32, 229, 24, 230, 231, 79, 91, 92, 93, 54, 134, 135, 2, 136, 97, 98, 99, 100, 101, 17, 102, 103, 104, 105, 106, 107, 108, 29, 109, 110, 111, 112, 30, 36, 40, 113, 114, 115, 116, 117, 35, 118, 119, 120, 44, 121, 122, 39, 123, 124, 125, 49, 50, 126, 180, 181, 182, 451, 452, 453, 454, 455, 456, 457, 458, 459, 460, 461, 462, 467, 468, 469, 470, 471, 472, 473] (by decide +kernel) (by decide +kernel)
set_option maxRecDepth 20000 in
theorem gL_law_X5_takeOff : GoodIn wsL_law (wsV RL 172 RX5 yX5_takeOff wsX5_takeOff) := goodIn_app (goodIn_of _ (by decide +kernel)) ggL_law_X5_takeOff
set_option maxRecDepth 20000 in
theorem ggL_law_X5_swap : GoodIn wsL_law wsX5_swap := goodIn_r _ [258, 15, 159, 14, 160, 161, 32, 229, 24, 230, 231, 79, 97, 98, 99, 2, 100, 101, 17, 102, 103, 104, 105, 106, 107, 108, 29, 109, 110, 111, 112, 30, 36, 40, 113, 114, 115, 54, 116, 117, 35, 118, 119, 120, 44, 121, 122, 39, 123, 124, 125, 49, 50, 126, 259, 260, 261, 90, 91, 92, 93, 262, 180, 181, 182, 263, 264, 265, 266, 267, 199, 268, 269, 270, 271, 272, 273, 274, 275, 276, 135, 136, 451, 452, 453, 454, 455, 456, 457, 458, 459, 460, 461, 462, 467, 468, 469, 470, 471, 472, 473] (by decide +kernel) (by decide +kernel)
set_option maxRecDepth 20000 in
theorem gL_law_X5_swap : GoodIn wsL_law (wsV RL 175 RX5 yX5_swap wsX5_swap) := goodIn_app (goodIn_of _ (by decide +kernel)) ggL_law_X5_swap
set_option maxRecDepth 20000 in
theorem ggL_law_L_lean : GoodIn wsL_law wsL_lean := goodIn_r _ [279, 238, 239, 61, 240, 5, 280, 281, 282, 241, 242, 243] (by decide +kernel) (by decide +kernel)
set_option maxRecDepth 20000 in
theorem gL_law_L_lean : GoodIn wsL_law (va_wsS RL 93 yL_lean wsL_lean) := goodIn_app (goodIn_of _ (by decide +kernel)) ggL_law_L_lean
set_option maxRecDepth 20000 in
theorem ggL_law_L_rolledBy : GoodIn wsL_law wsL_rolledBy := goodIn_r _ [285, 286, 287, 61, 288, 5, 238, 239, 240] (by decide +kernel) (by decide +kernel)
set_option maxRecDepth 20000 in
theorem gL_law_L_rolledBy : GoodIn wsL_law (va_wsS RL 35 yL_rolledBy wsL_rolledBy) := goodIn_app (goodIn_of _ (by decide +kernel)) ggL_law_L_rolledBy
set_option maxRecDepth 20000 in
theorem ggL_law_L_mirrored : GoodIn wsL_law wsL_mirrored := goodIn_r _ [291, 238, 239, 61, 240, 5, 241, 242, 243, 247, 248, 249, 250] (by decide +kernel) (by decide +kernel)
set_option maxRecDepth 20000 in
theorem gL_law_L_mirrored : GoodIn wsL_law (va_wsS RL 32 yL_mirrored wsL_mirrored) := goodIn_app (goodIn_of _ (by decide +kernel)) ggL_law_L_mirrored
set_option maxRecDepth 20000 in
theorem ggL_law_L_unlike : GoodIn wsL_law wsL_unlike := goodIn_r _ [294, 238, 239, 61, 240, 5, 241, 242, 243] (by decide +kernel) (by decide +kernel)
set_option maxRecDepth 20000 in
theorem gL_law_L_unlike : GoodIn wsL_law (va_wsS RL 126 yL_unlike wsL_unlike) := goodIn_app (goodIn_of _ (by decide +kernel)) ggL_law_L_unlike
set_option maxRecDepth 20000 in
theorem ggL_law_X5_turn : GoodIn wsL_law wsX5_turn := goodIn_r _ [298, 15, 159, 14, 160, 161, 32, 162, 163, 2, 164, 165, 166, 167, 168, 25, 97, 98, 99, 100, 101, 17, 102, 103, 104, 105, 106, 107, 108, 29, 109, 110, 111, 112, 30, 36, 40, 113, 24, 114, 115, 79, 54, 116, 117, 35, 118, 119, 120, 44, 121, 122, 39, 123, 124, 125, 49, 50, 126, 169, 170, 171, 172, 173, 174, 175, 176, 177, 178, 179, 90, 91, 92, 93, 180, 181, 182, 451, 452, 453, 454, 455, 456, 457, 467, 468, 458, 459, 460, 461, 462, 469, 470, 471, 472, 473] (by decide +kernel) (by decide +kernel)
set_option maxRecDepth 20000 in
theorem gL_law_X5_turn : GoodIn wsL_law (wsV RL 178 RX5 yX5_turn wsX5_turn) := goodIn_app (goodIn_of _ (by decide +kernel)) ggL_law_X5_turn
set_option maxRecDepth 20000 in
theorem ggL_law_X5_mirror : GoodIn wsL_law wsX5_mirror := goodIn_r _ [302, 15, 159, 14, 160, 161, 32, 165, 166, 167, 2, 168, 25, 97, 98, 99, 100, 101, 17, 102, 103, 104, 105, 106, 107, 108, 29, 109, 110, 111, 112, 30, 36, 40, 113, 24, 114, 115, 79, 54, 116, 117, 35, 118, 119, 120, 44, 121, 122, 39, 123, 124, 125, 49, 50, 126, 169, 170, 171, 172, 173, 174, 175, 176, 177, 178, 179, 90, 91, 92, 93, 180, 181, 182, 451, 452, 453, 454, 455, 456, 457, 467, 468, 458, 459, 460, 461, 462, 469, 470, 471, 472, 473] (by decide +kernel) (by decide +kernel)
set_option maxRecDepth 20000 in
theorem gL_law_X5_mirror : GoodIn wsL_law (wsV RL 181 RX5 yX5_mirror wsX5_mirror) := goodIn_app (goodIn_of _ (by decide +kernel)) ggL_law_X5_mirror
set_option maxRecDepth 20000 in
theorem ggL_law_L_least : GoodIn wsL_law wsL_least := goodIn_r _ [305, 306, 307, 61, 308, 238, 239, 240, 5, 309, 310, 311, 289, 290, 291, 241, 242, 243, 247, 248, 249, 250, 283, 284, 285, 286, 287, 288] (by decide +kernel) (by decide +kernel)
set_option maxRecDepth 20000 in
theorem gL_law_L_least : GoodIn wsL_law (va_wsS RL 61 yL_least wsL_least) := goodIn_app (goodIn_of _ (by decide +kernel)) ggL_law_L_least
set_option maxRecDepth 20000 in
theorem ggL_law_X5_setMotif : GoodIn wsL_law wsX5_setMotif := goodIn_r _ [315, 15, 159, 14, 160, 161, 32, 229, 24, 230, 231, 79, 97, 98, 99, 2, 100, 101, 17, 102, 103, 104, 105, 106, 107, 108, 29, 109, 110, 111, 112, 30, 36, 40, 113, 114, 115, 54, 116, 117, 35, 118, 119, 120, 44, 121, 122, 39, 123, 124, 125, 49, 50, 126, 316, 317, 318, 201, 202, 163, 164, 319, 320, 321, 322, 172, 173, 174, 175, 176, 177, 178, 179, 90, 91, 92, 93, 323, 324, 325, 148, 149, 150, 326, 327, 328, 329, 330, 331, 332, 333, 334, 335, 336, 337, 338, 339, 451, 452, 453, 454, 455, 456, 457, 467, 468, 458, 459, 460, 461, 462, 469, 470, 471, 472, 473] (by decide +kernel) (by decide +kernel)
set_option maxRecDepth 20000 in
theorem gL_law_X5_setMotif : GoodIn wsL_law (wsV RL 184 RX5 yX5_setMotif wsX5_setMotif) := goodIn_app (goodIn_of _ (by decide +kernel)) ggL_law_X5_setMotif
set_option maxRecDepth 20000 in
theorem ggL_law_L_places : GoodIn wsL_law wsL_places := goodIn_r _ [342, 238, 239, 61, 240, 5, 241, 242, 243] (by decide +kernel) (by decide +kernel)
set_option maxRecDepth 20000 in
theorem gL_law_L_places : GoodIn wsL_law (va_wsS RL 77 yL_places wsL_places) := goodIn_app (goodIn_of _ (by decide +kernel)) ggL_law_L_places
set_option maxRecDepth 20000 in
theorem ggL_law_L_ones : GoodIn wsL_law wsL_ones := goodIn_r _ [345] (by decide +kernel) (by decide +kernel)
set_option maxRecDepth 20000 in
theorem gL_law_L_ones : GoodIn wsL_law (va_wsS RL 114 yL_ones wsL_ones) := goodIn_app (goodIn_of _ (by decide +kernel)) ggL_law_L_ones
set_option maxRecDepth 20000 in
theorem ggL_law_L_box : GoodIn wsL_law wsL_box := goodIn_r _ [348, 235, 236, 61, 237, 238, 239, 240, 5, 241, 242, 243, 349, 350, 351, 2, 352, 15, 134, 135, 136, 353, 14, 354, 355, 32, 87, 24, 88, 89, 79, 90, 91, 92, 93, 54, 356, 357, 358, 359, 303, 304, 305, 306, 307, 308, 309, 310, 311, 289, 290, 291, 247, 248, 249, 250, 283, 284, 285, 286, 287, 288, 360, 361, 362, 363, 364, 365, 366, 190, 191, 192, 193, 194, 195, 196, 197, 198, 199, 200, 201, 202, 163, 164, 203, 169, 170, 171, 172, 173, 174, 175, 176, 177, 178, 179, 367, 368, 369, 370, 371, 372, 373, 374, 375, 376, 377, 451, 452, 453, 454, 455, 456, 457, 458, 459, 460, 461, 462, 467, 468, 469, 470, 471, 472, 473] (by decide +kernel) (by decide +kernel)
set_option maxRecDepth 20000 in
theorem gL_law_L_box : GoodIn wsL_law (va_wsS RL 187 yL_box wsL_box) := goodIn_app (goodIn_of _ (by decide +kernel)) ggL_law_L_box
set_option maxRecDepth 20000 in
theorem ggL_law_L_ring : GoodIn wsL_law wsL_ring := goodIn_r _ [380, 238, 239, 61, 240, 5, 65, 66, 67, 68, 303, 304, 305, 306, 307, 308, 309, 310, 311, 289, 290, 291, 241, 242, 243, 247, 248, 249, 250, 283, 284, 285, 286, 287, 288, 340, 341, 342, 381, 382, 383, 2, 384, 15, 159, 14, 160, 161, 32, 229, 24, 230, 231, 79, 91, 92, 93, 54, 385, 386, 387, 388, 389, 390, 391, 316, 317, 318, 201, 202, 163, 164, 319, 320, 321, 322, 172, 173, 174, 175, 176, 177, 178, 179, 90, 392, 393, 394, 395, 270, 271, 272, 273, 274, 275, 276, 30, 135, 136, 280, 281, 282, 396, 397, 398, 399, 218, 219, 220, 221, 87, 88, 89, 263, 264, 265, 266, 267, 199, 268, 269, 235, 236, 237, 277, 278, 279, 400, 401, 402, 403, 404, 405, 406, 203, 169, 170, 171, 407, 408, 409, 410, 411, 412, 413, 162, 414, 415, 416, 417, 326, 35, 327, 328, 329, 330, 331, 332, 120, 44, 418, 419, 420, 421, 422, 423, 424, 425, 426, 427, 428, 25, 145, 146, 147, 134, 113, 114, 115, 116, 110, 111, 112, 180, 181, 182, 333, 334, 335, 336, 337, 338, 339, 343, 344, 345, 451, 452, 453, 454, 455, 456, 457, 458, 459, 460, 461, 462, 467, 468, 469, 470] (by decide +kernel) (by decide +kernel)
set_option maxRecDepth 20000 in
theorem gL_law_L_ring : GoodIn wsL_law (va_wsS RL 191 yL_ring wsL_ring) := goodIn_app (goodIn_of _ (by decide +kernel)) ggL_law_L_ring
set_option maxRecDepth 20000 in
theorem ggL_law_L_two : GoodIn wsL_law wsL_two := goodIn_r _ [431, 432, 433, 434, 2, 435, 15, 159, 14, 160, 161, 32, 389, 390, 391, 190, 24, 191, 192, 79, 193, 194, 195, 196, 197, 198, 199, 200, 201, 202, 163, 164, 203, 169, 170, 171, 172, 173, 174, 175, 176, 177, 178, 179, 90, 91, 92, 93, 54, 436, 437, 438, 439, 238, 239, 61, 240, 5, 306, 307, 308, 309, 310, 311, 289, 290, 291, 241, 242, 243, 247, 248, 249, 250, 283, 284, 285, 286, 287, 288, 292, 293, 294, 303, 304, 305, 451, 452, 453, 454, 455, 456, 457, 458, 459, 460, 461, 462, 467, 468] (by decide +kernel) (by decide +kernel)
set_option maxRecDepth 20000 in
theorem gL_law_L_two : GoodIn wsL_law (va_wsS RL 195 yL_two wsL_two) := goodIn_app (goodIn_of _ (by decide +kernel)) ggL_law_L_two
set_option maxRecDepth 20000 in
theorem ggL_law_L_best : GoodIn wsL_law wsL_best := goodIn_r _ [442, 277, 278, 61, 279, 238, 239, 240, 5, 280, 281, 282, 241, 242, 243, 247, 248, 249, 250, 443, 444, 445, 2, 446, 15, 25, 159, 14, 160, 161, 32, 113, 24, 114, 115, 79, 54, 116, 110, 111, 112, 263, 264, 265, 266, 267, 199, 268, 269, 270, 271, 272, 273, 274, 275, 276, 30, 91, 92, 93, 135, 136, 447, 448, 449, 450, 259, 260, 261, 90, 262, 180, 181, 182, 451, 452, 453, 454, 455, 456, 457, 467, 468, 458, 459, 460, 461, 462] (by decide +kernel) (by decide +kernel)
set_option maxRecDepth 20000 in
theorem gL_law_L_best : GoodIn wsL_law (va_wsS RL 199 yL_best wsL_best) := goodIn_app (goodIn_of _ (by decide +kernel)) ggL_law_L_best
