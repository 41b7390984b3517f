/-! the law's calls of the class: their words -/
set_option maxRecDepth 20000 in
theorem ggL_law_X5_init : GoodIn wsL_law wsX5_init := goodIn_r _ [8, 9, 10, 11, 12, 13, 14, 15, 16, 17, 18, 19, 20, 21, 22, 23, 24, 25, 26, 27, 28, 29, 30, 31, 32, 33, 34, 35, 36, 37, 38, 39, 40, 41, 42, 43, 44, 45, 46, 47, 48, 49, 50, 51, 52, 53, 54, 55, 56, 57, 58, 59, 769, 770, 771, 772, 773, 751, 752, 753, 754, 755, 756, 757, 774, 775, 776, 777, 778, 779, 780, 781, 782, 783, 784] (by decide +kernel) (by decide +kernel)
set_option maxRecDepth 20000 in
theorem gL_law_X5_init : GoodIn wsL_law (wsX5_init) := ggL_law_X5_init
set_option maxRecDepth 20000 in
theorem ggL_law_X5_fill : GoodIn wsL_law wsX5_fill := goodIn_r _ [74, 15, 75, 76, 2, 77, 78, 79, 80, 81, 82, 17, 83, 84, 85, 86, 87, 14, 88, 89, 30, 90, 91, 92, 93, 31, 33, 37, 41, 94, 24, 95, 96, 97, 55, 98, 99, 36, 100, 101, 102, 45, 103, 104, 40, 105, 106, 107, 50, 51, 108, 751, 752, 753, 754, 755, 756, 757, 769, 770, 771, 772, 773, 778, 779, 780, 781, 782, 783, 784] (by decide +kernel) (by decide +kernel)
set_option maxRecDepth 20000 in
theorem gL_law_X5_fill : GoodIn wsL_law (wsV RL 13 RX5 yX5_fill wsX5_fill) := goodIn_app (goodIn_of _ (by decide +kernel)) ggL_law_X5_fill
set_option maxRecDepth 20000 in
theorem ggL_law_X5_weigh : GoodIn wsL_law wsX5_weigh := goodIn_r _ [127, 15, 75, 76, 2, 77, 78, 79, 80, 81, 82, 17, 83, 84, 85, 86, 87, 14, 88, 89, 30, 90, 91, 92, 93, 31, 33, 37, 41, 94, 24, 95, 96, 97, 55, 98, 99, 36, 100, 101, 102, 45, 103, 104, 40, 105, 106, 107, 50, 51, 108, 751, 752, 753, 754, 755, 756, 757, 769, 770, 771, 772, 773, 778, 779, 780, 781, 782, 783, 784] (by decide +kernel) (by decide +kernel)
set_option maxRecDepth 20000 in
theorem gL_law_X5_weigh : GoodIn wsL_law (wsV RL 18 RX5 yX5_weigh wsX5_weigh) := goodIn_app (goodIn_of _ (by decide +kernel)) ggL_law_X5_weigh
set_option maxRecDepth 20000 in
theorem ggL_law_X5_kind : GoodIn wsL_law wsX5_kind := goodIn_r _ [135, 15, 75, 76, 2, 77, 136, 14, 137, 138, 33, 139, 24, 140, 141, 97, 142, 143, 144, 145, 55, 751, 752, 753, 754, 755, 756, 757, 769, 770, 771, 772, 773, 778, 779] (by decide +kernel) (by decide +kernel)
set_option maxRecDepth 20000 in
theorem gL_law_X5_kind : GoodIn wsL_law (wsV RL 22 RX5 yX5_kind wsX5_kind) := goodIn_app (goodIn_of _ (by decide +kernel)) ggL_law_X5_kind
set_option maxRecDepth 20000 in
theorem ggL_law_X5_make : GoodIn wsL_law wsX5_make := goodIn_r _ [165, 25, 166, 167, 2, 168, 169, 24, 170, 171, 97, 55, 172, 173, 174, 175, 15, 176, 14, 177, 178, 30, 139, 140, 141, 142, 143, 144, 145, 179, 180, 181, 33, 78, 79, 80, 81, 82, 17, 83, 84, 85, 86, 87, 88, 89, 90, 91, 92, 93, 31, 37, 41, 94, 95, 96, 98, 99, 36, 100, 101, 102, 45, 103, 104, 40, 105, 106, 107, 50, 51, 108, 182, 183, 184, 751, 752, 753, 754, 755, 756, 757, 778, 779, 769, 770, 771, 772, 773, 780, 781, 782, 783, 784] (by decide +kernel) (by decide +kernel)
set_option maxRecDepth 20000 in
theorem gL_law_X5_make : GoodIn wsL_law (wsV RL 26 RX5 yX5_make wsX5_make) := goodIn_app (goodIn_of _ (by decide +kernel)) ggL_law_X5_make
set_option maxRecDepth 20000 in
theorem ggL_law_X5_copy : GoodIn wsL_law wsX5_copy := goodIn_r _ [203, 15, 204, 14, 205, 206, 33, 172, 173, 174, 2, 175, 176, 177, 178, 30, 139, 24, 140, 141, 97, 142, 143, 144, 145, 55, 179, 180, 181, 78, 79, 80, 81, 82, 17, 83, 84, 85, 86, 87, 88, 89, 90, 91, 92, 93, 31, 37, 41, 94, 95, 96, 98, 99, 36, 100, 101, 102, 45, 103, 104, 40, 105, 106, 107, 50, 51, 108, 182, 183, 184, 751, 752, 753, 754, 755, 756, 757, 769, 770, 771, 772, 773, 778, 779, 780, 781, 782, 783, 784] (by decide +kernel) (by decide +kernel)
set_option maxRecDepth 20000 in
theorem gL_law_X5_copy : GoodIn wsL_law (wsV RL 31 RX5 yX5_copy wsX5_copy) := goodIn_app (goodIn_of _ (by decide +kernel)) ggL_law_X5_copy
set_option maxRecDepth 20000 in
theorem ggL_law_X5_remove : GoodIn wsL_law wsX5_remove := goodIn_r _ [222, 15, 204, 14, 205, 206, 33, 223, 224, 225, 30, 139, 24, 140, 141, 97, 142, 143, 144, 145, 55, 78, 79, 80, 2, 81, 82, 17, 83, 84, 85, 86, 87, 88, 89, 90, 91, 92, 93, 31, 37, 41, 94, 95, 96, 98, 99, 36, 100, 101, 102, 45, 103, 104, 40, 105, 106, 107, 50, 51, 108, 226, 227, 228, 229, 230, 231, 232, 169, 170, 171, 751, 752, 753, 754, 755, 756, 757, 769, 770, 771, 772, 773, 778, 779, 780, 781, 782, 783, 784] (by decide +kernel) (by decide +kernel)
set_option maxRecDepth 20000 in
theorem gL_law_X5_remove : GoodIn wsL_law (wsV RL 35 RX5 yX5_remove wsX5_remove) := goodIn_app (goodIn_of _ (by decide +kernel)) ggL_law_X5_remove
set_option maxRecDepth 20000 in
theorem ggL_law_X5_hang : GoodIn wsL_law wsX5_hang := goodIn_r _ [244, 15, 204, 14, 205, 206, 33, 245, 24, 246, 247, 97, 75, 76, 2, 77, 143, 144, 145, 55, 78, 79, 80, 81, 82, 17, 83, 84, 85, 86, 87, 88, 89, 30, 90, 91, 92, 93, 31, 37, 41, 94, 95, 96, 98, 99, 36, 100, 101, 102, 45, 103, 104, 40, 105, 106, 107, 50, 51, 108, 248, 249, 250, 751, 752, 753, 754, 755, 756, 757, 769, 770, 771, 772, 773, 778, 779, 780, 781, 782, 783, 784] (by decide +kernel) (by decide +kernel)
set_option maxRecDepth 20000 in
theorem gL_law_X5_hang : GoodIn wsL_law (wsV RL 39 RX5 yX5_hang wsX5_hang) := goodIn_app (goodIn_of _ (by decide +kernel)) ggL_law_X5_hang
set_option maxRecDepth 20000 in
theorem ggL_law_X5_takeOff : GoodIn wsL_law wsX5_takeOff := goodIn_r _ [262, 15, 204, 14, 205, 206, 33, 245, 24, 246, 247, 97, 143, 144, 145, 55, 75, 76, 2, 77, 78, 79, 80, 81, 82, 17, 83, 84, 85, 86, 87, 88, 89, 30, 90, 91, 92, 93, 31, 37, 41, 94, 95, 96, 98, 99, 36, 100, 101, 102, 45, 103, 104, 40, 105, 106, 107, 50, 51, 108, 248, 249, 250, 751, 752, 753, 754, 755, 756, 757, 769, 770, 771, 772, 773, 778, 779, 780, 781, 782, 783, 784] (by decide +kernel) (by decide +kernel)
set_option maxRecDepth 20000 in
theorem gL_law_X5_takeOff : GoodIn wsL_law (wsV RL 44 RX5 yX5_takeOff wsX5_takeOff) := goodIn_app (goodIn_of _ (by decide +kernel)) ggL_law_X5_takeOff
set_option maxRecDepth 20000 in
theorem ggL_law_X5_swap : GoodIn wsL_law wsX5_swap := goodIn_r _ [270, 15, 204, 14, 205, 206, 33, 245, 24, 246, 247, 97, 78, 79, 80, 2, 81, 82, 17, 83, 84, 85, 86, 87, 88, 89, 30, 90, 91, 92, 93, 31, 37, 41, 94, 95, 96, 55, 98, 99, 36, 100, 101, 102, 45, 103, 104, 40, 105, 106, 107, 50, 51, 108, 271, 272, 273, 142, 143, 144, 145, 274, 248, 249, 250, 275, 276, 277, 278, 279, 280, 281, 282, 283, 284, 285, 286, 287, 288, 289, 76, 77, 751, 752, 753, 754, 755, 756, 757, 769, 770, 771, 772, 773, 778, 779, 780, 781, 782, 783, 784] (by decide +kernel) (by decide +kernel)
set_option maxRecDepth 20000 in
theorem gL_law_X5_swap : GoodIn wsL_law (wsV RL 48 RX5 yX5_swap wsX5_swap) := goodIn_app (goodIn_of _ (by decide +kernel)) ggL_law_X5_swap
set_option maxRecDepth 20000 in
theorem ggL_law_X5_roll : GoodIn wsL_law wsX5_roll := goodIn_r _ [316, 15, 204, 14, 205, 206, 33, 317, 318, 2, 319, 320, 321, 322, 323, 25, 78, 79, 80, 81, 82, 17, 83, 84, 85, 86, 87, 88, 89, 30, 90, 91, 92, 93, 31, 37, 41, 94, 24, 95, 96, 97, 55, 98, 99, 36, 100, 101, 102, 45, 103, 104, 40, 105, 106, 107, 50, 51, 108, 324, 325, 326, 327, 328, 329, 330, 331, 332, 333, 334, 142, 143, 144, 145, 248, 249, 250, 751, 752, 753, 754, 755, 756, 757, 778, 779, 769, 770, 771, 772, 773, 780, 781, 782, 783, 784] (by decide +kernel) (by decide +kernel)
set_option maxRecDepth 20000 in
theorem gL_law_X5_roll : GoodIn wsL_law (wsV RL 52 RX5 yX5_roll wsX5_roll) := goodIn_app (goodIn_of _ (by decide +kernel)) ggL_law_X5_roll
set_option maxRecDepth 20000 in
theorem ggL_law_X5_turn : GoodIn wsL_law wsX5_turn := goodIn_r _ [350, 15, 204, 14, 205, 206, 33, 317, 318, 2, 319, 320, 321, 322, 323, 25, 78, 79, 80, 81, 82, 17, 83, 84, 85, 86, 87, 88, 89, 30, 90, 91, 92, 93, 31, 37, 41, 94, 24, 95, 96, 97, 55, 98, 99, 36, 100, 101, 102, 45, 103, 104, 40, 105, 106, 107, 50, 51, 108, 324, 325, 326, 327, 328, 329, 330, 331, 332, 333, 334, 142, 143, 144, 145, 248, 249, 250, 751, 752, 753, 754, 755, 756, 757, 778, 779, 769, 770, 771, 772, 773, 780, 781, 782, 783, 784] (by decide +kernel) (by decide +kernel)
set_option maxRecDepth 20000 in
theorem gL_law_X5_turn : GoodIn wsL_law (wsV RL 56 RX5 yX5_turn wsX5_turn) := goodIn_app (goodIn_of _ (by decide +kernel)) ggL_law_X5_turn
set_option maxRecDepth 20000 in
theorem ggL_law_X5_mirror : GoodIn wsL_law wsX5_mirror := goodIn_r _ [358, 15, 204, 14, 205, 206, 33, 320, 321, 322, 2, 323, 25, 78, 79, 80, 81, 82, 17, 83, 84, 85, 86, 87, 88, 89, 30, 90, 91, 92, 93, 31, 37, 41, 94, 24, 95, 96, 97, 55, 98, 99, 36, 100, 101, 102, 45, 103, 104, 40, 105, 106, 107, 50, 51, 108, 324, 325, 326, 327, 328, 329, 330, 331, 332, 333, 334, 142, 143, 144, 145, 248, 249, 250, 751, 752, 753, 754, 755, 756, 757, 778, 779, 769, 770, 771, 772, 773, 780, 781, 782, 783, 784] (by decide +kernel) (by decide +kernel)
set_option maxRecDepth 20000 in
theorem gL_law_X5_mirror : GoodIn wsL_law (wsV RL 60 RX5 yX5_mirror wsX5_mirror) := goodIn_app (goodIn_of _ (by decide +kernel)) ggL_law_X5_mirror
set_option maxRecDepth 20000 in
theorem ggL_law_X5_bracelets : GoodIn wsL_law wsX5_bracelets := goodIn_r _ [366, 15, 367, 14, 368, 369, 33, 751, 752, 753, 754, 755, 756, 757, 769, 770, 771, 772, 773, 778, 779] (by decide +kernel) (by decide +kernel)
set_option maxRecDepth 20000 in
theorem gL_law_X5_bracelets : GoodIn wsL_law (wsV RL 64 RX5 yX5_bracelets wsX5_bracelets) := goodIn_app (goodIn_of _ (by decide +kernel)) ggL_law_X5_bracelets
set_option maxRecDepth 20000 in
theorem ggL_law_X5_bracelet : GoodIn wsL_law wsX5_bracelet := goodIn_r _ [377, 15, 204, 14, 205, 206, 33, 226, 24, 227, 228, 97, 229, 139, 140, 141, 142, 143, 144, 145, 55, 287, 288, 289, 31, 76, 2, 77, 275, 276, 277, 278, 279, 280, 281, 282, 283, 284, 285, 286, 751, 752, 753, 754, 755, 756, 757, 778, 779, 769, 770, 771, 772, 773] (by decide +kernel) (by decide +kernel)
set_option maxRecDepth 20000 in
theorem gL_law_X5_bracelet : GoodIn wsL_law (wsV RL 69 RX5 yX5_bracelet wsX5_bracelet) := goodIn_app (goodIn_of _ (by decide +kernel)) ggL_law_X5_bracelet
set_option maxRecDepth 20000 in
theorem ggL_law_X5_slot : GoodIn wsL_law wsX5_slot := goodIn_r _ [389, 15, 204, 14, 205, 206, 33, 245, 24, 246, 247, 97, 143, 144, 145, 55, 751, 752, 753, 754, 755, 756, 757, 769, 770, 771, 772, 773, 778, 779] (by decide +kernel) (by decide +kernel)
set_option maxRecDepth 20000 in
theorem gL_law_X5_slot : GoodIn wsL_law (wsV RL 73 RX5 yX5_slot wsX5_slot) := goodIn_app (goodIn_of _ (by decide +kernel)) ggL_law_X5_slot
set_option maxRecDepth 20000 in
theorem ggL_law_X5_quarter : GoodIn wsL_law wsX5_quarter := goodIn_r _ [397, 15, 204, 14, 205, 206, 33, 283, 284, 285, 286, 287, 288, 289, 31, 143, 24, 144, 145, 55, 76, 2, 77, 751, 752, 753, 754, 755, 756, 757, 769, 770, 771, 772, 773, 778, 779] (by decide +kernel) (by decide +kernel)
set_option maxRecDepth 20000 in
theorem gL_law_X5_quarter : GoodIn wsL_law (wsV RL 77 RX5 yX5_quarter wsX5_quarter) := goodIn_app (goodIn_of _ (by decide +kernel)) ggL_law_X5_quarter
set_option maxRecDepth 20000 in
theorem ggL_law_X5_alike : GoodIn wsL_law wsX5_alike := goodIn_r _ [405, 15, 204, 14, 205, 206, 33, 406, 407, 2, 408, 409, 24, 410, 411, 97, 412, 413, 414, 415, 416, 417, 280, 418, 419, 420, 318, 319, 421, 324, 325, 326, 327, 328, 329, 330, 331, 332, 333, 334, 142, 143, 144, 145, 55, 751, 752, 753, 754, 755, 756, 757, 769, 770, 771, 772, 773, 778, 779] (by decide +kernel) (by decide +kernel)
set_option maxRecDepth 20000 in
theorem gL_law_X5_alike : GoodIn wsL_law (wsV RL 81 RX5 yX5_alike wsX5_alike) := goodIn_app (goodIn_of _ (by decide +kernel)) ggL_law_X5_alike
set_option maxRecDepth 20000 in
theorem ggL_law_X5_least : GoodIn wsL_law wsX5_least := goodIn_r _ [443, 15, 204, 14, 205, 206, 33, 245, 24, 246, 247, 97, 406, 407, 2, 408, 444, 445, 446, 419, 420, 318, 319, 447, 448, 449, 450, 327, 328, 329, 330, 331, 332, 333, 334, 142, 143, 144, 145, 55, 751, 752, 753, 754, 755, 756, 757, 769, 770, 771, 772, 773, 778, 779] (by decide +kernel) (by decide +kernel)
set_option maxRecDepth 20000 in
theorem gL_law_X5_least : GoodIn wsL_law (wsV RL 85 RX5 yX5_least wsX5_least) := goodIn_app (goodIn_of _ (by decide +kernel)) ggL_law_X5_least
set_option maxRecDepth 20000 in
theorem ggL_law_X5_orbit : GoodIn wsL_law wsX5_orbit := goodIn_r _ [466, 15, 204, 14, 205, 206, 33, 406, 407, 2, 408, 467, 24, 468, 469, 97, 419, 420, 318, 319, 421, 324, 325, 326, 327, 328, 329, 330, 331, 332, 333, 334, 142, 143, 144, 145, 55, 751, 752, 753, 754, 755, 756, 757, 769, 770, 771, 772, 773, 778, 779] (by decide +kernel) (by decide +kernel)
set_option maxRecDepth 20000 in
theorem gL_law_X5_orbit : GoodIn wsL_law (wsV RL 89 RX5 yX5_orbit wsX5_orbit) := goodIn_app (goodIn_of _ (by decide +kernel)) ggL_law_X5_orbit
set_option maxRecDepth 20000 in
theorem ggL_law_X5_fixed : GoodIn wsL_law wsX5_fixed := goodIn_r _ [477, 15, 204, 14, 205, 206, 33, 317, 318, 2, 319, 324, 24, 325, 326, 97, 327, 328, 329, 330, 331, 332, 333, 334, 142, 143, 144, 145, 55, 751, 752, 753, 754, 755, 756, 757, 778, 779, 769, 770, 771, 772, 773] (by decide +kernel) (by decide +kernel)
set_option maxRecDepth 20000 in
theorem gL_law_X5_fixed : GoodIn wsL_law (wsV RL 93 RX5 yX5_fixed wsX5_fixed) := goodIn_app (goodIn_of _ (by decide +kernel)) ggL_law_X5_fixed
set_option maxRecDepth 20000 in
theorem ggL_law_X5_distance : GoodIn wsL_law wsX5_distance := goodIn_r _ [485, 15, 204, 14, 205, 206, 33, 413, 24, 414, 415, 97, 416, 417, 280, 418, 419, 2, 420, 318, 319, 421, 324, 325, 326, 327, 328, 329, 330, 331, 332, 333, 334, 142, 143, 144, 145, 55, 751, 752, 753, 754, 755, 756, 757, 778, 779, 769, 770, 771, 772, 773] (by decide +kernel) (by decide +kernel)
set_option maxRecDepth 20000 in
theorem gL_law_X5_distance : GoodIn wsL_law (wsV RL 97 RX5 yX5_distance wsX5_distance) := goodIn_app (goodIn_of _ (by decide +kernel)) ggL_law_X5_distance
set_option maxRecDepth 20000 in
theorem ggL_law_X5_classes : GoodIn wsL_law wsX5_classes := goodIn_r _ [493, 494, 166, 167, 2, 168, 406, 407, 408, 495, 419, 420, 317, 318, 319, 496, 497, 498, 499, 500, 501, 502, 503, 504] (by decide +kernel) (by decide +kernel)
set_option maxRecDepth 20000 in
theorem gL_law_X5_classes : GoodIn wsL_law (wsV RL 101 RX5 yX5_classes wsX5_classes) := goodIn_app (goodIn_of _ (by decide +kernel)) ggL_law_X5_classes
set_option maxRecDepth 20000 in
theorem ggL_law_X5_setMotif : GoodIn wsL_law wsX5_setMotif := goodIn_r _ [519, 15, 204, 14, 205, 206, 33, 245, 24, 246, 247, 97, 78, 79, 80, 2, 81, 82, 17, 83, 84, 85, 86, 87, 88, 89, 30, 90, 91, 92, 93, 31, 37, 41, 94, 95, 96, 55, 98, 99, 36, 100, 101, 102, 45, 103, 104, 40, 105, 106, 107, 50, 51, 108, 444, 445, 446, 419, 420, 318, 319, 447, 448, 449, 450, 327, 328, 329, 330, 331, 332, 333, 334, 142, 143, 144, 145, 520, 521, 522, 523, 524, 525, 526, 527, 528, 529, 530, 531, 532, 533, 534, 535, 536, 537, 538, 539, 751, 752, 753, 754, 755, 756, 757, 778, 779, 769, 770, 771, 772, 773, 780, 781, 782, 783, 784] (by decide +kernel) (by decide +kernel)
set_option maxRecDepth 20000 in
theorem gL_law_X5_setMotif : GoodIn wsL_law (wsV RL 106 RX5 yX5_setMotif wsX5_setMotif) := goodIn_app (goodIn_of _ (by decide +kernel)) ggL_law_X5_setMotif
set_option maxRecDepth 20000 in
theorem ggL_law_X5_sign : GoodIn wsL_law wsX5_sign := goodIn_r _ [558, 15, 559, 560, 2, 561, 75, 76, 77, 78, 79, 80, 81, 82, 17, 83, 84, 85, 86, 87, 14, 88, 89, 30, 90, 91, 92, 93, 31, 33, 37, 41, 94, 24, 95, 96, 97, 55, 98, 99, 36, 100, 101, 102, 45, 103, 104, 40, 105, 106, 107, 50, 51, 108, 523, 524, 525, 751, 752, 753, 754, 755, 756, 757, 769, 770, 771, 772, 773, 780, 781, 778, 779, 782, 783, 784] (by decide +kernel) (by decide +kernel)
set_option maxRecDepth 20000 in
theorem gL_law_X5_sign : GoodIn wsL_law (wsV RL 110 RX5 yX5_sign wsX5_sign) := goodIn_app (goodIn_of _ (by decide +kernel)) ggL_law_X5_sign
set_option maxRecDepth 20000 in
theorem ggL_law_X5_cutMotif : GoodIn wsL_law wsX5_cutMotif := goodIn_r _ [569, 15, 78, 79, 80, 2, 81, 82, 17, 83, 84, 85, 86, 87, 14, 88, 89, 30, 90, 91, 92, 93, 31, 33, 37, 41, 94, 24, 95, 96, 97, 55, 98, 99, 36, 100, 101, 102, 45, 103, 104, 40, 105, 106, 107, 50, 51, 108, 751, 752, 753, 754, 755, 756, 757, 769, 770, 771, 772, 773, 780, 781, 778, 779, 782, 783, 784] (by decide +kernel) (by decide +kernel)
set_option maxRecDepth 20000 in
theorem gL_law_X5_cutMotif : GoodIn wsL_law (wsV RL 114 RX5 yX5_cutMotif wsX5_cutMotif) := goodIn_app (goodIn_of _ (by decide +kernel)) ggL_law_X5_cutMotif
set_option maxRecDepth 20000 in
theorem ggL_law_X5_motif : GoodIn wsL_law wsX5_motif := goodIn_r _ [577, 15, 751, 752, 753, 754, 755, 756, 757, 769, 770, 771, 772, 773, 780, 781] (by decide +kernel) (by decide +kernel)
set_option maxRecDepth 20000 in
theorem gL_law_X5_motif : GoodIn wsL_law (wsV RL 118 RX5 yX5_motif wsX5_motif) := goodIn_app (goodIn_of _ (by decide +kernel)) ggL_law_X5_motif
set_option maxRecDepth 20000 in
theorem ggL_law_X5_motifAt : GoodIn wsL_law wsX5_motifAt := goodIn_r _ [585, 15, 204, 14, 205, 206, 33, 526, 36, 527, 528, 529, 530, 531, 532, 102, 45, 332, 24, 333, 334, 97, 143, 144, 145, 55, 751, 752, 753, 754, 755, 756, 757, 769, 770, 771, 772, 773, 778, 779, 780, 781] (by decide +kernel) (by decide +kernel)
set_option maxRecDepth 20000 in
theorem gL_law_X5_motifAt : GoodIn wsL_law (wsV RL 122 RX5 yX5_motifAt wsX5_motifAt) := goodIn_app (goodIn_of _ (by decide +kernel)) ggL_law_X5_motifAt
set_option maxRecDepth 20000 in
theorem ggL_law_X5_staysAt : GoodIn wsL_law wsX5_staysAt := goodIn_r _ [593, 15, 204, 14, 205, 206, 33, 526, 36, 527, 528, 529, 530, 531, 532, 102, 45, 332, 24, 333, 334, 97, 143, 144, 145, 55, 594, 595, 596, 318, 2, 319, 331, 751, 752, 753, 754, 755, 756, 757, 769, 770, 771, 772, 773, 778, 779, 780, 781] (by decide +kernel) (by decide +kernel)
set_option maxRecDepth 20000 in
theorem gL_law_X5_staysAt : GoodIn wsL_law (wsV RL 126 RX5 yX5_staysAt wsX5_staysAt) := goodIn_app (goodIn_of _ (by decide +kernel)) ggL_law_X5_staysAt
set_option maxRecDepth 20000 in
theorem ggL_law_X5_note : GoodIn wsL_law wsX5_note := goodIn_r _ [604, 15, 204, 14, 205, 206, 33, 605, 40, 606, 607, 107, 50, 409, 24, 410, 411, 97, 412, 413, 414, 415, 416, 417, 280, 418, 419, 2, 420, 318, 319, 421, 324, 325, 326, 327, 328, 329, 330, 331, 332, 333, 334, 142, 143, 144, 145, 55, 78, 79, 80, 81, 82, 17, 83, 84, 85, 86, 87, 88, 89, 30, 90, 91, 92, 93, 31, 37, 41, 94, 95, 96, 98, 99, 36, 100, 101, 102, 45, 103, 104, 105, 106, 51, 108, 608, 609, 610, 751, 752, 753, 754, 755, 756, 757, 769, 770, 771, 772, 773, 778, 779, 782, 783, 784, 780, 781] (by decide +kernel) (by decide +kernel)
set_option maxRecDepth 20000 in
theorem gL_law_X5_note : GoodIn wsL_law (wsV RL 130 RX5 yX5_note wsX5_note) := goodIn_app (goodIn_of _ (by decide +kernel)) ggL_law_X5_note
set_option maxRecDepth 20000 in
theorem ggL_law_X5_entries : GoodIn wsL_law wsX5_entries := goodIn_r _ [622, 15, 751, 752, 753, 754, 755, 756, 757, 769, 770, 771, 772, 773, 782, 783, 784] (by decide +kernel) (by decide +kernel)
set_option maxRecDepth 20000 in
theorem gL_law_X5_entries : GoodIn wsL_law (wsV RL 134 RX5 yX5_entries wsX5_entries) := goodIn_app (goodIn_of _ (by decide +kernel)) ggL_law_X5_entries
set_option maxRecDepth 20000 in
theorem ggL_law_X5_entry : GoodIn wsL_law wsX5_entry := goodIn_r _ [630, 15, 631, 14, 632, 633, 33, 409, 24, 410, 411, 97, 412, 413, 414, 415, 416, 417, 280, 418, 419, 2, 420, 318, 319, 421, 324, 325, 326, 327, 328, 329, 330, 331, 332, 333, 334, 142, 143, 144, 145, 55, 751, 752, 753, 754, 755, 756, 757, 769, 770, 771, 772, 773, 782, 783, 784, 778, 779] (by decide +kernel) (by decide +kernel)
set_option maxRecDepth 20000 in
theorem gL_law_X5_entry : GoodIn wsL_law (wsV RL 138 RX5 yX5_entry wsX5_entry) := goodIn_app (goodIn_of _ (by decide +kernel)) ggL_law_X5_entry
set_option maxRecDepth 20000 in
theorem ggL_law_X5_ifHung : GoodIn wsL_law wsX5_ifHung := goodIn_r _ [641, 15, 25, 204, 14, 205, 206, 33, 245, 24, 246, 247, 97, 559, 560, 2, 561, 75, 76, 77, 94, 95, 96, 55, 98, 91, 92, 93, 248, 249, 250, 526, 36, 527, 528, 529, 530, 531, 532, 102, 45, 332, 333, 334, 143, 144, 145, 533, 534, 535, 536, 537, 538, 539, 751, 752, 753, 754, 755, 756, 757, 769, 770, 771, 772, 773, 778, 779, 780, 781] (by decide +kernel) (by decide +kernel)
set_option maxRecDepth 20000 in
theorem gL_law_X5_ifHung : GoodIn wsL_law (wsV RL 142 RX5 yX5_ifHung wsX5_ifHung) := goodIn_app (goodIn_of _ (by decide +kernel)) ggL_law_X5_ifHung
set_option maxRecDepth 20000 in
theorem ggL_law_X5_bestSwap : GoodIn wsL_law wsX5_bestSwap := goodIn_r _ [649, 15, 25, 204, 14, 205, 206, 33, 94, 24, 95, 96, 97, 55, 98, 91, 92, 93, 275, 276, 277, 278, 279, 280, 281, 282, 283, 284, 285, 286, 287, 288, 289, 31, 143, 144, 145, 76, 2, 77, 650, 651, 652, 653, 271, 272, 273, 142, 274, 248, 249, 250, 751, 752, 753, 754, 755, 756, 757, 778, 779, 769, 770, 771, 772, 773] (by decide +kernel) (by decide +kernel)
set_option maxRecDepth 20000 in
theorem gL_law_X5_bestSwap : GoodIn wsL_law (wsV RL 146 RX5 yX5_bestSwap wsX5_bestSwap) := goodIn_app (goodIn_of _ (by decide +kernel)) ggL_law_X5_bestSwap
set_option maxRecDepth 20000 in
theorem ggL_law_X5_append : GoodIn wsL_law wsX5_append := goodIn_r _ [661, 21, 751, 752, 753, 754, 755, 756, 757, 774, 775, 776, 777] (by decide +kernel) (by decide +kernel)
set_option maxRecDepth 20000 in
theorem gL_law_X5_append : GoodIn wsL_law (wsV RL 150 RX5 yX5_append wsX5_append) := goodIn_app (goodIn_of _ (by decide +kernel)) ggL_law_X5_append
set_option maxRecDepth 20000 in
theorem ggL_law_X5_clearText : GoodIn wsL_law wsX5_clearText := goodIn_r _ [670, 21, 751, 752, 753, 754, 755, 756, 757, 774, 775, 776, 777] (by decide +kernel) (by decide +kernel)
set_option maxRecDepth 20000 in
theorem gL_law_X5_clearText : GoodIn wsL_law (wsV RL 154 RX5 yX5_clearText wsX5_clearText) := goodIn_app (goodIn_of _ (by decide +kernel)) ggL_law_X5_clearText
set_option maxRecDepth 20000 in
theorem ggL_law_X5_errorPosition : GoodIn wsL_law wsX5_errorPosition := goodIn_r _ [678, 21, 25, 679, 20, 680, 681, 682, 683, 684, 59, 169, 24, 170, 171, 97, 55, 685, 686, 687, 688, 689, 690, 691, 692, 693, 694, 695, 696, 697, 698, 560, 2, 561, 75, 76, 77, 248, 249, 250, 699, 700, 701, 167, 168, 751, 752, 753, 754, 755, 756, 757, 774, 775, 776, 777, 778, 779] (by decide +kernel) (by decide +kernel)
set_option maxRecDepth 20000 in
theorem gL_law_X5_errorPosition : GoodIn wsL_law (wsV RL 158 RX5 yX5_errorPosition wsX5_errorPosition) := goodIn_app (goodIn_of _ (by decide +kernel)) ggL_law_X5_errorPosition
set_option maxRecDepth 20000 in
theorem ggL_law_X5_read : GoodIn wsL_law wsX5_read := goodIn_r _ [715, 21, 25, 679, 20, 680, 681, 682, 683, 684, 59, 169, 24, 170, 171, 97, 55, 685, 686, 687, 688, 689, 690, 691, 692, 693, 694, 695, 696, 697, 698, 560, 2, 561, 75, 76, 77, 248, 249, 250, 699, 700, 701, 167, 168, 172, 173, 174, 175, 15, 176, 14, 177, 178, 30, 139, 140, 141, 142, 143, 144, 145, 179, 180, 181, 33, 78, 79, 80, 81, 82, 17, 83, 84, 85, 86, 87, 88, 89, 90, 91, 92, 93, 31, 37, 41, 94, 95, 96, 98, 99, 36, 100, 101, 102, 45, 103, 104, 40, 105, 106, 107, 50, 51, 108, 182, 183, 184, 751, 752, 753, 754, 755, 756, 757, 774, 775, 776, 777, 778, 779, 769, 770, 771, 772, 773, 780, 781, 782, 783, 784] (by decide +kernel) (by decide +kernel)
set_option maxRecDepth 20000 in
theorem gL_law_X5_read : GoodIn wsL_law (wsV RL 162 RX5 yX5_read wsX5_read) := goodIn_app (goodIn_of _ (by decide +kernel)) ggL_law_X5_read
set_option maxRecDepth 20000 in
theorem ggL_law_X5_undo : GoodIn wsL_law wsX5_undo := goodIn_r _ [724, 82, 15, 17, 87, 14, 88, 89, 30, 90, 91, 92, 93, 31, 33, 37, 41, 94, 24, 95, 96, 97, 55, 98, 99, 36, 100, 101, 102, 45, 103, 104, 40, 105, 106, 107, 50, 51, 108, 751, 752, 753, 754, 755, 756, 757, 769, 770, 771, 772, 773, 778, 779, 780, 781, 782, 783, 784] (by decide +kernel) (by decide +kernel)
set_option maxRecDepth 20000 in
theorem gL_law_X5_undo : GoodIn wsL_law (wsV RL 166 RX5 yX5_undo wsX5_undo) := goodIn_app (goodIn_of _ (by decide +kernel)) ggL_law_X5_undo
set_option maxRecDepth 20000 in
theorem ggL_law_X5_save : GoodIn wsL_law wsX5_save := goodIn_r _ [732, 16, 15, 733, 87, 14, 88, 89, 30, 90, 91, 92, 93, 31, 33, 37, 41, 94, 24, 95, 96, 97, 55, 98, 99, 36, 100, 101, 102, 45, 103, 104, 40, 105, 106, 107, 50, 51, 108, 367, 368, 369, 533, 534, 535, 536, 537, 538, 539, 751, 752, 753, 754, 755, 756, 757, 769, 770, 771, 772, 773, 778, 779, 780, 781, 782, 783, 784] (by decide +kernel) (by decide +kernel)
set_option maxRecDepth 20000 in
theorem gL_law_X5_save : GoodIn wsL_law (wsV RL 170 RX5 yX5_save wsX5_save) := goodIn_app (goodIn_of _ (by decide +kernel)) ggL_law_X5_save
set_option maxRecDepth 20000 in
theorem ggL_law_X5_restore : GoodIn wsL_law wsX5_restore := goodIn_r _ [746, 733, 15, 16, 78, 79, 80, 2, 81, 82, 17, 83, 84, 85, 86, 87, 14, 88, 89, 30, 90, 91, 92, 93, 31, 33, 37, 41, 94, 24, 95, 96, 97, 55, 98, 99, 36, 100, 101, 102, 45, 103, 104, 40, 105, 106, 107, 50, 51, 108, 367, 368, 369, 533, 534, 535, 536, 537, 538, 539, 751, 752, 753, 754, 755, 756, 757, 769, 770, 771, 772, 773, 778, 779, 780, 781, 782, 783, 784] (by decide +kernel) (by decide +kernel)
set_option maxRecDepth 20000 in
theorem gL_law_X5_restore : GoodIn wsL_law (wsV RL 174 RX5 yX5_restore wsX5_restore) := goodIn_app (goodIn_of _ (by decide +kernel)) ggL_law_X5_restore
