/-! the law's calls of the model: their words -/
set_option maxRecDepth 20000 in
theorem ggL_law_X6_init : GoodIn wsL_law wsX6_init := goodIn_r _ [62, 63, 10, 11, 29, 64, 65, 66, 67, 68, 69, 70, 758, 759, 760, 761, 762, 763, 764, 765, 766, 767, 768] (by decide +kernel) (by decide +kernel)
set_option maxRecDepth 20000 in
theorem gL_law_X6_init : GoodIn wsL_law (wsX6_init) := ggL_law_X6_init
set_option maxRecDepth 20000 in
theorem ggL_law_X6_fill : GoodIn wsL_law wsX6_fill := goodIn_r _ [112, 64, 113, 114, 5, 115, 116, 117, 118, 119, 120, 121, 122, 123, 65, 758, 759, 760, 761, 762, 763, 764, 765, 766, 767, 768] (by decide +kernel) (by decide +kernel)
set_option maxRecDepth 20000 in
theorem gL_law_X6_fill : GoodIn wsL_law (wsV RL 17 RX6 yX6_fill wsX6_fill) := goodIn_app (goodIn_of _ (by decide +kernel)) ggL_law_X6_fill
set_option maxRecDepth 20000 in
theorem ggL_law_X6_weigh : GoodIn wsL_law wsX6_weigh := goodIn_r _ [131, 64, 113, 114, 5, 115, 116, 117, 118, 119, 120, 121, 122, 123, 65, 758, 759, 760, 761, 762, 763, 764, 765, 766, 767, 768] (by decide +kernel) (by decide +kernel)
set_option maxRecDepth 20000 in
theorem gL_law_X6_weigh : GoodIn wsL_law (wsV RL 21 RX6 yX6_weigh wsX6_weigh) := goodIn_app (goodIn_of _ (by decide +kernel)) ggL_law_X6_weigh
set_option maxRecDepth 20000 in
theorem ggL_law_X6_kind : GoodIn wsL_law wsX6_kind := goodIn_r _ [149, 64, 113, 114, 5, 115, 116, 117, 118, 150, 151, 152, 153, 154, 155, 156, 157, 158, 159, 160, 161, 758, 759, 760, 761, 762, 763, 764, 765, 766, 767, 768] (by decide +kernel) (by decide +kernel)
set_option maxRecDepth 20000 in
theorem gL_law_X6_kind : GoodIn wsL_law (wsV RL 25 RX6 yX6_kind wsX6_kind) := goodIn_app (goodIn_of _ (by decide +kernel)) ggL_law_X6_kind
set_option maxRecDepth 20000 in
theorem ggL_law_X6_make : GoodIn wsL_law wsX6_make := goodIn_r _ [188, 189, 190, 5, 191, 116, 117, 118, 192, 193, 194, 195, 154, 155, 156, 157, 64, 119, 120, 121, 122, 123, 65, 196, 197, 198, 199, 758, 759, 760, 761, 762, 763, 764, 765, 766, 767, 768] (by decide +kernel) (by decide +kernel)
set_option maxRecDepth 20000 in
theorem gL_law_X6_make : GoodIn wsL_law (wsV RL 30 RX6 yX6_make wsX6_make) := goodIn_app (goodIn_of _ (by decide +kernel)) ggL_law_X6_make
set_option maxRecDepth 20000 in
theorem ggL_law_X6_copy : GoodIn wsL_law wsX6_copy := goodIn_r _ [210, 64, 211, 212, 213, 5, 214, 116, 117, 118, 154, 155, 156, 157, 150, 151, 152, 153, 158, 159, 160, 161, 192, 193, 194, 195, 119, 120, 121, 122, 123, 65, 196, 197, 198, 199, 215, 216, 217, 218, 758, 759, 760, 761, 762, 763, 764, 765, 766, 767, 768] (by decide +kernel) (by decide +kernel)
set_option maxRecDepth 20000 in
theorem gL_law_X6_copy : GoodIn wsL_law (wsV RL 34 RX6 yX6_copy wsX6_copy) := goodIn_app (goodIn_of _ (by decide +kernel)) ggL_law_X6_copy
set_option maxRecDepth 20000 in
theorem ggL_law_X6_remove : GoodIn wsL_law wsX6_remove := goodIn_r _ [236, 64, 211, 212, 213, 5, 214, 116, 117, 118, 154, 155, 156, 157, 150, 151, 152, 153, 158, 159, 160, 161, 119, 120, 121, 122, 123, 65, 237, 238, 239, 240, 215, 216, 217, 218, 196, 197, 198, 199, 758, 759, 760, 761, 762, 763, 764, 765, 766, 767, 768] (by decide +kernel) (by decide +kernel)
set_option maxRecDepth 20000 in
theorem gL_law_X6_remove : GoodIn wsL_law (wsV RL 38 RX6 yX6_remove wsX6_remove) := goodIn_app (goodIn_of _ (by decide +kernel)) ggL_law_X6_remove
set_option maxRecDepth 20000 in
theorem ggL_law_X6_hang : GoodIn wsL_law wsX6_hang := goodIn_r _ [254, 64, 255, 256, 257, 5, 258, 211, 212, 213, 214, 116, 117, 118, 154, 155, 156, 157, 113, 114, 115, 158, 159, 160, 161, 119, 120, 121, 122, 123, 65, 758, 759, 760, 761, 762, 763, 764, 765, 766, 767, 768] (by decide +kernel) (by decide +kernel)
set_option maxRecDepth 20000 in
theorem gL_law_X6_hang : GoodIn wsL_law (wsV RL 43 RX6 yX6_hang wsX6_hang) := goodIn_app (goodIn_of _ (by decide +kernel)) ggL_law_X6_hang
set_option maxRecDepth 20000 in
theorem ggL_law_X6_takeOff : GoodIn wsL_law wsX6_takeOff := goodIn_r _ [266, 64, 255, 256, 257, 5, 258, 211, 212, 213, 214, 116, 117, 118, 154, 155, 156, 157, 158, 159, 160, 161, 119, 120, 121, 122, 123, 65, 758, 759, 760, 761, 762, 763, 764, 765, 766, 767, 768] (by decide +kernel) (by decide +kernel)
set_option maxRecDepth 20000 in
theorem gL_law_X6_takeOff : GoodIn wsL_law (wsV RL 47 RX6 yX6_takeOff wsX6_takeOff) := goodIn_app (goodIn_of _ (by decide +kernel)) ggL_law_X6_takeOff
set_option maxRecDepth 20000 in
theorem ggL_law_X6_swap : GoodIn wsL_law wsX6_swap := goodIn_r _ [293, 255, 256, 257, 5, 258, 211, 212, 213, 214, 116, 117, 118, 154, 155, 156, 157, 64, 119, 120, 121, 122, 123, 65, 294, 295, 296, 297, 158, 159, 160, 161, 298, 299, 300, 301, 302, 303, 304, 305, 306, 307, 308, 309, 310, 311, 312, 758, 759, 760, 761, 762, 763, 764, 765, 766, 767, 768] (by decide +kernel) (by decide +kernel)
set_option maxRecDepth 20000 in
theorem gL_law_X6_swap : GoodIn wsL_law (wsV RL 51 RX6 yX6_swap wsX6_swap) := goodIn_app (goodIn_of _ (by decide +kernel)) ggL_law_X6_swap
set_option maxRecDepth 20000 in
theorem ggL_law_X6_roll : GoodIn wsL_law wsX6_roll := goodIn_r _ [338, 211, 212, 213, 5, 214, 116, 117, 118, 154, 155, 156, 157, 64, 119, 120, 121, 122, 123, 65, 339, 340, 341, 342, 69, 343, 344, 345, 346, 158, 159, 160, 161, 758, 759, 760, 761, 762, 763, 764, 765, 766, 767, 768] (by decide +kernel) (by decide +kernel)
set_option maxRecDepth 20000 in
theorem gL_law_X6_roll : GoodIn wsL_law (wsV RL 55 RX6 yX6_roll wsX6_roll) := goodIn_app (goodIn_of _ (by decide +kernel)) ggL_law_X6_roll
set_option maxRecDepth 20000 in
theorem ggL_law_X6_turn : GoodIn wsL_law wsX6_turn := goodIn_r _ [354, 211, 212, 213, 5, 214, 116, 117, 118, 154, 155, 156, 157, 64, 119, 120, 121, 122, 123, 65, 339, 340, 341, 342, 69, 343, 344, 345, 346, 158, 159, 160, 161, 758, 759, 760, 761, 762, 763, 764, 765, 766, 767, 768] (by decide +kernel) (by decide +kernel)
set_option maxRecDepth 20000 in
theorem gL_law_X6_turn : GoodIn wsL_law (wsV RL 59 RX6 yX6_turn wsX6_turn) := goodIn_app (goodIn_of _ (by decide +kernel)) ggL_law_X6_turn
set_option maxRecDepth 20000 in
theorem ggL_law_X6_mirror : GoodIn wsL_law wsX6_mirror := goodIn_r _ [362, 211, 212, 213, 5, 214, 116, 117, 118, 154, 155, 156, 157, 64, 119, 120, 121, 122, 123, 65, 339, 340, 341, 342, 69, 343, 344, 345, 346, 158, 159, 160, 161, 758, 759, 760, 761, 762, 763, 764, 765, 766, 767, 768] (by decide +kernel) (by decide +kernel)
set_option maxRecDepth 20000 in
theorem gL_law_X6_mirror : GoodIn wsL_law (wsV RL 63 RX6 yX6_mirror wsX6_mirror) := goodIn_app (goodIn_of _ (by decide +kernel)) ggL_law_X6_mirror
set_option maxRecDepth 20000 in
theorem ggL_law_X6_bracelets : GoodIn wsL_law wsX6_bracelets := goodIn_r _ [373, 154, 155, 156, 5, 157, 64, 758, 759, 760, 761, 762, 763, 764, 765, 766, 767, 768] (by decide +kernel) (by decide +kernel)
set_option maxRecDepth 20000 in
theorem gL_law_X6_bracelets : GoodIn wsL_law (wsV RL 68 RX6 yX6_bracelets wsX6_bracelets) := goodIn_app (goodIn_of _ (by decide +kernel)) ggL_law_X6_bracelets
set_option maxRecDepth 20000 in
theorem ggL_law_X6_bracelet : GoodIn wsL_law wsX6_bracelet := goodIn_r _ [381, 211, 212, 213, 5, 214, 116, 117, 118, 154, 155, 156, 157, 64, 237, 238, 239, 240, 150, 151, 152, 153, 158, 159, 160, 161, 382, 383, 384, 385, 302, 303, 304, 305, 306, 307, 308, 309, 298, 299, 300, 301, 310, 311, 312, 758, 759, 760, 761, 762, 763, 764, 765, 766, 767, 768] (by decide +kernel) (by decide +kernel)
set_option maxRecDepth 20000 in
theorem gL_law_X6_bracelet : GoodIn wsL_law (wsV RL 72 RX6 yX6_bracelet wsX6_bracelet) := goodIn_app (goodIn_of _ (by decide +kernel)) ggL_law_X6_bracelet
set_option maxRecDepth 20000 in
theorem ggL_law_X6_slot : GoodIn wsL_law wsX6_slot := goodIn_r _ [393, 64, 255, 256, 257, 5, 258, 211, 212, 213, 214, 116, 117, 118, 154, 155, 156, 157, 158, 159, 160, 161, 758, 759, 760, 761, 762, 763, 764, 765, 766, 767, 768] (by decide +kernel) (by decide +kernel)
set_option maxRecDepth 20000 in
theorem gL_law_X6_slot : GoodIn wsL_law (wsV RL 76 RX6 yX6_slot wsX6_slot) := goodIn_app (goodIn_of _ (by decide +kernel)) ggL_law_X6_slot
set_option maxRecDepth 20000 in
theorem ggL_law_X6_quarter : GoodIn wsL_law wsX6_quarter := goodIn_r _ [401, 211, 212, 213, 5, 214, 116, 117, 118, 154, 155, 156, 157, 64, 302, 303, 304, 305, 158, 159, 160, 161, 306, 307, 308, 309, 758, 759, 760, 761, 762, 763, 764, 765, 766, 767, 768] (by decide +kernel) (by decide +kernel)
set_option maxRecDepth 20000 in
theorem gL_law_X6_quarter : GoodIn wsL_law (wsV RL 80 RX6 yX6_quarter wsX6_quarter) := goodIn_app (goodIn_of _ (by decide +kernel)) ggL_law_X6_quarter
set_option maxRecDepth 20000 in
theorem ggL_law_X6_alike : GoodIn wsL_law wsX6_alike := goodIn_r _ [425, 211, 212, 213, 5, 214, 116, 117, 118, 154, 155, 156, 157, 64, 426, 427, 428, 429, 430, 431, 432, 433, 434, 435, 436, 437, 438, 439, 343, 344, 345, 346, 158, 159, 160, 161, 758, 759, 760, 761, 762, 763, 764, 765, 766, 767, 768] (by decide +kernel) (by decide +kernel)
set_option maxRecDepth 20000 in
theorem gL_law_X6_alike : GoodIn wsL_law (wsV RL 84 RX6 yX6_alike wsX6_alike) := goodIn_app (goodIn_of _ (by decide +kernel)) ggL_law_X6_alike
set_option maxRecDepth 20000 in
theorem ggL_law_X6_least : GoodIn wsL_law wsX6_least := goodIn_r _ [454, 255, 256, 257, 5, 258, 211, 212, 213, 214, 116, 117, 118, 154, 155, 156, 157, 64, 426, 427, 428, 455, 456, 457, 458, 433, 434, 435, 459, 460, 461, 462, 343, 344, 345, 346, 158, 159, 160, 161, 758, 759, 760, 761, 762, 763, 764, 765, 766, 767, 768] (by decide +kernel) (by decide +kernel)
set_option maxRecDepth 20000 in
theorem gL_law_X6_least : GoodIn wsL_law (wsV RL 88 RX6 yX6_least wsX6_least) := goodIn_app (goodIn_of _ (by decide +kernel)) ggL_law_X6_least
set_option maxRecDepth 20000 in
theorem ggL_law_X6_orbit : GoodIn wsL_law wsX6_orbit := goodIn_r _ [473, 211, 212, 213, 5, 214, 116, 117, 118, 154, 155, 156, 157, 64, 426, 427, 428, 433, 434, 435, 459, 460, 461, 462, 343, 344, 345, 346, 158, 159, 160, 161, 758, 759, 760, 761, 762, 763, 764, 765, 766, 767, 768] (by decide +kernel) (by decide +kernel)
set_option maxRecDepth 20000 in
theorem gL_law_X6_orbit : GoodIn wsL_law (wsV RL 92 RX6 yX6_orbit wsX6_orbit) := goodIn_app (goodIn_of _ (by decide +kernel)) ggL_law_X6_orbit
set_option maxRecDepth 20000 in
theorem ggL_law_X6_fixed : GoodIn wsL_law wsX6_fixed := goodIn_r _ [481, 211, 212, 213, 5, 214, 116, 117, 118, 154, 155, 156, 157, 64, 436, 437, 438, 439, 343, 344, 345, 346, 158, 159, 160, 161, 758, 759, 760, 761, 762, 763, 764, 765, 766, 767, 768] (by decide +kernel) (by decide +kernel)
set_option maxRecDepth 20000 in
theorem gL_law_X6_fixed : GoodIn wsL_law (wsV RL 96 RX6 yX6_fixed wsX6_fixed) := goodIn_app (goodIn_of _ (by decide +kernel)) ggL_law_X6_fixed
set_option maxRecDepth 20000 in
theorem ggL_law_X6_distance : GoodIn wsL_law wsX6_distance := goodIn_r _ [489, 211, 212, 213, 5, 214, 116, 117, 118, 154, 155, 156, 157, 64, 433, 434, 435, 436, 437, 438, 439, 343, 344, 345, 346, 158, 159, 160, 161, 758, 759, 760, 761, 762, 763, 764, 765, 766, 767, 768] (by decide +kernel) (by decide +kernel)
set_option maxRecDepth 20000 in
theorem gL_law_X6_distance : GoodIn wsL_law (wsV RL 100 RX6 yX6_distance wsX6_distance) := goodIn_app (goodIn_of _ (by decide +kernel)) ggL_law_X6_distance
set_option maxRecDepth 20000 in
theorem ggL_law_X6_classes : GoodIn wsL_law wsX6_classes := goodIn_r _ [508, 509, 189, 190, 5, 191, 116, 117, 118, 113, 114, 115, 426, 427, 428, 510, 511, 512, 513, 514, 515, 433, 434, 435] (by decide +kernel) (by decide +kernel)
set_option maxRecDepth 20000 in
theorem gL_law_X6_classes : GoodIn wsL_law (wsV RL 105 RX6 yX6_classes wsX6_classes) := goodIn_app (goodIn_of _ (by decide +kernel)) ggL_law_X6_classes
set_option maxRecDepth 20000 in
theorem ggL_law_X6_setMotif : GoodIn wsL_law wsX6_setMotif := goodIn_r _ [543, 64, 255, 256, 257, 5, 258, 211, 212, 213, 214, 116, 117, 118, 154, 155, 156, 157, 119, 120, 121, 122, 123, 65, 455, 456, 457, 458, 433, 434, 435, 459, 460, 461, 462, 343, 344, 345, 346, 158, 159, 160, 161, 544, 545, 546, 547, 548, 549, 550, 551, 552, 553, 554, 758, 759, 760, 761, 762, 763, 764, 765, 766, 767, 768] (by decide +kernel) (by decide +kernel)
set_option maxRecDepth 20000 in
theorem gL_law_X6_setMotif : GoodIn wsL_law (wsV RL 109 RX6 yX6_setMotif wsX6_setMotif) := goodIn_app (goodIn_of _ (by decide +kernel)) ggL_law_X6_setMotif
set_option maxRecDepth 20000 in
theorem ggL_law_X6_sign : GoodIn wsL_law wsX6_sign := goodIn_r _ [565, 64, 116, 117, 5, 118, 119, 120, 121, 122, 123, 65, 758, 759, 760, 761, 762, 763, 764, 765, 766, 767, 768] (by decide +kernel) (by decide +kernel)
set_option maxRecDepth 20000 in
theorem gL_law_X6_sign : GoodIn wsL_law (wsV RL 113 RX6 yX6_sign wsX6_sign) := goodIn_app (goodIn_of _ (by decide +kernel)) ggL_law_X6_sign
set_option maxRecDepth 20000 in
theorem ggL_law_X6_cutMotif : GoodIn wsL_law wsX6_cutMotif := goodIn_r _ [573, 64, 119, 120, 121, 5, 122, 123, 65, 758, 759, 760, 761, 762, 763, 764, 765, 766, 767, 768] (by decide +kernel) (by decide +kernel)
set_option maxRecDepth 20000 in
theorem gL_law_X6_cutMotif : GoodIn wsL_law (wsV RL 117 RX6 yX6_cutMotif wsX6_cutMotif) := goodIn_app (goodIn_of _ (by decide +kernel)) ggL_law_X6_cutMotif
set_option maxRecDepth 20000 in
theorem ggL_law_X6_motif : GoodIn wsL_law wsX6_motif := goodIn_r _ [581, 64, 116, 117, 5, 118, 758, 759, 760, 761, 762, 763, 764, 765, 766, 767, 768] (by decide +kernel) (by decide +kernel)
set_option maxRecDepth 20000 in
theorem gL_law_X6_motif : GoodIn wsL_law (wsV RL 121 RX6 yX6_motif wsX6_motif) := goodIn_app (goodIn_of _ (by decide +kernel)) ggL_law_X6_motif
set_option maxRecDepth 20000 in
theorem ggL_law_X6_motifAt : GoodIn wsL_law wsX6_motifAt := goodIn_r _ [589, 211, 212, 213, 5, 214, 116, 117, 118, 154, 155, 156, 157, 64, 544, 545, 546, 547, 548, 549, 550, 551, 158, 159, 160, 161, 758, 759, 760, 761, 762, 763, 764, 765, 766, 767, 768] (by decide +kernel) (by decide +kernel)
set_option maxRecDepth 20000 in
theorem gL_law_X6_motifAt : GoodIn wsL_law (wsV RL 125 RX6 yX6_motifAt wsX6_motifAt) := goodIn_app (goodIn_of _ (by decide +kernel)) ggL_law_X6_motifAt
set_option maxRecDepth 20000 in
theorem ggL_law_X6_staysAt : GoodIn wsL_law wsX6_staysAt := goodIn_r _ [600, 211, 212, 213, 5, 214, 116, 117, 118, 154, 155, 156, 157, 64, 544, 545, 546, 547, 548, 549, 550, 551, 158, 159, 160, 161, 758, 759, 760, 761, 762, 763, 764, 765, 766, 767, 768] (by decide +kernel) (by decide +kernel)
set_option maxRecDepth 20000 in
theorem gL_law_X6_staysAt : GoodIn wsL_law (wsV RL 129 RX6 yX6_staysAt wsX6_staysAt) := goodIn_app (goodIn_of _ (by decide +kernel)) ggL_law_X6_staysAt
set_option maxRecDepth 20000 in
theorem ggL_law_X6_note : GoodIn wsL_law wsX6_note := goodIn_r _ [614, 64, 211, 212, 213, 5, 214, 116, 117, 118, 154, 155, 156, 157, 615, 616, 617, 618, 455, 456, 457, 458, 433, 434, 435, 459, 460, 461, 462, 343, 344, 345, 346, 158, 159, 160, 161, 119, 120, 121, 122, 123, 65, 758, 759, 760, 761, 762, 763, 764, 765, 766, 767, 768] (by decide +kernel) (by decide +kernel)
set_option maxRecDepth 20000 in
theorem gL_law_X6_note : GoodIn wsL_law (wsV RL 133 RX6 yX6_note wsX6_note) := goodIn_app (goodIn_of _ (by decide +kernel)) ggL_law_X6_note
set_option maxRecDepth 20000 in
theorem ggL_law_X6_entries : GoodIn wsL_law wsX6_entries := goodIn_r _ [626, 64, 758, 759, 760, 761, 762, 763, 764, 765, 766, 767, 768] (by decide +kernel) (by decide +kernel)
set_option maxRecDepth 20000 in
theorem gL_law_X6_entries : GoodIn wsL_law (wsV RL 137 RX6 yX6_entries wsX6_entries) := goodIn_app (goodIn_of _ (by decide +kernel)) ggL_law_X6_entries
set_option maxRecDepth 20000 in
theorem ggL_law_X6_entry : GoodIn wsL_law wsX6_entry := goodIn_r _ [637, 64, 116, 117, 5, 118, 615, 616, 617, 618, 154, 155, 156, 157, 455, 456, 457, 458, 433, 434, 435, 459, 460, 461, 462, 343, 344, 345, 346, 158, 159, 160, 161, 758, 759, 760, 761, 762, 763, 764, 765, 766, 767, 768] (by decide +kernel) (by decide +kernel)
set_option maxRecDepth 20000 in
theorem gL_law_X6_entry : GoodIn wsL_law (wsV RL 141 RX6 yX6_entry wsX6_entry) := goodIn_app (goodIn_of _ (by decide +kernel)) ggL_law_X6_entry
set_option maxRecDepth 20000 in
theorem ggL_law_X6_ifHung : GoodIn wsL_law wsX6_ifHung := goodIn_r _ [645, 64, 255, 256, 257, 5, 258, 211, 212, 213, 214, 116, 117, 118, 154, 155, 156, 157, 158, 159, 160, 161, 544, 545, 546, 547, 548, 549, 550, 551, 552, 553, 554, 758, 759, 760, 761, 762, 763, 764, 765, 766, 767, 768] (by decide +kernel) (by decide +kernel)
set_option maxRecDepth 20000 in
theorem gL_law_X6_ifHung : GoodIn wsL_law (wsV RL 145 RX6 yX6_ifHung wsX6_ifHung) := goodIn_app (goodIn_of _ (by decide +kernel)) ggL_law_X6_ifHung
set_option maxRecDepth 20000 in
theorem ggL_law_X6_bestSwap : GoodIn wsL_law wsX6_bestSwap := goodIn_r _ [657, 211, 212, 213, 5, 214, 116, 117, 118, 154, 155, 156, 157, 64, 298, 299, 300, 301, 302, 303, 304, 305, 158, 159, 160, 161, 306, 307, 308, 309, 310, 311, 312, 294, 295, 296, 297, 758, 759, 760, 761, 762, 763, 764, 765, 766, 767, 768] (by decide +kernel) (by decide +kernel)
set_option maxRecDepth 20000 in
theorem gL_law_X6_bestSwap : GoodIn wsL_law (wsV RL 149 RX6 yX6_bestSwap wsX6_bestSwap) := goodIn_app (goodIn_of _ (by decide +kernel)) ggL_law_X6_bestSwap
set_option maxRecDepth 20000 in
theorem ggL_law_X6_append : GoodIn wsL_law wsX6_append := goodIn_r _ [665, 666, 68, 116, 117, 5, 118, 758, 759, 760, 761, 762, 763, 764, 765, 766, 767, 768] (by decide +kernel) (by decide +kernel)
set_option maxRecDepth 20000 in
theorem gL_law_X6_append : GoodIn wsL_law (wsV RL 153 RX6 yX6_append wsX6_append) := goodIn_app (goodIn_of _ (by decide +kernel)) ggL_law_X6_append
set_option maxRecDepth 20000 in
theorem ggL_law_X6_clearText : GoodIn wsL_law wsX6_clearText := goodIn_r _ [674, 666, 758, 759, 760, 761, 762, 763, 764, 765, 766, 767, 768] (by decide +kernel) (by decide +kernel)
set_option maxRecDepth 20000 in
theorem gL_law_X6_clearText : GoodIn wsL_law (wsV RL 157 RX6 yX6_clearText wsX6_clearText) := goodIn_app (goodIn_of _ (by decide +kernel)) ggL_law_X6_clearText
set_option maxRecDepth 20000 in
theorem ggL_law_X6_errorPosition : GoodIn wsL_law wsX6_errorPosition := goodIn_r _ [705, 706, 707, 666, 68, 708, 709, 710, 5, 711, 70, 116, 117, 118, 189, 190, 191, 758, 759, 760, 761, 762, 763, 764, 765, 766, 767, 768] (by decide +kernel) (by decide +kernel)
set_option maxRecDepth 20000 in
theorem gL_law_X6_errorPosition : GoodIn wsL_law (wsV RL 161 RX6 yX6_errorPosition wsX6_errorPosition) := goodIn_app (goodIn_of _ (by decide +kernel)) ggL_law_X6_errorPosition
set_option maxRecDepth 20000 in
theorem ggL_law_X6_read : GoodIn wsL_law wsX6_read := goodIn_r _ [719, 706, 70, 64, 666, 720, 703, 704, 5, 705, 707, 68, 708, 709, 710, 711, 116, 117, 118, 189, 190, 191, 192, 193, 194, 195, 154, 155, 156, 157, 119, 120, 121, 122, 123, 65, 196, 197, 198, 199, 158, 159, 160, 161, 215, 216, 217, 218, 758, 759, 760, 761, 762, 763, 764, 765, 766, 767, 768] (by decide +kernel) (by decide +kernel)
set_option maxRecDepth 20000 in
theorem gL_law_X6_read : GoodIn wsL_law (wsV RL 165 RX6 yX6_read wsX6_read) := goodIn_app (goodIn_of _ (by decide +kernel)) ggL_law_X6_read
set_option maxRecDepth 20000 in
theorem ggL_law_X6_undo : GoodIn wsL_law wsX6_undo := goodIn_r _ [728, 123, 64, 65, 758, 759, 760, 761, 762, 763, 764, 765, 766, 767, 768] (by decide +kernel) (by decide +kernel)
set_option maxRecDepth 20000 in
theorem gL_law_X6_undo : GoodIn wsL_law (wsV RL 169 RX6 yX6_undo wsX6_undo) := goodIn_app (goodIn_of _ (by decide +kernel)) ggL_law_X6_undo
set_option maxRecDepth 20000 in
theorem ggL_law_X6_save : GoodIn wsL_law wsX6_save := goodIn_r _ [737, 738, 66, 64, 739, 740, 741, 5, 742, 154, 155, 156, 157, 758, 759, 760, 761, 762, 763, 764, 765, 766, 767, 768] (by decide +kernel) (by decide +kernel)
set_option maxRecDepth 20000 in
theorem gL_law_X6_save : GoodIn wsL_law (wsV RL 173 RX6 yX6_save wsX6_save) := goodIn_app (goodIn_of _ (by decide +kernel)) ggL_law_X6_save
set_option maxRecDepth 20000 in
theorem ggL_law_X6_restore : GoodIn wsL_law wsX6_restore := goodIn_r _ [750, 738, 64, 66, 119, 120, 121, 5, 122, 123, 65, 739, 740, 741, 742, 154, 155, 156, 157, 758, 759, 760, 761, 762, 763, 764, 765, 766, 767, 768] (by decide +kernel) (by decide +kernel)
set_option maxRecDepth 20000 in
theorem gL_law_X6_restore : GoodIn wsL_law (wsV RL 177 RX6 yX6_restore wsX6_restore) := goodIn_app (goodIn_of _ (by decide +kernel)) ggL_law_X6_restore
