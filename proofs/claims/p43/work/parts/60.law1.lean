/-! the law's words -/
def wsL_law_r1 : List Cond := [Cond.classLink RL 53 RX5, Cond.instantiable RX5 7, Cond.initialized RX5, Cond.arrayClass .long, Cond.arrayClass .int, Cond.constantLong RL 10 (7), Cond.methodLink RL 130 yX5_init, Cond.instanceMethod yX5_init, Cond.code yX5_init cX5_init 2 none, Cond.methodLink RX5 1 objectInit, Cond.instanceMethod objectInit, Cond.code objectInit ⟨#[0xb1]⟩ 1 none, Cond.classLink RX5 7 RX3, Cond.instantiable RX3 5, Cond.initialized RX3, Cond.fieldLink RX5 10 "CharmBracelets" "now" "LCharmBracelets$State;", Cond.fieldLink RX5 16 "CharmBracelets" "saved" "LCharmBracelets$State;", Cond.fieldLink RX5 19 "CharmBracelets" "recorded" "[LCharmBracelets$State;", Cond.classLink RX5 23 RX4, Cond.instantiable RX4 4, Cond.initialized RX4, Cond.fieldLink RX5 26 "CharmBracelets" "buffer" "LCharmBracelets$Text;", Cond.classLink RX5 30 RX2, Cond.instantiable RX2 2]
def wsL_law_r2 : List Cond := [Cond.initialized RX2, Cond.fieldLink RX5 33 "CharmBracelets" "trial" "LCharmBracelets$Ring;", Cond.instanceMethod yX3_init, Cond.code yX3_init cX3_init 2 none, Cond.methodLink RX3 3 objectInit, Cond.fieldLink RX3 9 "CharmBracelets$State" "box" "[I", Cond.fieldLink RX3 15 "CharmBracelets$State" "weights" "[I", Cond.classLink RX3 18 RX2, Cond.fieldLink RX3 20 "CharmBracelets$State" "rings" "[LCharmBracelets$Ring;", Cond.classLink RX3 24 RX0, Cond.instantiable RX0 2, Cond.initialized RX0, Cond.fieldLink RX3 27 "CharmBracelets$State" "motif" "LCharmBracelets$Motif;", Cond.classLink RX3 31 RX1, Cond.instantiable RX1 3, Cond.initialized RX1, Cond.fieldLink RX3 34 "CharmBracelets$State" "list" "LCharmBracelets$NotedList;", Cond.instanceMethod yX0_init, Cond.code yX0_init cX0_init 1 none, Cond.methodLink RX0 3 objectInit, Cond.fieldLink RX0 9 "CharmBracelets$Motif" "signs" "[I", Cond.instanceMethod yX1_init, Cond.code yX1_init cX1_init 2 none, Cond.methodLink RX1 3 objectInit]
def wsL_law_r3 : List Cond := [Cond.classLink RX1 9 RX2, Cond.fieldLink RX1 11 "CharmBracelets$NotedList" "firsts" "[LCharmBracelets$Ring;", Cond.fieldLink RX1 17 "CharmBracelets$NotedList" "times" "[I", Cond.instanceMethod yX2_init, Cond.code yX2_init cX2_init 1 none, Cond.methodLink RX2 3 objectInit, Cond.fieldLink RX2 9 "CharmBracelets$Ring" "kinds" "[I", Cond.instanceMethod yX4_init, Cond.code yX4_init cX4_init 1 none, Cond.methodLink RX4 3 objectInit, Cond.fieldLink RX4 9 "CharmBracelets$Text" "codes" "[I", Cond.methodLink RL 131 yL_cell, Cond.static yL_cell, Cond.initialized RL, Cond.code yL_cell cL_cell 2 (some .int), Cond.constant RL 7 (32452867), Cond.constant RL 8 (15485863), Cond.methodLink RL 74 yL_low, Cond.static yL_low, Cond.code yL_low cL_low 2 (some .int), Cond.constant RL 9 (2147483647), Cond.methodLink RL 135 yX5_make, Cond.instanceMethod yX5_make, Cond.selects RX5 yX5_make yX5_make]
def wsL_law_r4 : List Cond := [Cond.code yX5_make cX5_make 2 (some .int), Cond.methodLink RX5 55 yX5_isSize, Cond.static yX5_isSize, Cond.code yX5_isSize cX5_isSize 1 (some .boolean), Cond.instanceMethod yX2_becomeEmpty, Cond.selects RX2 yX2_becomeEmpty yX2_becomeEmpty, Cond.code yX2_becomeEmpty cX2_becomeEmpty 3 none, Cond.fieldLink RX2 15 "CharmBracelets$Ring" "size" "I", Cond.methodLink RX5 62 yX5_addFromBox, Cond.instanceMethod yX5_addFromBox, Cond.selects RX5 yX5_addFromBox yX5_addFromBox, Cond.code yX5_addFromBox cX5_addFromBox 3 (some .int), Cond.instanceMethod yX3_boxHasCharmsFor, Cond.selects RX3 yX3_boxHasCharmsFor yX3_boxHasCharmsFor, Cond.code yX3_boxHasCharmsFor cX3_boxHasCharmsFor 3 (some .boolean), Cond.instanceMethod yX2_charmsOf, Cond.selects RX2 yX2_charmsOf yX2_charmsOf, Cond.code yX2_charmsOf cX2_charmsOf 4 (some .int), Cond.methodLink RX2 25 yX2_at, Cond.instanceMethod yX2_at, Cond.selects RX2 yX2_at yX2_at, Cond.code yX2_at cX2_at 2 (some .int), Cond.instanceMethod yX3_freeNumber, Cond.selects RX3 yX3_freeNumber yX3_freeNumber]
def wsL_law_r5 : List Cond := [Cond.code yX3_freeNumber cX3_freeNumber 2 (some .int), Cond.methodLink RX5 41 yX5_record, Cond.instanceMethod yX5_record, Cond.selects RX5 yX5_record yX5_record, Cond.code yX5_record cX5_record 1 none, Cond.fieldLink RX5 231 "CharmBracelets" "recordedStates" "I", Cond.methodLink RX5 241 yX5_discardOldest, Cond.instanceMethod yX5_discardOldest, Cond.selects RX5 yX5_discardOldest yX5_discardOldest, Cond.code yX5_discardOldest cX5_discardOldest 3 none, Cond.instanceMethod yX3_becomeLike, Cond.selects RX3 yX3_becomeLike yX3_becomeLike, Cond.code yX3_becomeLike cX3_becomeLike 3 none, Cond.methodLink RX3 39 arraycopyName, Cond.native arraycopyName, Cond.static arraycopyName, Cond.initialized "java/lang/System", Cond.instanceMethod yX2_becomeLike, Cond.selects RX2 yX2_becomeLike yX2_becomeLike, Cond.code yX2_becomeLike cX2_becomeLike 2 none, Cond.methodLink RX2 19 arraycopyName, Cond.instanceMethod yX0_becomeLike, Cond.selects RX0 yX0_becomeLike yX0_becomeLike, Cond.code yX0_becomeLike cX0_becomeLike 2 none]
def wsL_law_r6 : List Cond := [Cond.fieldLink RX0 15 "CharmBracelets$Motif" "length" "I", Cond.methodLink RX0 19 arraycopyName, Cond.instanceMethod yX1_becomeLike, Cond.selects RX1 yX1_becomeLike yX1_becomeLike, Cond.code yX1_becomeLike cX1_becomeLike 3 none, Cond.fieldLink RX1 22 "CharmBracelets$NotedList" "length" "I", Cond.methodLink RX1 30 arraycopyName, Cond.instanceMethod yX3_takeOut, Cond.selects RX3 yX3_takeOut yX3_takeOut, Cond.code yX3_takeOut cX3_takeOut 3 none, Cond.methodLink RL 138 yX5_fill, Cond.instanceMethod yX5_fill, Cond.selects RX5 yX5_fill yX5_fill, Cond.code yX5_fill cX5_fill 4 (some .int), Cond.methodLink RX5 37 yX5_isCharm, Cond.static yX5_isCharm, Cond.code yX5_isCharm cX5_isCharm 1 (some .boolean), Cond.methodLink RL 141 yX5_weigh, Cond.instanceMethod yX5_weigh, Cond.selects RX5 yX5_weigh yX5_weigh, Cond.code yX5_weigh cX5_weigh 4 (some .int), Cond.methodLink RL 144 yX5_sign, Cond.instanceMethod yX5_sign, Cond.selects RX5 yX5_sign yX5_sign]
def wsL_law_r7 : List Cond := [Cond.code yX5_sign cX5_sign 4 (some .int), Cond.methodLink RX5 182 yX5_isKindOrEmpty, Cond.static yX5_isKindOrEmpty, Cond.code yX5_isKindOrEmpty cX5_isKindOrEmpty 1 (some .boolean), Cond.instanceMethod yX0_addSign, Cond.selects RX0 yX0_addSign yX0_addSign, Cond.code yX0_addSign cX0_addSign 2 none, Cond.methodLink RL 147 yX5_cutMotif, Cond.instanceMethod yX5_cutMotif, Cond.selects RX5 yX5_cutMotif yX5_cutMotif, Cond.code yX5_cutMotif cX5_cutMotif 1 (some .int), Cond.methodLink RL 150 yX5_roll, Cond.instanceMethod yX5_roll, Cond.selects RX5 yX5_roll yX5_roll, Cond.code yX5_roll cX5_roll 4 (some .int), Cond.instanceMethod yX3_find, Cond.selects RX3 yX3_find yX3_find, Cond.code yX3_find cX3_find 2 (some (.object "CharmBracelets$Ring")), Cond.methodLink RX5 102 yX5_changeAt, Cond.static yX5_changeAt, Cond.code yX5_changeAt cX5_changeAt 3 (some .int), Cond.methodLink RX5 106 yX5_change, Cond.instanceMethod yX5_change, Cond.selects RX5 yX5_change yX5_change]
def wsL_law_r8 : List Cond := [Cond.code yX5_change cX5_change 5 (some .int), Cond.instanceMethod yX2_differences, Cond.selects RX2 yX2_differences yX2_differences, Cond.code yX2_differences cX2_differences 5 (some .int), Cond.methodLink RX2 39 yX2_kindAfter, Cond.instanceMethod yX2_kindAfter, Cond.selects RX2 yX2_kindAfter yX2_kindAfter, Cond.code yX2_kindAfter cX2_kindAfter 4 (some .int), Cond.methodLink RX2 36 yX2_around, Cond.instanceMethod yX2_around, Cond.selects RX2 yX2_around yX2_around, Cond.code yX2_around cX2_around 2 (some .int), Cond.instanceMethod yX2_put, Cond.selects RX2 yX2_put yX2_put, Cond.code yX2_put cX2_put 3 none, Cond.methodLink RL 153 yX5_note, Cond.instanceMethod yX5_note, Cond.selects RX5 yX5_note yX5_note, Cond.code yX5_note cX5_note 4 (some .int), Cond.instanceMethod yX1_entryOf, Cond.selects RX1 yX1_entryOf yX1_entryOf, Cond.code yX1_entryOf cX1_entryOf 3 (some .int), Cond.instanceMethod yX2_isAlike, Cond.selects RX2 yX2_isAlike yX2_isAlike]
def wsL_law_r9 : List Cond := [Cond.code yX2_isAlike cX2_isAlike 3 (some .boolean), Cond.methodLink RX2 59 yX2_leastDifferences, Cond.instanceMethod yX2_leastDifferences, Cond.selects RX2 yX2_leastDifferences yX2_leastDifferences, Cond.code yX2_leastDifferences cX2_leastDifferences 6 (some .int), Cond.methodLink RX2 54 Lib.Math.min.name, Cond.static Lib.Math.min.name, Cond.initialized "java/lang/Math", Cond.code Lib.Math.min.name Lib.Math.min.code 2 (some .int), Cond.static yX5_changeCount, Cond.code yX5_changeCount cX5_changeCount 2 (some .int), Cond.methodLink RX2 50 yX2_differences, Cond.instanceMethod yX1_count, Cond.selects RX1 yX1_count yX1_count, Cond.code yX1_count cX1_count 3 none, Cond.methodLink RL 156 yX5_copy, Cond.instanceMethod yX5_copy, Cond.selects RX5 yX5_copy yX5_copy, Cond.code yX5_copy cX5_copy 3 (some .int), Cond.methodLink RL 159 yX5_remove, Cond.instanceMethod yX5_remove, Cond.selects RX5 yX5_remove yX5_remove, Cond.code yX5_remove cX5_remove 4 (some .int), Cond.instanceMethod yX3_boxHasRoomFor]
def wsL_law_r10 : List Cond := [Cond.selects RX3 yX3_boxHasRoomFor yX3_boxHasRoomFor, Cond.code yX3_boxHasRoomFor cX3_boxHasRoomFor 3 (some .boolean), Cond.instanceMethod yX2_charms, Cond.selects RX2 yX2_charms yX2_charms, Cond.code yX2_charms cX2_charms 1 (some .int), Cond.methodLink RX2 33 yX2_charmsOf, Cond.instanceMethod yX3_putBack, Cond.selects RX3 yX3_putBack yX3_putBack, Cond.code yX3_putBack cX3_putBack 3 none, Cond.methodLink RL 162 yX5_hang, Cond.instanceMethod yX5_hang, Cond.selects RX5 yX5_hang yX5_hang, Cond.code yX5_hang cX5_hang 5 (some .int), Cond.instanceMethod yX2_hasSlot, Cond.selects RX2 yX2_hasSlot yX2_hasSlot, Cond.code yX2_hasSlot cX2_hasSlot 2 (some .boolean), Cond.methodLink RL 165 yL_enough, Cond.static yL_enough, Cond.code yL_enough cL_enough 5 (some .boolean), Cond.methodLink RL 49 yL_charms, Cond.static yL_charms, Cond.code yL_charms cL_charms 5 (some .int), Cond.methodLink RL 12 yL_slots, Cond.static yL_slots]
def wsL_law_r11 : List Cond := [Cond.code yL_slots cL_slots 5 (some .int), Cond.methodLink RL 24 yL_kind, Cond.static yL_kind, Cond.code yL_kind cL_kind 3 (some .int), Cond.methodLink RL 169 yL_room, Cond.static yL_room, Cond.code yL_room cL_room 5 (some .boolean), Cond.methodLink RL 28 yL_lay, Cond.static yL_lay, Cond.code yL_lay cL_lay 5 (some .long), Cond.constantLong RL 18 (-1), Cond.methodLink RL 172 yX5_takeOff, Cond.instanceMethod yX5_takeOff, Cond.selects RX5 yX5_takeOff yX5_takeOff, Cond.code yX5_takeOff cX5_takeOff 5 (some .int), Cond.methodLink RL 175 yX5_swap, Cond.instanceMethod yX5_swap, Cond.selects RX5 yX5_swap yX5_swap, Cond.code yX5_swap cX5_swap 5 (some .int), Cond.instanceMethod yX2_exchange, Cond.selects RX2 yX2_exchange yX2_exchange, Cond.code yX2_exchange cX2_exchange 4 none, Cond.methodLink RX2 29 yX2_put, Cond.instanceMethod yX3_lean]
def wsL_law_r12 : List Cond := [Cond.selects RX3 yX3_lean yX3_lean, Cond.code yX3_lean cX3_lean 2 (some .int), Cond.methodLink RX3 86 Lib.Math.abs.name, Cond.static Lib.Math.abs.name, Cond.code Lib.Math.abs.name Lib.Math.abs.code 1 (some .int), Cond.methodLink RX3 82 yX3_quarterWeight, Cond.instanceMethod yX3_quarterWeight, Cond.selects RX3 yX3_quarterWeight yX3_quarterWeight, Cond.code yX3_quarterWeight cX3_quarterWeight 3 (some .int), Cond.methodLink RX3 78 yX3_weight, Cond.instanceMethod yX3_weight, Cond.selects RX3 yX3_weight yX3_weight, Cond.code yX3_weight cX3_weight 7 (some .int), Cond.methodLink RL 93 yL_lean, Cond.static yL_lean, Cond.code yL_lean cL_lean 6 (some .int), Cond.methodLink RL 45 yL_weight, Cond.static yL_weight, Cond.code yL_weight cL_weight 7 (some .int), Cond.methodLink RL 35 yL_rolledBy, Cond.static yL_rolledBy, Cond.code yL_rolledBy cL_rolledBy 6 (some .long), Cond.methodLink RL 20 yL_rolled, Cond.static yL_rolled]
def wsL_law_r13 : List Cond := [Cond.code yL_rolled cL_rolled 5 (some .long), Cond.methodLink RL 32 yL_mirrored, Cond.static yL_mirrored, Cond.code yL_mirrored cL_mirrored 6 (some .long), Cond.methodLink RL 126 yL_unlike, Cond.static yL_unlike, Cond.code yL_unlike cL_unlike 6 (some .int), Cond.methodLink RL 178 yX5_turn, Cond.instanceMethod yX5_turn, Cond.selects RX5 yX5_turn yX5_turn, Cond.code yX5_turn cX5_turn 4 (some .int), Cond.methodLink RL 181 yX5_mirror, Cond.instanceMethod yX5_mirror, Cond.selects RX5 yX5_mirror yX5_mirror, Cond.code yX5_mirror cX5_mirror 3 (some .int), Cond.methodLink RL 61 yL_least, Cond.static yL_least, Cond.code yL_least cL_least 8 (some .long), Cond.methodLink RL 39 yL_changes, Cond.static yL_changes, Cond.code yL_changes cL_changes 3 (some .int), Cond.methodLink RL 42 yL_image, Cond.static yL_image, Cond.code yL_image cL_image 7 (some .long)]
def wsL_law_r14 : List Cond := [Cond.methodLink RL 184 yX5_setMotif, Cond.instanceMethod yX5_setMotif, Cond.selects RX5 yX5_setMotif yX5_setMotif, Cond.code yX5_setMotif cX5_setMotif 7 (some .int), Cond.instanceMethod yX2_leastChange, Cond.selects RX2 yX2_leastChange yX2_leastChange, Cond.code yX2_leastChange cX2_leastChange 6 (some .int), Cond.methodLink RX2 63 yX2_comesFirst, Cond.instanceMethod yX2_comesFirst, Cond.selects RX2 yX2_comesFirst yX2_comesFirst, Cond.code yX2_comesFirst cX2_comesFirst 6 (some .boolean), Cond.instanceMethod yX0_becomeNone, Cond.selects RX0 yX0_becomeNone yX0_becomeNone, Cond.code yX0_becomeNone cX0_becomeNone 1 none, Cond.instanceMethod yX0_slotSet, Cond.selects RX0 yX0_slotSet yX0_slotSet, Cond.code yX0_slotSet cX0_slotSet 4 (some .int), Cond.methodLink RX0 30 yX0_isAt, Cond.instanceMethod yX0_isAt, Cond.selects RX0 yX0_isAt yX0_isAt, Cond.code yX0_isAt cX0_isAt 4 (some .boolean), Cond.methodLink RX5 174 yJ6_bitCount_0f7a4, Cond.static yJ6_bitCount_0f7a4, Cond.initialized RJ6]
def wsL_law_r15 : List Cond := [Cond.code yJ6_bitCount_0f7a4 cJ6_bitCount_0f7a4 1 (some .int), Cond.constant RJ6 265 (1431655765), Cond.constant RJ6 266 (858993459), Cond.constant RJ6 267 (252645135), Cond.methodLink RL 77 yL_places, Cond.static yL_places, Cond.code yL_places cL_places 8 (some .int), Cond.methodLink RL 114 yL_ones, Cond.static yL_ones, Cond.code yL_ones cL_ones 3 (some .int), Cond.methodLink RL 187 yL_box, Cond.static yL_box, Cond.code yL_box cL_box 11 (some .boolean), Cond.methodLink RL 52 yX5_kind, Cond.instanceMethod yX5_kind, Cond.selects RX5 yX5_kind yX5_kind, Cond.code yX5_kind cX5_kind 3 (some .int), Cond.instanceMethod yX3_charmsHung, Cond.selects RX3 yX3_charmsHung yX3_charmsHung, Cond.code yX3_charmsHung cX3_charmsHung 4 (some .int), Cond.methodLink RL 57 yX5_motif, Cond.instanceMethod yX5_motif, Cond.selects RX5 yX5_motif yX5_motif, Cond.code yX5_motif cX5_motif 2 (some .int)]
def wsL_law_r16 : List Cond := [Cond.methodLink RL 64 yX5_entry, Cond.instanceMethod yX5_entry, Cond.selects RX5 yX5_entry yX5_entry, Cond.code yX5_entry cX5_entry 4 (some .int), Cond.instanceMethod yX3_ringsAlike, Cond.selects RX3 yX3_ringsAlike yX3_ringsAlike, Cond.code yX3_ringsAlike cX3_ringsAlike 5 (some .int), Cond.methodLink RL 67 yX5_bracelets, Cond.instanceMethod yX5_bracelets, Cond.selects RX5 yX5_bracelets yX5_bracelets, Cond.code yX5_bracelets cX5_bracelets 1 (some .int), Cond.instanceMethod yX3_ringSet, Cond.selects RX3 yX3_ringSet yX3_ringSet, Cond.code yX3_ringSet cX3_ringSet 3 (some .int), Cond.methodLink RL 71 yX5_entries, Cond.instanceMethod yX5_entries, Cond.selects RX5 yX5_entries yX5_entries, Cond.code yX5_entries cX5_entries 1 (some .int), Cond.methodLink RL 191 yL_ring, Cond.static yL_ring, Cond.code yL_ring cL_ring 18 (some .boolean), Cond.methodLink RL 81 yX5_slot, Cond.instanceMethod yX5_slot, Cond.selects RX5 yX5_slot yX5_slot]
def wsL_law_r17 : List Cond := [Cond.code yX5_slot cX5_slot 4 (some .int), Cond.methodLink RL 84 yX5_least, Cond.instanceMethod yX5_least, Cond.selects RX5 yX5_least yX5_least, Cond.code yX5_least cX5_least 5 (some .int), Cond.methodLink RX5 120 yX5_isLevel, Cond.static yX5_isLevel, Cond.code yX5_isLevel cX5_isLevel 1 (some .boolean), Cond.methodLink RL 87 yX5_quarter, Cond.instanceMethod yX5_quarter, Cond.selects RX5 yX5_quarter yX5_quarter, Cond.code yX5_quarter cX5_quarter 4 (some .int), Cond.methodLink RL 90 yX5_bracelet, Cond.instanceMethod yX5_bracelet, Cond.selects RX5 yX5_bracelet yX5_bracelet, Cond.code yX5_bracelet cX5_bracelet 4 (some .int), Cond.methodLink RL 96 yX5_orbit, Cond.instanceMethod yX5_orbit, Cond.selects RX5 yX5_orbit yX5_orbit, Cond.code yX5_orbit cX5_orbit 4 (some .int), Cond.instanceMethod yX2_differentRings, Cond.selects RX2 yX2_differentRings yX2_differentRings, Cond.code yX2_differentRings cX2_differentRings 5 (some .int), Cond.methodLink RL 99 yL_stays]
def wsL_law_r18 : List Cond := [Cond.static yL_stays, Cond.code yL_stays cL_stays 5 (some .int), Cond.methodLink RL 102 yX5_fixed, Cond.instanceMethod yX5_fixed, Cond.selects RX5 yX5_fixed yX5_fixed, Cond.code yX5_fixed cX5_fixed 5 (some .int), Cond.methodLink RL 105 yX5_motifAt, Cond.instanceMethod yX5_motifAt, Cond.selects RX5 yX5_motifAt yX5_motifAt, Cond.code yX5_motifAt cX5_motifAt 3 (some .int), Cond.methodLink RL 108 yX5_staysAt, Cond.instanceMethod yX5_staysAt, Cond.selects RX5 yX5_staysAt yX5_staysAt, Cond.code yX5_staysAt cX5_staysAt 6 (some .int), Cond.instanceMethod yX2_slotsTurnedInto, Cond.selects RX2 yX2_slotsTurnedInto yX2_slotsTurnedInto, Cond.code yX2_slotsTurnedInto cX2_slotsTurnedInto 6 (some .int), Cond.methodLink RL 111 yX5_ifHung, Cond.instanceMethod yX5_ifHung, Cond.selects RX5 yX5_ifHung yX5_ifHung, Cond.code yX5_ifHung cX5_ifHung 5 (some .int), Cond.methodLink RL 195 yL_two, Cond.static yL_two, Cond.code yL_two cL_two 9 (some .boolean)]
def wsL_law_r19 : List Cond := [Cond.methodLink RL 120 yX5_alike, Cond.instanceMethod yX5_alike, Cond.selects RX5 yX5_alike yX5_alike, Cond.code yX5_alike cX5_alike 6 (some .int), Cond.methodLink RL 123 yX5_distance, Cond.instanceMethod yX5_distance, Cond.selects RX5 yX5_distance yX5_distance, Cond.code yX5_distance cX5_distance 5 (some .int), Cond.methodLink RL 199 yL_best, Cond.static yL_best, Cond.code yL_best cL_best 11 (some .boolean), Cond.methodLink RL 117 yX5_bestSwap, Cond.instanceMethod yX5_bestSwap, Cond.selects RX5 yX5_bestSwap yX5_bestSwap, Cond.code yX5_bestSwap cX5_bestSwap 8 (some .int), Cond.methodLink RX5 218 yX5_leanAfterSwap, Cond.instanceMethod yX5_leanAfterSwap, Cond.selects RX5 yX5_leanAfterSwap yX5_leanAfterSwap, Cond.code yX5_leanAfterSwap cX5_leanAfterSwap 5 (some .int)]
def wsL_law : List Cond := (wsL_law_r1 ++ (wsL_law_r2 ++ (wsL_law_r3 ++ (wsL_law_r4 ++ (wsL_law_r5 ++ (wsL_law_r6 ++ (wsL_law_r7 ++ (wsL_law_r8 ++ (wsL_law_r9 ++ (wsL_law_r10 ++ (wsL_law_r11 ++ (wsL_law_r12 ++ (wsL_law_r13 ++ (wsL_law_r14 ++ (wsL_law_r15 ++ (wsL_law_r16 ++ (wsL_law_r17 ++ (wsL_law_r18 ++ wsL_law_r19)))))))))))))))))) ++ wsX50 ++ wsX30 ++ wsX40 ++ wsX20 ++ wsX00 ++ wsX10 ++ ([] : List Cond)
set_option maxRecDepth 20000 in
theorem wsL_law_in1 : ∀ w ∈ wsL_law_r1, w ∈ lw_tbl := fun w h => (goodIn_p wsL_law_r1 [57, 60] (by decide +kernel) (by decide +kernel) w h).1
set_option maxRecDepth 20000 in
theorem wsL_law_in2 : ∀ w ∈ wsL_law_r2, w ∈ lw_tbl := fun w h => (goodIn_p wsL_law_r2 [65, 73, 89] (by decide +kernel) (by decide +kernel) w h).1
set_option maxRecDepth 20000 in
theorem wsL_law_in3 : ∀ w ∈ wsL_law_r3, w ∈ lw_tbl := fun w h => (goodIn_p wsL_law_r3 [95, 147, 439, 444] (by decide +kernel) (by decide +kernel) w h).1
set_option maxRecDepth 20000 in
theorem wsL_law_in4 : ∀ w ∈ wsL_law_r4, w ∈ lw_tbl := fun w h => (goodIn_p wsL_law_r4 [227, 230, 234, 238, 242, 246, 250] (by decide +kernel) (by decide +kernel) w h).1
set_option maxRecDepth 20000 in
theorem wsL_law_in5 : ∀ w ∈ wsL_law_r5, w ∈ lw_tbl := fun w h => (goodIn_p wsL_law_r5 [254, 192, 196, 200, 207, 212] (by decide +kernel) (by decide +kernel) w h).1
set_option maxRecDepth 20000 in
theorem wsL_law_in6 : ∀ w ∈ wsL_law_r6, w ∈ lw_tbl := fun w h => (goodIn_p wsL_law_r6 [217, 258, 185, 188, 223] (by decide +kernel) (by decide +kernel) w h).1
set_option maxRecDepth 20000 in
theorem wsL_law_in7 : ∀ w ∈ wsL_law_r7, w ∈ lw_tbl := fun w h => (goodIn_p wsL_law_r7 [405, 408, 385, 412, 332, 267, 335] (by decide +kernel) (by decide +kernel) w h).1
set_option maxRecDepth 20000 in
theorem wsL_law_in8 : ∀ w ∈ wsL_law_r8, w ∈ lw_tbl := fun w h => (goodIn_p wsL_law_r8 [339, 343, 347, 351, 298, 416, 420] (by decide +kernel) (by decide +kernel) w h).1
set_option maxRecDepth 20000 in
theorem wsL_law_in9 : ∀ w ∈ wsL_law_r9, w ∈ lw_tbl := fun w h => (goodIn_p wsL_law_r9 [424, 428, 432, 371, 436, 263, 271] (by decide +kernel) (by decide +kernel) w h).1
set_option maxRecDepth 20000 in
theorem wsL_law_in10 : ∀ w ∈ wsL_law_r10, w ∈ lw_tbl := fun w h => (goodIn_p wsL_law_r10 [275, 279, 284, 289, 293, 610, 489] (by decide +kernel) (by decide +kernel) w h).1
set_option maxRecDepth 20000 in
theorem wsL_law_in11 : ∀ w ∈ wsL_law_r11, w ∈ lw_tbl := fun w h => (goodIn_p wsL_law_r11 [448, 452, 613, 455, 302, 306, 310] (by decide +kernel) (by decide +kernel) w h).1
set_option maxRecDepth 20000 in
theorem wsL_law_in12 : ∀ w ∈ wsL_law_r12, w ∈ lw_tbl := fun w h => (goodIn_p wsL_law_r12 [315, 328, 319, 323, 477, 480, 459] (by decide +kernel) (by decide +kernel) w h).1
set_option maxRecDepth 20000 in
theorem wsL_law_in13 : ∀ w ∈ wsL_law_r13, w ∈ lw_tbl := fun w h => (goodIn_p wsL_law_r13 [462, 465, 492, 356, 360, 468, 471, 474] (by decide +kernel) (by decide +kernel) w h).1
set_option maxRecDepth 20000 in
theorem wsL_law_in14 : ∀ w ∈ wsL_law_r14, w ∈ lw_tbl := fun w h => (goodIn_p wsL_law_r14 [364, 368, 376, 380, 389, 393] (by decide +kernel) (by decide +kernel) w h).1
set_option maxRecDepth 20000 in
theorem wsL_law_in15 : ∀ w ∈ wsL_law_r15, w ∈ lw_tbl := fun w h => (goodIn_p wsL_law_r15 [398, 483, 486, 495, 499, 503, 507] (by decide +kernel) (by decide +kernel) w h).1
set_option maxRecDepth 20000 in
theorem wsL_law_in16 : ∀ w ∈ wsL_law_r16, w ∈ lw_tbl := fun w h => (goodIn_p wsL_law_r16 [511, 515, 520, 524, 528, 531] (by decide +kernel) (by decide +kernel) w h).1
set_option maxRecDepth 20000 in
theorem wsL_law_in17 : ∀ w ∈ wsL_law_r17, w ∈ lw_tbl := fun w h => (goodIn_p wsL_law_r17 [535, 539, 542, 546, 551, 556, 560] (by decide +kernel) (by decide +kernel) w h).1
set_option maxRecDepth 20000 in
theorem wsL_law_in18 : ∀ w ∈ wsL_law_r18, w ∈ lw_tbl := fun w h => (goodIn_p wsL_law_r18 [563, 567, 571, 575, 579, 583, 597] (by decide +kernel) (by decide +kernel) w h).1
set_option maxRecDepth 20000 in
theorem wsL_law_in19 : ∀ w ∈ wsL_law_r19, w ∈ lw_tbl := fun w h => (goodIn_p wsL_law_r19 [601, 606, 586, 590, 594] (by decide +kernel) (by decide +kernel) w h).1
theorem inX0 : ∀ w ∈ wsX00, w ∈ lw_tbl := by decide +kernel
theorem inX1 : ∀ w ∈ wsX10, w ∈ lw_tbl := by decide +kernel
theorem inX2 : ∀ w ∈ wsX20, w ∈ lw_tbl := by decide +kernel
theorem inX3 : ∀ w ∈ wsX30, w ∈ lw_tbl := by decide +kernel
theorem inX4 : ∀ w ∈ wsX40, w ∈ lw_tbl := by decide +kernel
theorem inX5 : ∀ w ∈ wsX50, w ∈ lw_tbl := by decide +kernel
theorem wsL_law_in : ∀ w ∈ wsL_law, w ∈ lw_tbl := by
  intro w h
  unfold wsL_law at h
  rcases List.mem_append.mp h with h | h
  rotate_left
  · exact absurd h List.not_mem_nil
  rcases List.mem_append.mp h with h | h
  rotate_left
  · exact inX1 w h
  rcases List.mem_append.mp h with h | h
  rotate_left
  · exact inX0 w h
  rcases List.mem_append.mp h with h | h
  rotate_left
  · exact inX2 w h
  rcases List.mem_append.mp h with h | h
  rotate_left
  · exact inX4 w h
  rcases List.mem_append.mp h with h | h
  rotate_left
  · exact inX3 w h
  rcases List.mem_append.mp h with h | h
  rotate_left
  · exact inX5 w h
  rcases List.mem_append.mp h with h | h
  · exact wsL_law_in1 w h
  rcases List.mem_append.mp h with h | h
  · exact wsL_law_in2 w h
  rcases List.mem_append.mp h with h | h
  · exact wsL_law_in3 w h
  rcases List.mem_append.mp h with h | h
  · exact wsL_law_in4 w h
  rcases List.mem_append.mp h with h | h
  · exact wsL_law_in5 w h
  rcases List.mem_append.mp h with h | h
  · exact wsL_law_in6 w h
  rcases List.mem_append.mp h with h | h
  · exact wsL_law_in7 w h
  rcases List.mem_append.mp h with h | h
  · exact wsL_law_in8 w h
  rcases List.mem_append.mp h with h | h
  · exact wsL_law_in9 w h
  rcases List.mem_append.mp h with h | h
  · exact wsL_law_in10 w h
  rcases List.mem_append.mp h with h | h
  · exact wsL_law_in11 w h
  rcases List.mem_append.mp h with h | h
  · exact wsL_law_in12 w h
  rcases List.mem_append.mp h with h | h
  · exact wsL_law_in13 w h
  rcases List.mem_append.mp h with h | h
  · exact wsL_law_in14 w h
  rcases List.mem_append.mp h with h | h
  · exact wsL_law_in15 w h
  rcases List.mem_append.mp h with h | h
  · exact wsL_law_in16 w h
  rcases List.mem_append.mp h with h | h
  · exact wsL_law_in17 w h
  rcases List.mem_append.mp h with h | h
  · exact wsL_law_in18 w h
  exact wsL_law_in19 w h
theorem inlX0 : ∀ w ∈ wsX00, w ∈ wsL_law := fun _ h => List.mem_append_left _ (List.mem_append_left _ (List.mem_append_right _ h))
theorem inlX1 : ∀ w ∈ wsX10, w ∈ wsL_law := fun _ h => List.mem_append_left _ (List.mem_append_right _ h)
theorem inlX2 : ∀ w ∈ wsX20, w ∈ wsL_law := fun _ h => List.mem_append_left _ (List.mem_append_left _ (List.mem_append_left _ (List.mem_append_right _ h)))
theorem inlX3 : ∀ w ∈ wsX30, w ∈ wsL_law := fun _ h => List.mem_append_left _ (List.mem_append_left _ (List.mem_append_left _ (List.mem_append_left _ (List.mem_append_left _ (List.mem_append_right _ h)))))
theorem inlX4 : ∀ w ∈ wsX40, w ∈ wsL_law := fun _ h => List.mem_append_left _ (List.mem_append_left _ (List.mem_append_left _ (List.mem_append_left _ (List.mem_append_right _ h))))
theorem inlX5 : ∀ w ∈ wsX50, w ∈ wsL_law := fun _ h => List.mem_append_left _ (List.mem_append_left _ (List.mem_append_left _ (List.mem_append_left _ (List.mem_append_left _ (List.mem_append_left _ (List.mem_append_right _ h))))))
theorem hL7_law : Cond.constantLong RL 10 (7) ∈ wsL_law := by decide +kernel
theorem hAl_law : Cond.arrayClass .long ∈ wsL_law ∧ Cond.arrayClass .int ∈ wsL_law := by decide +kernel
theorem hN5_law : Cond.classLink RL 53 RX5 ∈ wsL_law ∧ Cond.instantiable RX5 7 ∈ wsL_law ∧ Cond.initialized RX5 ∈ wsL_law := by decide +kernel
