/-! the law's own methods: words, instructions -/
def wsL_cell : List Cond := .code yL_cell cL_cell 2 (some .int) :: ([.constant RL 7 (32452867), .constant RL 8 (15485863)])
def wsL_low : List Cond := .code yL_low cL_low 2 (some .int) :: ([.constant RL 9 (2147483647)])
def wsL_slots : List Cond := .code yL_slots cL_slots 5 (some .int) :: ([.constantLong RL 10 (7)])
def wsL_kind : List Cond := .code yL_kind cL_kind 3 (some .int) :: ([.methodLink RL 12 yL_slots, .static yL_slots, .initialized RL, .code yL_slots cL_slots 5 (some .int), .constantLong RL 10 (7)])
def wsL_lay : List Cond := .code yL_lay cL_lay 5 (some .long) :: ([.constantLong RL 10 (7), .constantLong RL 18 (-1), .methodLink RL 12 yL_slots, .static yL_slots, .initialized RL, .code yL_slots cL_slots 5 (some .int)])
def wsL_rolled : List Cond := .code yL_rolled cL_rolled 5 (some .long) :: ([.constantLong RL 10 (7), .methodLink RL 12 yL_slots, .static yL_slots, .initialized RL, .code yL_slots cL_slots 5 (some .int)])
def wsL_rolledBy : List Cond := .code yL_rolledBy cL_rolledBy 6 (some .long) :: ([.methodLink RL 20 yL_rolled, .static yL_rolled, .initialized RL, .code yL_rolled cL_rolled 5 (some .long), .constantLong RL 10 (7), .methodLink RL 12 yL_slots, .static yL_slots, .code yL_slots cL_slots 5 (some .int)])
def wsL_mirrored : List Cond := .code yL_mirrored cL_mirrored 6 (some .long) :: ([.methodLink RL 12 yL_slots, .static yL_slots, .initialized RL, .code yL_slots cL_slots 5 (some .int), .constantLong RL 10 (7), .methodLink RL 24 yL_kind, .static yL_kind, .code yL_kind cL_kind 3 (some .int), .methodLink RL 28 yL_lay, .static yL_lay, .code yL_lay cL_lay 5 (some .long), .constantLong RL 18 (-1)])
def wsL_image : List Cond := .code yL_image cL_image 7 (some .long) :: ([.methodLink RL 12 yL_slots, .static yL_slots, .initialized RL, .code yL_slots cL_slots 5 (some .int), .constantLong RL 10 (7), .methodLink RL 32 yL_mirrored, .static yL_mirrored, .code yL_mirrored cL_mirrored 6 (some .long), .methodLink RL 24 yL_kind, .static yL_kind, .code yL_kind cL_kind 3 (some .int), .methodLink RL 28 yL_lay, .static yL_lay, .code yL_lay cL_lay 5 (some .long), .constantLong RL 18 (-1), .methodLink RL 35 yL_rolledBy, .static yL_rolledBy, .code yL_rolledBy cL_rolledBy 6 (some .long), .methodLink RL 20 yL_rolled, .static yL_rolled, .code yL_rolled cL_rolled 5 (some .long)])
def wsL_changes : List Cond := .code yL_changes cL_changes 3 (some .int) :: ([.methodLink RL 12 yL_slots, .static yL_slots, .initialized RL, .code yL_slots cL_slots 5 (some .int), .constantLong RL 10 (7)])
def wsL_least_r1 : List Cond := [Cond.methodLink RL 39 yL_changes, Cond.static yL_changes, Cond.initialized RL, Cond.code yL_changes cL_changes 3 (some .int), Cond.methodLink RL 12 yL_slots, Cond.static yL_slots, Cond.code yL_slots cL_slots 5 (some .int), Cond.constantLong RL 10 (7), Cond.methodLink RL 42 yL_image, Cond.static yL_image, Cond.code yL_image cL_image 7 (some .long), Cond.methodLink RL 32 yL_mirrored, Cond.static yL_mirrored, Cond.code yL_mirrored cL_mirrored 6 (some .long), Cond.methodLink RL 24 yL_kind, Cond.static yL_kind, Cond.code yL_kind cL_kind 3 (some .int), Cond.methodLink RL 28 yL_lay, Cond.static yL_lay, Cond.code yL_lay cL_lay 5 (some .long), Cond.constantLong RL 18 (-1), Cond.methodLink RL 35 yL_rolledBy, Cond.static yL_rolledBy, Cond.code yL_rolledBy cL_rolledBy 6 (some .long)]
def wsL_least_r2 : List Cond := [Cond.methodLink RL 20 yL_rolled, Cond.static yL_rolled, Cond.code yL_rolled cL_rolled 5 (some .long)]
def wsL_least : List Cond := .code yL_least cL_least 8 (some .long) :: ((wsL_least_r1 ++ wsL_least_r2))
def wsL_stays_r1 : List Cond := [Cond.methodLink RL 39 yL_changes, Cond.static yL_changes, Cond.initialized RL, Cond.code yL_changes cL_changes 3 (some .int), Cond.methodLink RL 12 yL_slots, Cond.static yL_slots, Cond.code yL_slots cL_slots 5 (some .int), Cond.constantLong RL 10 (7), Cond.methodLink RL 42 yL_image, Cond.static yL_image, Cond.code yL_image cL_image 7 (some .long), Cond.methodLink RL 32 yL_mirrored, Cond.static yL_mirrored, Cond.code yL_mirrored cL_mirrored 6 (some .long), Cond.methodLink RL 24 yL_kind, Cond.static yL_kind, Cond.code yL_kind cL_kind 3 (some .int), Cond.methodLink RL 28 yL_lay, Cond.static yL_lay, Cond.code yL_lay cL_lay 5 (some .long), Cond.constantLong RL 18 (-1), Cond.methodLink RL 35 yL_rolledBy, Cond.static yL_rolledBy, Cond.code yL_rolledBy cL_rolledBy 6 (some .long)]
def wsL_stays_r2 : List Cond := [Cond.methodLink RL 20 yL_rolled, Cond.static yL_rolled, Cond.code yL_rolled cL_rolled 5 (some .long)]
def wsL_stays : List Cond := .code yL_stays cL_stays 5 (some .int) :: ((wsL_stays_r1 ++ wsL_stays_r2))
def wsL_weight : List Cond := .code yL_weight cL_weight 7 (some .int) :: ([.methodLink RL 24 yL_kind, .static yL_kind, .initialized RL, .code yL_kind cL_kind 3 (some .int), .methodLink RL 12 yL_slots, .static yL_slots, .code yL_slots cL_slots 5 (some .int), .constantLong RL 10 (7)])
def wsL_lean : List Cond := .code yL_lean cL_lean 6 (some .int) :: ([.methodLink RL 12 yL_slots, .static yL_slots, .initialized RL, .code yL_slots cL_slots 5 (some .int), .constantLong RL 10 (7), .methodLink RL 45 yL_weight, .static yL_weight, .code yL_weight cL_weight 7 (some .int), .methodLink RL 24 yL_kind, .static yL_kind, .code yL_kind cL_kind 3 (some .int)])
def wsL_places : List Cond := .code yL_places cL_places 8 (some .int) :: ([.methodLink RL 12 yL_slots, .static yL_slots, .initialized RL, .code yL_slots cL_slots 5 (some .int), .constantLong RL 10 (7), .methodLink RL 24 yL_kind, .static yL_kind, .code yL_kind cL_kind 3 (some .int)])
def wsL_ones : List Cond := .code yL_ones cL_ones 3 (some .int) :: ([])
def wsL_charms : List Cond := .code yL_charms cL_charms 5 (some .int) :: ([.methodLink RL 12 yL_slots, .static yL_slots, .initialized RL, .code yL_slots cL_slots 5 (some .int), .constantLong RL 10 (7), .methodLink RL 24 yL_kind, .static yL_kind, .code yL_kind cL_kind 3 (some .int)])
def wsL_unlike : List Cond := .code yL_unlike cL_unlike 6 (some .int) :: ([.methodLink RL 12 yL_slots, .static yL_slots, .initialized RL, .code yL_slots cL_slots 5 (some .int), .constantLong RL 10 (7), .methodLink RL 24 yL_kind, .static yL_kind, .code yL_kind cL_kind 3 (some .int)])
def wsL_box_r1 : List Cond := [Cond.methodLink RL 49 yL_charms, Cond.static yL_charms, Cond.initialized RL, Cond.code yL_charms cL_charms 5 (some .int), Cond.methodLink RL 12 yL_slots, Cond.static yL_slots, Cond.code yL_slots cL_slots 5 (some .int), Cond.constantLong RL 10 (7), Cond.methodLink RL 24 yL_kind, Cond.static yL_kind, Cond.code yL_kind cL_kind 3 (some .int), Cond.methodLink RL 52 yX5_kind, Cond.instanceMethod yX5_kind, Cond.selects RX5 yX5_kind yX5_kind, Cond.initialized RX5, Cond.code yX5_kind cX5_kind 3 (some .int), Cond.fieldLink RX5 10 "CharmBracelets" "now" "LCharmBracelets$State;", Cond.methodLink RX5 37 yX5_isCharm, Cond.static yX5_isCharm, Cond.code yX5_isCharm cX5_isCharm 1 (some .boolean), Cond.instanceMethod yX3_charmsHung, Cond.initialized RX3, Cond.selects RX3 yX3_charmsHung yX3_charmsHung, Cond.code yX3_charmsHung cX3_charmsHung 4 (some .int)]
def wsL_box_r2 : List Cond := [Cond.fieldLink RX3 20 "CharmBracelets$State" "rings" "[LCharmBracelets$Ring;", Cond.instanceMethod yX2_charmsOf, Cond.initialized RX2, Cond.selects RX2 yX2_charmsOf yX2_charmsOf, Cond.code yX2_charmsOf cX2_charmsOf 4 (some .int), Cond.fieldLink RX2 15 "CharmBracelets$Ring" "size" "I", Cond.methodLink RX2 25 yX2_at, Cond.instanceMethod yX2_at, Cond.selects RX2 yX2_at yX2_at, Cond.code yX2_at cX2_at 2 (some .int), Cond.fieldLink RX2 9 "CharmBracelets$Ring" "kinds" "[I", Cond.methodLink RL 57 yX5_motif, Cond.instanceMethod yX5_motif, Cond.selects RX5 yX5_motif yX5_motif, Cond.code yX5_motif cX5_motif 2 (some .int), Cond.methodLink RL 61 yL_least, Cond.static yL_least, Cond.code yL_least cL_least 8 (some .long), Cond.methodLink RL 39 yL_changes, Cond.static yL_changes, Cond.code yL_changes cL_changes 3 (some .int), Cond.methodLink RL 42 yL_image, Cond.static yL_image, Cond.code yL_image cL_image 7 (some .long)]
def wsL_box_r3 : List Cond := [Cond.methodLink RL 32 yL_mirrored, Cond.static yL_mirrored, Cond.code yL_mirrored cL_mirrored 6 (some .long), Cond.methodLink RL 28 yL_lay, Cond.static yL_lay, Cond.code yL_lay cL_lay 5 (some .long), Cond.constantLong RL 18 (-1), Cond.methodLink RL 35 yL_rolledBy, Cond.static yL_rolledBy, Cond.code yL_rolledBy cL_rolledBy 6 (some .long), Cond.methodLink RL 20 yL_rolled, Cond.static yL_rolled, Cond.code yL_rolled cL_rolled 5 (some .long), Cond.methodLink RL 64 yX5_entry, Cond.instanceMethod yX5_entry, Cond.selects RX5 yX5_entry yX5_entry, Cond.code yX5_entry cX5_entry 4 (some .int), Cond.instanceMethod yX3_ringsAlike, Cond.selects RX3 yX3_ringsAlike yX3_ringsAlike, Cond.code yX3_ringsAlike cX3_ringsAlike 5 (some .int), Cond.instanceMethod yX2_isAlike, Cond.selects RX2 yX2_isAlike yX2_isAlike, Cond.code yX2_isAlike cX2_isAlike 3 (some .boolean), Cond.methodLink RX2 59 yX2_leastDifferences]
def wsL_box_r4 : List Cond := [Cond.instanceMethod yX2_leastDifferences, Cond.selects RX2 yX2_leastDifferences yX2_leastDifferences, Cond.code yX2_leastDifferences cX2_leastDifferences 6 (some .int), Cond.methodLink RX2 54 Lib.Math.min.name, Cond.static Lib.Math.min.name, Cond.initialized "java/lang/Math", Cond.code Lib.Math.min.name Lib.Math.min.code 2 (some .int), Cond.static yX5_changeCount, Cond.code yX5_changeCount cX5_changeCount 2 (some .int), Cond.static yX5_changeAt, Cond.code yX5_changeAt cX5_changeAt 3 (some .int), Cond.methodLink RX2 50 yX2_differences, Cond.instanceMethod yX2_differences, Cond.selects RX2 yX2_differences yX2_differences, Cond.code yX2_differences cX2_differences 5 (some .int), Cond.methodLink RX2 39 yX2_kindAfter, Cond.instanceMethod yX2_kindAfter, Cond.selects RX2 yX2_kindAfter yX2_kindAfter, Cond.code yX2_kindAfter cX2_kindAfter 4 (some .int), Cond.methodLink RX2 36 yX2_around, Cond.instanceMethod yX2_around, Cond.selects RX2 yX2_around yX2_around, Cond.code yX2_around cX2_around 2 (some .int), Cond.methodLink RL 67 yX5_bracelets]
def wsL_box_r5 : List Cond := [Cond.instanceMethod yX5_bracelets, Cond.selects RX5 yX5_bracelets yX5_bracelets, Cond.code yX5_bracelets cX5_bracelets 1 (some .int), Cond.instanceMethod yX3_ringSet, Cond.selects RX3 yX3_ringSet yX3_ringSet, Cond.code yX3_ringSet cX3_ringSet 3 (some .int), Cond.methodLink RL 71 yX5_entries, Cond.instanceMethod yX5_entries, Cond.selects RX5 yX5_entries yX5_entries, Cond.code yX5_entries cX5_entries 1 (some .int)]
def wsL_box : List Cond := .code yL_box cL_box 11 (some .boolean) :: ((wsL_box_r1 ++ (wsL_box_r2 ++ (wsL_box_r3 ++ (wsL_box_r4 ++ wsL_box_r5)))) ++ wsX50 ++ wsX30 ++ wsX20 ++ wsX00 ++ wsX10)
def wsL_ring_r1 : List Cond := [Cond.methodLink RL 12 yL_slots, Cond.static yL_slots, Cond.initialized RL, Cond.code yL_slots cL_slots 5 (some .int), Cond.constantLong RL 10 (7), Cond.methodLink RL 74 yL_low, Cond.static yL_low, Cond.code yL_low cL_low 2 (some .int), Cond.constant RL 9 (2147483647), Cond.methodLink RL 61 yL_least, Cond.static yL_least, Cond.code yL_least cL_least 8 (some .long), Cond.methodLink RL 39 yL_changes, Cond.static yL_changes, Cond.code yL_changes cL_changes 3 (some .int), Cond.methodLink RL 42 yL_image, Cond.static yL_image, Cond.code yL_image cL_image 7 (some .long), Cond.methodLink RL 32 yL_mirrored, Cond.static yL_mirrored, Cond.code yL_mirrored cL_mirrored 6 (some .long), Cond.methodLink RL 24 yL_kind, Cond.static yL_kind, Cond.code yL_kind cL_kind 3 (some .int)]
def wsL_ring_r2 : List Cond := [Cond.methodLink RL 28 yL_lay, Cond.static yL_lay, Cond.code yL_lay cL_lay 5 (some .long), Cond.constantLong RL 18 (-1), Cond.methodLink RL 35 yL_rolledBy, Cond.static yL_rolledBy, Cond.code yL_rolledBy cL_rolledBy 6 (some .long), Cond.methodLink RL 20 yL_rolled, Cond.static yL_rolled, Cond.code yL_rolled cL_rolled 5 (some .long), Cond.methodLink RL 77 yL_places, Cond.static yL_places, Cond.code yL_places cL_places 8 (some .int), Cond.methodLink RL 81 yX5_slot, Cond.instanceMethod yX5_slot, Cond.selects RX5 yX5_slot yX5_slot, Cond.initialized RX5, Cond.code yX5_slot cX5_slot 4 (some .int), Cond.fieldLink RX5 10 "CharmBracelets" "now" "LCharmBracelets$State;", Cond.instanceMethod yX3_find, Cond.initialized RX3, Cond.selects RX3 yX3_find yX3_find, Cond.code yX3_find cX3_find 2 (some (.object "CharmBracelets$Ring")), Cond.fieldLink RX3 20 "CharmBracelets$State" "rings" "[LCharmBracelets$Ring;"]
def wsL_ring_r3 : List Cond := [Cond.instanceMethod yX2_hasSlot, Cond.initialized RX2, Cond.selects RX2 yX2_hasSlot yX2_hasSlot, Cond.code yX2_hasSlot cX2_hasSlot 2 (some .boolean), Cond.fieldLink RX2 15 "CharmBracelets$Ring" "size" "I", Cond.instanceMethod yX2_at, Cond.selects RX2 yX2_at yX2_at, Cond.code yX2_at cX2_at 2 (some .int), Cond.fieldLink RX2 9 "CharmBracelets$Ring" "kinds" "[I", Cond.methodLink RL 84 yX5_least, Cond.instanceMethod yX5_least, Cond.selects RX5 yX5_least yX5_least, Cond.code yX5_least cX5_least 5 (some .int), Cond.methodLink RX5 120 yX5_isLevel, Cond.static yX5_isLevel, Cond.code yX5_isLevel cX5_isLevel 1 (some .boolean), Cond.instanceMethod yX2_leastChange, Cond.selects RX2 yX2_leastChange yX2_leastChange, Cond.code yX2_leastChange cX2_leastChange 6 (some .int), Cond.static yX5_changeCount, Cond.code yX5_changeCount cX5_changeCount 2 (some .int), Cond.static yX5_changeAt, Cond.code yX5_changeAt cX5_changeAt 3 (some .int), Cond.methodLink RX2 63 yX2_comesFirst]
def wsL_ring_r4 : List Cond := [Cond.instanceMethod yX2_comesFirst, Cond.selects RX2 yX2_comesFirst yX2_comesFirst, Cond.code yX2_comesFirst cX2_comesFirst 6 (some .boolean), Cond.methodLink RX2 39 yX2_kindAfter, Cond.instanceMethod yX2_kindAfter, Cond.selects RX2 yX2_kindAfter yX2_kindAfter, Cond.code yX2_kindAfter cX2_kindAfter 4 (some .int), Cond.methodLink RX2 36 yX2_around, Cond.instanceMethod yX2_around, Cond.selects RX2 yX2_around yX2_around, Cond.code yX2_around cX2_around 2 (some .int), Cond.methodLink RX2 25 yX2_at, Cond.methodLink RL 87 yX5_quarter, Cond.instanceMethod yX5_quarter, Cond.selects RX5 yX5_quarter yX5_quarter, Cond.code yX5_quarter cX5_quarter 4 (some .int), Cond.instanceMethod yX3_quarterWeight, Cond.selects RX3 yX3_quarterWeight yX3_quarterWeight, Cond.code yX3_quarterWeight cX3_quarterWeight 3 (some .int), Cond.methodLink RX3 78 yX3_weight, Cond.instanceMethod yX3_weight, Cond.selects RX3 yX3_weight yX3_weight, Cond.code yX3_weight cX3_weight 7 (some .int), Cond.fieldLink RX3 15 "CharmBracelets$State" "weights" "[I"]
def wsL_ring_r5 : List Cond := [Cond.static yX5_isCharm, Cond.code yX5_isCharm cX5_isCharm 1 (some .boolean), Cond.methodLink RL 45 yL_weight, Cond.static yL_weight, Cond.code yL_weight cL_weight 7 (some .int), Cond.methodLink RL 90 yX5_bracelet, Cond.instanceMethod yX5_bracelet, Cond.selects RX5 yX5_bracelet yX5_bracelet, Cond.code yX5_bracelet cX5_bracelet 4 (some .int), Cond.instanceMethod yX2_charms, Cond.selects RX2 yX2_charms yX2_charms, Cond.code yX2_charms cX2_charms 1 (some .int), Cond.methodLink RX2 33 yX2_charmsOf, Cond.instanceMethod yX2_charmsOf, Cond.selects RX2 yX2_charmsOf yX2_charmsOf, Cond.code yX2_charmsOf cX2_charmsOf 4 (some .int), Cond.instanceMethod yX3_lean, Cond.selects RX3 yX3_lean yX3_lean, Cond.code yX3_lean cX3_lean 2 (some .int), Cond.methodLink RX3 86 Lib.Math.abs.name, Cond.static Lib.Math.abs.name, Cond.initialized "java/lang/Math", Cond.code Lib.Math.abs.name Lib.Math.abs.code 1 (some .int), Cond.methodLink RX3 82 yX3_quarterWeight]
def wsL_ring_r6 : List Cond := [Cond.methodLink RL 49 yL_charms, Cond.static yL_charms, Cond.code yL_charms cL_charms 5 (some .int), Cond.methodLink RL 93 yL_lean, Cond.static yL_lean, Cond.code yL_lean cL_lean 6 (some .int), Cond.methodLink RL 96 yX5_orbit, Cond.instanceMethod yX5_orbit, Cond.selects RX5 yX5_orbit yX5_orbit, Cond.code yX5_orbit cX5_orbit 4 (some .int), Cond.instanceMethod yX2_differentRings, Cond.selects RX2 yX2_differentRings yX2_differentRings, Cond.code yX2_differentRings cX2_differentRings 5 (some .int), Cond.methodLink RX2 50 yX2_differences, Cond.instanceMethod yX2_differences, Cond.selects RX2 yX2_differences yX2_differences, Cond.code yX2_differences cX2_differences 5 (some .int), Cond.methodLink RL 99 yL_stays, Cond.static yL_stays, Cond.code yL_stays cL_stays 5 (some .int), Cond.methodLink RL 102 yX5_fixed, Cond.instanceMethod yX5_fixed, Cond.selects RX5 yX5_fixed yX5_fixed, Cond.code yX5_fixed cX5_fixed 5 (some .int)]
def wsL_ring_r7 : List Cond := [Cond.methodLink RX5 102 yX5_changeAt, Cond.methodLink RL 105 yX5_motifAt, Cond.instanceMethod yX5_motifAt, Cond.selects RX5 yX5_motifAt yX5_motifAt, Cond.code yX5_motifAt cX5_motifAt 3 (some .int), Cond.instanceMethod yX0_slotSet, Cond.initialized RX0, Cond.selects RX0 yX0_slotSet yX0_slotSet, Cond.code yX0_slotSet cX0_slotSet 4 (some .int), Cond.methodLink RX0 30 yX0_isAt, Cond.instanceMethod yX0_isAt, Cond.selects RX0 yX0_isAt yX0_isAt, Cond.code yX0_isAt cX0_isAt 4 (some .boolean), Cond.fieldLink RX0 15 "CharmBracelets$Motif" "length" "I", Cond.fieldLink RX0 9 "CharmBracelets$Motif" "signs" "[I", Cond.methodLink RL 108 yX5_staysAt, Cond.instanceMethod yX5_staysAt, Cond.selects RX5 yX5_staysAt yX5_staysAt, Cond.code yX5_staysAt cX5_staysAt 6 (some .int), Cond.instanceMethod yX2_slotsTurnedInto, Cond.selects RX2 yX2_slotsTurnedInto yX2_slotsTurnedInto, Cond.code yX2_slotsTurnedInto cX2_slotsTurnedInto 6 (some .int), Cond.methodLink RL 111 yX5_ifHung, Cond.instanceMethod yX5_ifHung]
def wsL_ring_r8 : List Cond := [Cond.selects RX5 yX5_ifHung yX5_ifHung, Cond.code yX5_ifHung cX5_ifHung 5 (some .int), Cond.fieldLink RX5 33 "CharmBracelets" "trial" "LCharmBracelets$Ring;", Cond.methodLink RX5 182 yX5_isKindOrEmpty, Cond.static yX5_isKindOrEmpty, Cond.code yX5_isKindOrEmpty cX5_isKindOrEmpty 1 (some .boolean), Cond.methodLink RX5 37 yX5_isCharm, Cond.instanceMethod yX2_becomeLike, Cond.selects RX2 yX2_becomeLike yX2_becomeLike, Cond.code yX2_becomeLike cX2_becomeLike 2 none, Cond.methodLink RX2 19 arraycopyName, Cond.native arraycopyName, Cond.static arraycopyName, Cond.initialized "java/lang/System", Cond.instanceMethod yX2_put, Cond.selects RX2 yX2_put yX2_put, Cond.code yX2_put cX2_put 3 none, Cond.methodLink RX5 174 yJ6_bitCount_0f7a4, Cond.static yJ6_bitCount_0f7a4, Cond.initialized RJ6, Cond.code yJ6_bitCount_0f7a4 cJ6_bitCount_0f7a4 1 (some .int), Cond.constant RJ6 265 (1431655765), Cond.constant RJ6 266 (858993459), Cond.constant RJ6 267 (252645135)]
def wsL_ring_r9 : List Cond := [Cond.methodLink RL 114 yL_ones, Cond.static yL_ones, Cond.code yL_ones cL_ones 3 (some .int)]
def wsL_ring : List Cond := .code yL_ring cL_ring 18 (some .boolean) :: ((wsL_ring_r1 ++ (wsL_ring_r2 ++ (wsL_ring_r3 ++ (wsL_ring_r4 ++ (wsL_ring_r5 ++ (wsL_ring_r6 ++ (wsL_ring_r7 ++ (wsL_ring_r8 ++ wsL_ring_r9)))))))) ++ wsX50 ++ wsX30 ++ wsX20 ++ wsX00)
def wsL_best_r1 : List Cond := [Cond.methodLink RL 93 yL_lean, Cond.static yL_lean, Cond.initialized RL, Cond.code yL_lean cL_lean 6 (some .int), Cond.methodLink RL 12 yL_slots, Cond.static yL_slots, Cond.code yL_slots cL_slots 5 (some .int), Cond.constantLong RL 10 (7), Cond.methodLink RL 45 yL_weight, Cond.static yL_weight, Cond.code yL_weight cL_weight 7 (some .int), Cond.methodLink RL 24 yL_kind, Cond.static yL_kind, Cond.code yL_kind cL_kind 3 (some .int), Cond.methodLink RL 28 yL_lay, Cond.static yL_lay, Cond.code yL_lay cL_lay 5 (some .long), Cond.constantLong RL 18 (-1), Cond.methodLink RL 117 yX5_bestSwap, Cond.instanceMethod yX5_bestSwap, Cond.selects RX5 yX5_bestSwap yX5_bestSwap, Cond.initialized RX5, Cond.code yX5_bestSwap cX5_bestSwap 8 (some .int), Cond.fieldLink RX5 10 "CharmBracelets" "now" "LCharmBracelets$State;"]
def wsL_best_r2 : List Cond := [Cond.fieldLink RX5 33 "CharmBracelets" "trial" "LCharmBracelets$Ring;", Cond.instanceMethod yX3_find, Cond.initialized RX3, Cond.selects RX3 yX3_find yX3_find, Cond.code yX3_find cX3_find 2 (some (.object "CharmBracelets$Ring")), Cond.fieldLink RX3 20 "CharmBracelets$State" "rings" "[LCharmBracelets$Ring;", Cond.instanceMethod yX2_becomeLike, Cond.initialized RX2, Cond.selects RX2 yX2_becomeLike yX2_becomeLike, Cond.code yX2_becomeLike cX2_becomeLike 2 none, Cond.fieldLink RX2 15 "CharmBracelets$Ring" "size" "I", Cond.fieldLink RX2 9 "CharmBracelets$Ring" "kinds" "[I", Cond.methodLink RX2 19 arraycopyName, Cond.native arraycopyName, Cond.static arraycopyName, Cond.initialized "java/lang/System", Cond.instanceMethod yX3_lean, Cond.selects RX3 yX3_lean yX3_lean, Cond.code yX3_lean cX3_lean 2 (some .int), Cond.methodLink RX3 86 Lib.Math.abs.name, Cond.static Lib.Math.abs.name, Cond.initialized "java/lang/Math", Cond.code Lib.Math.abs.name Lib.Math.abs.code 1 (some .int), Cond.methodLink RX3 82 yX3_quarterWeight]
def wsL_best_r3 : List Cond := [Cond.instanceMethod yX3_quarterWeight, Cond.selects RX3 yX3_quarterWeight yX3_quarterWeight, Cond.code yX3_quarterWeight cX3_quarterWeight 3 (some .int), Cond.methodLink RX3 78 yX3_weight, Cond.instanceMethod yX3_weight, Cond.selects RX3 yX3_weight yX3_weight, Cond.code yX3_weight cX3_weight 7 (some .int), Cond.fieldLink RX3 15 "CharmBracelets$State" "weights" "[I", Cond.instanceMethod yX2_at, Cond.selects RX2 yX2_at yX2_at, Cond.code yX2_at cX2_at 2 (some .int), Cond.static yX5_isCharm, Cond.code yX5_isCharm cX5_isCharm 1 (some .boolean), Cond.methodLink RX5 218 yX5_leanAfterSwap, Cond.instanceMethod yX5_leanAfterSwap, Cond.selects RX5 yX5_leanAfterSwap yX5_leanAfterSwap, Cond.code yX5_leanAfterSwap cX5_leanAfterSwap 5 (some .int), Cond.instanceMethod yX2_exchange, Cond.selects RX2 yX2_exchange yX2_exchange, Cond.code yX2_exchange cX2_exchange 4 none, Cond.methodLink RX2 25 yX2_at, Cond.methodLink RX2 29 yX2_put, Cond.instanceMethod yX2_put, Cond.selects RX2 yX2_put yX2_put]
def wsL_best_r4 : List Cond := [Cond.code yX2_put cX2_put 3 none]
def wsL_best : List Cond := .code yL_best cL_best 11 (some .boolean) :: ((wsL_best_r1 ++ (wsL_best_r2 ++ (wsL_best_r3 ++ wsL_best_r4))) ++ wsX50 ++ wsX20 ++ wsX30)
def wsL_two_r1 : List Cond := [Cond.methodLink RL 120 yX5_alike, Cond.instanceMethod yX5_alike, Cond.selects RX5 yX5_alike yX5_alike, Cond.initialized RX5, Cond.code yX5_alike cX5_alike 6 (some .int), Cond.fieldLink RX5 10 "CharmBracelets" "now" "LCharmBracelets$State;", Cond.instanceMethod yX3_find, Cond.initialized RX3, Cond.selects RX3 yX3_find yX3_find, Cond.code yX3_find cX3_find 2 (some (.object "CharmBracelets$Ring")), Cond.fieldLink RX3 20 "CharmBracelets$State" "rings" "[LCharmBracelets$Ring;", Cond.methodLink RX5 120 yX5_isLevel, Cond.static yX5_isLevel, Cond.code yX5_isLevel cX5_isLevel 1 (some .boolean), Cond.instanceMethod yX2_isAlike, Cond.initialized RX2, Cond.selects RX2 yX2_isAlike yX2_isAlike, Cond.code yX2_isAlike cX2_isAlike 3 (some .boolean), Cond.fieldLink RX2 15 "CharmBracelets$Ring" "size" "I", Cond.methodLink RX2 59 yX2_leastDifferences, Cond.instanceMethod yX2_leastDifferences, Cond.selects RX2 yX2_leastDifferences yX2_leastDifferences, Cond.code yX2_leastDifferences cX2_leastDifferences 6 (some .int), Cond.methodLink RX2 54 Lib.Math.min.name]
def wsL_two_r2 : List Cond := [Cond.static Lib.Math.min.name, Cond.initialized "java/lang/Math", Cond.code Lib.Math.min.name Lib.Math.min.code 2 (some .int), Cond.static yX5_changeCount, Cond.code yX5_changeCount cX5_changeCount 2 (some .int), Cond.static yX5_changeAt, Cond.code yX5_changeAt cX5_changeAt 3 (some .int), Cond.methodLink RX2 50 yX2_differences, Cond.instanceMethod yX2_differences, Cond.selects RX2 yX2_differences yX2_differences, Cond.code yX2_differences cX2_differences 5 (some .int), Cond.methodLink RX2 39 yX2_kindAfter, Cond.instanceMethod yX2_kindAfter, Cond.selects RX2 yX2_kindAfter yX2_kindAfter, Cond.code yX2_kindAfter cX2_kindAfter 4 (some .int), Cond.methodLink RX2 36 yX2_around, Cond.instanceMethod yX2_around, Cond.selects RX2 yX2_around yX2_around, Cond.code yX2_around cX2_around 2 (some .int), Cond.methodLink RX2 25 yX2_at, Cond.instanceMethod yX2_at, Cond.selects RX2 yX2_at yX2_at, Cond.code yX2_at cX2_at 2 (some .int), Cond.fieldLink RX2 9 "CharmBracelets$Ring" "kinds" "[I"]
def wsL_two_r3 : List Cond := [Cond.methodLink RL 123 yX5_distance, Cond.instanceMethod yX5_distance, Cond.selects RX5 yX5_distance yX5_distance, Cond.code yX5_distance cX5_distance 5 (some .int), Cond.methodLink RL 12 yL_slots, Cond.static yL_slots, Cond.initialized RL, Cond.code yL_slots cL_slots 5 (some .int), Cond.constantLong RL 10 (7), Cond.methodLink RL 39 yL_changes, Cond.static yL_changes, Cond.code yL_changes cL_changes 3 (some .int), Cond.methodLink RL 42 yL_image, Cond.static yL_image, Cond.code yL_image cL_image 7 (some .long), Cond.methodLink RL 32 yL_mirrored, Cond.static yL_mirrored, Cond.code yL_mirrored cL_mirrored 6 (some .long), Cond.methodLink RL 24 yL_kind, Cond.static yL_kind, Cond.code yL_kind cL_kind 3 (some .int), Cond.methodLink RL 28 yL_lay, Cond.static yL_lay, Cond.code yL_lay cL_lay 5 (some .long)]
def wsL_two_r4 : List Cond := [Cond.constantLong RL 18 (-1), Cond.methodLink RL 35 yL_rolledBy, Cond.static yL_rolledBy, Cond.code yL_rolledBy cL_rolledBy 6 (some .long), Cond.methodLink RL 20 yL_rolled, Cond.static yL_rolled, Cond.code yL_rolled cL_rolled 5 (some .long), Cond.methodLink RL 126 yL_unlike, Cond.static yL_unlike, Cond.code yL_unlike cL_unlike 6 (some .int), Cond.methodLink RL 61 yL_least, Cond.static yL_least, Cond.code yL_least cL_least 8 (some .long)]
def wsL_two : List Cond := .code yL_two cL_two 9 (some .boolean) :: ((wsL_two_r1 ++ (wsL_two_r2 ++ (wsL_two_r3 ++ wsL_two_r4))) ++ wsX50 ++ wsX30 ++ wsX20)
def wsL_enough : List Cond := .code yL_enough cL_enough 5 (some .boolean) :: ([.methodLink RL 49 yL_charms, .static yL_charms, .initialized RL, .code yL_charms cL_charms 5 (some .int), .methodLink RL 12 yL_slots, .static yL_slots, .code yL_slots cL_slots 5 (some .int), .constantLong RL 10 (7), .methodLink RL 24 yL_kind, .static yL_kind, .code yL_kind cL_kind 3 (some .int)])
def wsL_room : List Cond := .code yL_room cL_room 5 (some .boolean) :: ([.methodLink RL 49 yL_charms, .static yL_charms, .initialized RL, .code yL_charms cL_charms 5 (some .int), .methodLink RL 12 yL_slots, .static yL_slots, .code yL_slots cL_slots 5 (some .int), .constantLong RL 10 (7), .methodLink RL 24 yL_kind, .static yL_kind, .code yL_kind cL_kind 3 (some .int)])
theorem dL_cell_0 : decode cL_cell 0 = .ok (.iload_n 1, 1) := by decide +kernel
theorem dL_cell_1 : decode cL_cell 1 = .ok (.aload_n 0, 1) := by decide +kernel
theorem dL_cell_2 : decode cL_cell 2 = .ok (.arraylength, 1) := by decide +kernel
theorem dL_cell_3 : decode cL_cell 3 = .ok (.if_icmp .ge 9, 3) := by decide +kernel
theorem dL_cell_6 : decode cL_cell 6 = .ok (.aload_n 0, 1) := by decide +kernel
theorem dL_cell_7 : decode cL_cell 7 = .ok (.iload_n 1, 1) := by decide +kernel
theorem dL_cell_8 : decode cL_cell 8 = .ok (.iaload, 1) := by decide +kernel
theorem dL_cell_9 : decode cL_cell 9 = .ok (.goto 10, 3) := by decide +kernel
theorem dL_cell_12 : decode cL_cell 12 = .ok (.ldc 7, 2) := by decide +kernel
theorem dL_cell_14 : decode cL_cell 14 = .ok (.iload_n 1, 1) := by decide +kernel
theorem dL_cell_15 : decode cL_cell 15 = .ok (.imul, 1) := by decide +kernel
theorem dL_cell_16 : decode cL_cell 16 = .ok (.ldc 8, 2) := by decide +kernel
theorem dL_cell_18 : decode cL_cell 18 = .ok (.iadd, 1) := by decide +kernel
theorem dL_cell_19 : decode cL_cell 19 = .ok (.ireturn, 1) := by decide +kernel
theorem dL_low_0 : decode cL_low 0 = .ok (.iload_n 0, 1) := by decide +kernel
theorem dL_low_1 : decode cL_low 1 = .ok (.ldc 9, 2) := by decide +kernel
theorem dL_low_3 : decode cL_low 3 = .ok (.iand, 1) := by decide +kernel
theorem dL_low_4 : decode cL_low 4 = .ok (.iload_n 1, 1) := by decide +kernel
theorem dL_low_5 : decode cL_low 5 = .ok (.irem, 1) := by decide +kernel
theorem dL_low_6 : decode cL_low 6 = .ok (.ireturn, 1) := by decide +kernel
theorem dL_slots_0 : decode cL_slots 0 = .ok (.iconst 0, 1) := by decide +kernel
theorem dL_slots_1 : decode cL_slots 1 = .ok (.istore_n 2, 1) := by decide +kernel
theorem dL_slots_2 : decode cL_slots 2 = .ok (.lload_n 0, 1) := by decide +kernel
theorem dL_slots_3 : decode cL_slots 3 = .ok (.lstore_n 3, 1) := by decide +kernel
theorem dL_slots_4 : decode cL_slots 4 = .ok (.lload_n 3, 1) := by decide +kernel
theorem dL_slots_5 : decode cL_slots 5 = .ok (.ldc2_w 10, 3) := by decide +kernel
theorem dL_slots_8 : decode cL_slots 8 = .ok (.lcmp, 1) := by decide +kernel
theorem dL_slots_9 : decode cL_slots 9 = .ok (.ifCond .le 13, 3) := by decide +kernel
theorem dL_slots_12 : decode cL_slots 12 = .ok (.iinc 2 1, 3) := by decide +kernel
theorem dL_slots_15 : decode cL_slots 15 = .ok (.lload_n 3, 1) := by decide +kernel
theorem dL_slots_16 : decode cL_slots 16 = .ok (.iconst 3, 1) := by decide +kernel
theorem dL_slots_17 : decode cL_slots 17 = .ok (.lshr, 1) := by decide +kernel
theorem dL_slots_18 : decode cL_slots 18 = .ok (.lstore_n 3, 1) := by decide +kernel
theorem dL_slots_19 : decode cL_slots 19 = .ok (.goto (-15), 3) := by decide +kernel
theorem dL_slots_22 : decode cL_slots 22 = .ok (.iload_n 2, 1) := by decide +kernel
theorem dL_slots_23 : decode cL_slots 23 = .ok (.ireturn, 1) := by decide +kernel
set_option maxRecDepth 20000 in
theorem ggL_kind_L_slots : GoodIn wsL_kind wsL_slots := goodIn_r _ [4, 5] (by decide +kernel) (by decide +kernel)
set_option maxRecDepth 20000 in
theorem gL_kind_L_slots : GoodIn wsL_kind (va_wsS RL 12 yL_slots wsL_slots) := goodIn_app (goodIn_of _ (by decide +kernel)) ggL_kind_L_slots
theorem dL_kind_0 : decode cL_kind 0 = .ok (.lload_n 0, 1) := by decide +kernel
theorem dL_kind_1 : decode cL_kind 1 = .ok (.iconst 3, 1) := by decide +kernel
theorem dL_kind_2 : decode cL_kind 2 = .ok (.lload_n 0, 1) := by decide +kernel
theorem dL_kind_3 : decode cL_kind 3 = .ok (.invokestatic 12, 3) := by decide +kernel
theorem dL_kind_6 : decode cL_kind 6 = .ok (.iconst 1, 1) := by decide +kernel
theorem dL_kind_7 : decode cL_kind 7 = .ok (.isub, 1) := by decide +kernel
theorem dL_kind_8 : decode cL_kind 8 = .ok (.iload_n 2, 1) := by decide +kernel
theorem dL_kind_9 : decode cL_kind 9 = .ok (.isub, 1) := by decide +kernel
theorem dL_kind_10 : decode cL_kind 10 = .ok (.imul, 1) := by decide +kernel
theorem dL_kind_11 : decode cL_kind 11 = .ok (.lshr, 1) := by decide +kernel
theorem dL_kind_12 : decode cL_kind 12 = .ok (.l2i, 1) := by decide +kernel
theorem dL_kind_13 : decode cL_kind 13 = .ok (.bipush 7, 2) := by decide +kernel
theorem dL_kind_15 : decode cL_kind 15 = .ok (.iand, 1) := by decide +kernel
theorem dL_kind_16 : decode cL_kind 16 = .ok (.ireturn, 1) := by decide +kernel
set_option maxRecDepth 20000 in
theorem ggL_lay_L_slots : GoodIn wsL_lay wsL_slots := goodIn_r _ [6, 1] (by decide +kernel) (by decide +kernel)
set_option maxRecDepth 20000 in
theorem gL_lay_L_slots : GoodIn wsL_lay (va_wsS RL 12 yL_slots wsL_slots) := goodIn_app (goodIn_of _ (by decide +kernel)) ggL_lay_L_slots
theorem dL_lay_0 : decode cL_lay 0 = .ok (.iconst 3, 1) := by decide +kernel
theorem dL_lay_1 : decode cL_lay 1 = .ok (.lload_n 0, 1) := by decide +kernel
theorem dL_lay_2 : decode cL_lay 2 = .ok (.invokestatic 12, 3) := by decide +kernel
theorem dL_lay_5 : decode cL_lay 5 = .ok (.iconst 1, 1) := by decide +kernel
theorem dL_lay_6 : decode cL_lay 6 = .ok (.isub, 1) := by decide +kernel
theorem dL_lay_7 : decode cL_lay 7 = .ok (.iload_n 2, 1) := by decide +kernel
theorem dL_lay_8 : decode cL_lay 8 = .ok (.isub, 1) := by decide +kernel
theorem dL_lay_9 : decode cL_lay 9 = .ok (.imul, 1) := by decide +kernel
theorem dL_lay_10 : decode cL_lay 10 = .ok (.istore 4, 2) := by decide +kernel
theorem dL_lay_12 : decode cL_lay 12 = .ok (.lload_n 0, 1) := by decide +kernel
theorem dL_lay_13 : decode cL_lay 13 = .ok (.ldc2_w 10, 3) := by decide +kernel
theorem dL_lay_16 : decode cL_lay 16 = .ok (.iload 4, 2) := by decide +kernel
theorem dL_lay_18 : decode cL_lay 18 = .ok (.lshl, 1) := by decide +kernel
theorem dL_lay_19 : decode cL_lay 19 = .ok (.ldc2_w 18, 3) := by decide +kernel
theorem dL_lay_22 : decode cL_lay 22 = .ok (.lxor, 1) := by decide +kernel
theorem dL_lay_23 : decode cL_lay 23 = .ok (.land, 1) := by decide +kernel
theorem dL_lay_24 : decode cL_lay 24 = .ok (.iload_n 3, 1) := by decide +kernel
theorem dL_lay_25 : decode cL_lay 25 = .ok (.i2l, 1) := by decide +kernel
theorem dL_lay_26 : decode cL_lay 26 = .ok (.iload 4, 2) := by decide +kernel
theorem dL_lay_28 : decode cL_lay 28 = .ok (.lshl, 1) := by decide +kernel
theorem dL_lay_29 : decode cL_lay 29 = .ok (.lor, 1) := by decide +kernel
theorem dL_lay_30 : decode cL_lay 30 = .ok (.lreturn, 1) := by decide +kernel
set_option maxRecDepth 20000 in
theorem ggL_rolled_L_slots : GoodIn wsL_rolled wsL_slots := goodIn_r _ [5, 1] (by decide +kernel) (by decide +kernel)
set_option maxRecDepth 20000 in
theorem gL_rolled_L_slots : GoodIn wsL_rolled (va_wsS RL 12 yL_slots wsL_slots) := goodIn_app (goodIn_of _ (by decide +kernel)) ggL_rolled_L_slots
theorem dL_rolled_0 : decode cL_rolled 0 = .ok (.lload_n 0, 1) := by decide +kernel
theorem dL_rolled_1 : decode cL_rolled 1 = .ok (.invokestatic 12, 3) := by decide +kernel
theorem dL_rolled_4 : decode cL_rolled 4 = .ok (.istore_n 2, 1) := by decide +kernel
theorem dL_rolled_5 : decode cL_rolled 5 = .ok (.lload_n 0, 1) := by decide +kernel
theorem dL_rolled_6 : decode cL_rolled 6 = .ok (.lconst 1, 1) := by decide +kernel
theorem dL_rolled_7 : decode cL_rolled 7 = .ok (.iconst 3, 1) := by decide +kernel
theorem dL_rolled_8 : decode cL_rolled 8 = .ok (.iload_n 2, 1) := by decide +kernel
theorem dL_rolled_9 : decode cL_rolled 9 = .ok (.imul, 1) := by decide +kernel
theorem dL_rolled_10 : decode cL_rolled 10 = .ok (.lshl, 1) := by decide +kernel
theorem dL_rolled_11 : decode cL_rolled 11 = .ok (.lconst 1, 1) := by decide +kernel
theorem dL_rolled_12 : decode cL_rolled 12 = .ok (.lsub, 1) := by decide +kernel
theorem dL_rolled_13 : decode cL_rolled 13 = .ok (.land, 1) := by decide +kernel
theorem dL_rolled_14 : decode cL_rolled 14 = .ok (.lstore_n 3, 1) := by decide +kernel
theorem dL_rolled_15 : decode cL_rolled 15 = .ok (.ldc2_w 10, 3) := by decide +kernel
theorem dL_rolled_18 : decode cL_rolled 18 = .ok (.iconst 3, 1) := by decide +kernel
theorem dL_rolled_19 : decode cL_rolled 19 = .ok (.iload_n 2, 1) := by decide +kernel
theorem dL_rolled_20 : decode cL_rolled 20 = .ok (.imul, 1) := by decide +kernel
theorem dL_rolled_21 : decode cL_rolled 21 = .ok (.lshl, 1) := by decide +kernel
theorem dL_rolled_22 : decode cL_rolled 22 = .ok (.lload_n 3, 1) := by decide +kernel
theorem dL_rolled_23 : decode cL_rolled 23 = .ok (.ldc2_w 10, 3) := by decide +kernel
theorem dL_rolled_26 : decode cL_rolled 26 = .ok (.land, 1) := by decide +kernel
theorem dL_rolled_27 : decode cL_rolled 27 = .ok (.iconst 3, 1) := by decide +kernel
theorem dL_rolled_28 : decode cL_rolled 28 = .ok (.iload_n 2, 1) := by decide +kernel
theorem dL_rolled_29 : decode cL_rolled 29 = .ok (.iconst 1, 1) := by decide +kernel
theorem dL_rolled_30 : decode cL_rolled 30 = .ok (.isub, 1) := by decide +kernel
theorem dL_rolled_31 : decode cL_rolled 31 = .ok (.imul, 1) := by decide +kernel
theorem dL_rolled_32 : decode cL_rolled 32 = .ok (.lshl, 1) := by decide +kernel
theorem dL_rolled_33 : decode cL_rolled 33 = .ok (.lor, 1) := by decide +kernel
theorem dL_rolled_34 : decode cL_rolled 34 = .ok (.lload_n 3, 1) := by decide +kernel
theorem dL_rolled_35 : decode cL_rolled 35 = .ok (.iconst 3, 1) := by decide +kernel
theorem dL_rolled_36 : decode cL_rolled 36 = .ok (.lshr, 1) := by decide +kernel
theorem dL_rolled_37 : decode cL_rolled 37 = .ok (.lor, 1) := by decide +kernel
theorem dL_rolled_38 : decode cL_rolled 38 = .ok (.lreturn, 1) := by decide +kernel
set_option maxRecDepth 20000 in
theorem ggL_rolledBy_L_rolled : GoodIn wsL_rolledBy wsL_rolled := goodIn_r _ [4, 5, 6, 7, 3, 8] (by decide +kernel) (by decide +kernel)
set_option maxRecDepth 20000 in
theorem gL_rolledBy_L_rolled : GoodIn wsL_rolledBy (va_wsS RL 20 yL_rolled wsL_rolled) := goodIn_app (goodIn_of _ (by decide +kernel)) ggL_rolledBy_L_rolled
theorem dL_rolledBy_0 : decode cL_rolledBy 0 = .ok (.lload_n 0, 1) := by decide +kernel
theorem dL_rolledBy_1 : decode cL_rolledBy 1 = .ok (.lstore_n 3, 1) := by decide +kernel
theorem dL_rolledBy_2 : decode cL_rolledBy 2 = .ok (.iconst 0, 1) := by decide +kernel
theorem dL_rolledBy_3 : decode cL_rolledBy 3 = .ok (.istore 5, 2) := by decide +kernel
theorem dL_rolledBy_5 : decode cL_rolledBy 5 = .ok (.iload 5, 2) := by decide +kernel
theorem dL_rolledBy_7 : decode cL_rolledBy 7 = .ok (.iload_n 2, 1) := by decide +kernel
theorem dL_rolledBy_8 : decode cL_rolledBy 8 = .ok (.if_icmp .ge 14, 3) := by decide +kernel
theorem dL_rolledBy_11 : decode cL_rolledBy 11 = .ok (.lload_n 3, 1) := by decide +kernel
theorem dL_rolledBy_12 : decode cL_rolledBy 12 = .ok (.invokestatic 20, 3) := by decide +kernel
theorem dL_rolledBy_15 : decode cL_rolledBy 15 = .ok (.lstore_n 3, 1) := by decide +kernel
theorem dL_rolledBy_16 : decode cL_rolledBy 16 = .ok (.iinc 5 1, 3) := by decide +kernel
theorem dL_rolledBy_19 : decode cL_rolledBy 19 = .ok (.goto (-14), 3) := by decide +kernel
theorem dL_rolledBy_22 : decode cL_rolledBy 22 = .ok (.lload_n 3, 1) := by decide +kernel
theorem dL_rolledBy_23 : decode cL_rolledBy 23 = .ok (.lreturn, 1) := by decide +kernel
set_option maxRecDepth 20000 in
theorem ggL_mirrored_L_slots : GoodIn wsL_mirrored wsL_slots := goodIn_r _ [4, 5] (by decide +kernel) (by decide +kernel)
set_option maxRecDepth 20000 in
theorem gL_mirrored_L_slots : GoodIn wsL_mirrored (va_wsS RL 12 yL_slots wsL_slots) := goodIn_app (goodIn_of _ (by decide +kernel)) ggL_mirrored_L_slots
set_option maxRecDepth 20000 in
theorem ggL_mirrored_L_kind : GoodIn wsL_mirrored wsL_kind := goodIn_r _ [8, 1, 2, 3, 4, 5] (by decide +kernel) (by decide +kernel)
set_option maxRecDepth 20000 in
theorem gL_mirrored_L_kind : GoodIn wsL_mirrored (va_wsS RL 24 yL_kind wsL_kind) := goodIn_app (goodIn_of _ (by decide +kernel)) ggL_mirrored_L_kind
set_option maxRecDepth 20000 in
theorem ggL_mirrored_L_lay : GoodIn wsL_mirrored wsL_lay := goodIn_r _ [11, 5, 12, 1, 2, 3, 4] (by decide +kernel) (by decide +kernel)
set_option maxRecDepth 20000 in
theorem gL_mirrored_L_lay : GoodIn wsL_mirrored (va_wsS RL 28 yL_lay wsL_lay) := goodIn_app (goodIn_of _ (by decide +kernel)) ggL_mirrored_L_lay
theorem dL_mirrored_0 : decode cL_mirrored 0 = .ok (.lload_n 0, 1) := by decide +kernel
theorem dL_mirrored_1 : decode cL_mirrored 1 = .ok (.lstore_n 2, 1) := by decide +kernel
theorem dL_mirrored_2 : decode cL_mirrored 2 = .ok (.lload_n 0, 1) := by decide +kernel
theorem dL_mirrored_3 : decode cL_mirrored 3 = .ok (.invokestatic 12, 3) := by decide +kernel
theorem dL_mirrored_6 : decode cL_mirrored 6 = .ok (.istore 4, 2) := by decide +kernel
theorem dL_mirrored_8 : decode cL_mirrored 8 = .ok (.iconst 1, 1) := by decide +kernel
theorem dL_mirrored_9 : decode cL_mirrored 9 = .ok (.istore 5, 2) := by decide +kernel
theorem dL_mirrored_11 : decode cL_mirrored 11 = .ok (.iload 5, 2) := by decide +kernel
theorem dL_mirrored_13 : decode cL_mirrored 13 = .ok (.iload 4, 2) := by decide +kernel
theorem dL_mirrored_15 : decode cL_mirrored 15 = .ok (.if_icmp .ge 25, 3) := by decide +kernel
theorem dL_mirrored_18 : decode cL_mirrored 18 = .ok (.lload_n 2, 1) := by decide +kernel
theorem dL_mirrored_19 : decode cL_mirrored 19 = .ok (.iload 5, 2) := by decide +kernel
theorem dL_mirrored_21 : decode cL_mirrored 21 = .ok (.lload_n 0, 1) := by decide +kernel
theorem dL_mirrored_22 : decode cL_mirrored 22 = .ok (.iload 4, 2) := by decide +kernel
theorem dL_mirrored_24 : decode cL_mirrored 24 = .ok (.iload 5, 2) := by decide +kernel
theorem dL_mirrored_26 : decode cL_mirrored 26 = .ok (.isub, 1) := by decide +kernel
theorem dL_mirrored_27 : decode cL_mirrored 27 = .ok (.invokestatic 24, 3) := by decide +kernel
theorem dL_mirrored_30 : decode cL_mirrored 30 = .ok (.invokestatic 28, 3) := by decide +kernel
theorem dL_mirrored_33 : decode cL_mirrored 33 = .ok (.lstore_n 2, 1) := by decide +kernel
theorem dL_mirrored_34 : decode cL_mirrored 34 = .ok (.iinc 5 1, 3) := by decide +kernel
theorem dL_mirrored_37 : decode cL_mirrored 37 = .ok (.goto (-26), 3) := by decide +kernel
theorem dL_mirrored_40 : decode cL_mirrored 40 = .ok (.lload_n 2, 1) := by decide +kernel
theorem dL_mirrored_41 : decode cL_mirrored 41 = .ok (.lreturn, 1) := by decide +kernel
set_option maxRecDepth 20000 in
theorem ggL_image_L_slots : GoodIn wsL_image wsL_slots := goodIn_r _ [4, 5] (by decide +kernel) (by decide +kernel)
set_option maxRecDepth 20000 in
theorem gL_image_L_slots : GoodIn wsL_image (va_wsS RL 12 yL_slots wsL_slots) := goodIn_app (goodIn_of _ (by decide +kernel)) ggL_image_L_slots
set_option maxRecDepth 20000 in
theorem ggL_image_L_mirrored : GoodIn wsL_image wsL_mirrored := goodIn_r _ [8, 1, 2, 3, 4, 5, 9, 10, 11, 12, 13, 14, 15] (by decide +kernel) (by decide +kernel)
set_option maxRecDepth 20000 in
theorem gL_image_L_mirrored : GoodIn wsL_image (va_wsS RL 32 yL_mirrored wsL_mirrored) := goodIn_app (goodIn_of _ (by decide +kernel)) ggL_image_L_mirrored
set_option maxRecDepth 20000 in
theorem ggL_image_L_rolledBy : GoodIn wsL_image wsL_rolledBy := goodIn_r _ [18, 19, 20, 3, 21, 5, 1, 2, 4] (by decide +kernel) (by decide +kernel)
set_option maxRecDepth 20000 in
theorem gL_image_L_rolledBy : GoodIn wsL_image (va_wsS RL 35 yL_rolledBy wsL_rolledBy) := goodIn_app (goodIn_of _ (by decide +kernel)) ggL_image_L_rolledBy
theorem dL_image_0 : decode cL_image 0 = .ok (.lload_n 0, 1) := by decide +kernel
theorem dL_image_1 : decode cL_image 1 = .ok (.invokestatic 12, 3) := by decide +kernel
theorem dL_image_4 : decode cL_image 4 = .ok (.istore 4, 2) := by decide +kernel
theorem dL_image_6 : decode cL_image 6 = .ok (.iload_n 3, 1) := by decide +kernel
theorem dL_image_7 : decode cL_image 7 = .ok (.iload 4, 2) := by decide +kernel
theorem dL_image_9 : decode cL_image 9 = .ok (.if_icmp .lt 10, 3) := by decide +kernel
theorem dL_image_12 : decode cL_image 12 = .ok (.lload_n 0, 1) := by decide +kernel
theorem dL_image_13 : decode cL_image 13 = .ok (.invokestatic 32, 3) := by decide +kernel
theorem dL_image_16 : decode cL_image 16 = .ok (.goto 4, 3) := by decide +kernel
theorem dL_image_19 : decode cL_image 19 = .ok (.lload_n 0, 1) := by decide +kernel
theorem dL_image_20 : decode cL_image 20 = .ok (.lstore 5, 2) := by decide +kernel
theorem dL_image_22 : decode cL_image 22 = .ok (.lload 5, 2) := by decide +kernel
theorem dL_image_24 : decode cL_image 24 = .ok (.iload_n 2, 1) := by decide +kernel
theorem dL_image_25 : decode cL_image 25 = .ok (.ifCond .ne 12, 3) := by decide +kernel
theorem dL_image_28 : decode cL_image 28 = .ok (.iload_n 3, 1) := by decide +kernel
theorem dL_image_29 : decode cL_image 29 = .ok (.iload 4, 2) := by decide +kernel
theorem dL_image_31 : decode cL_image 31 = .ok (.imul, 1) := by decide +kernel
theorem dL_image_32 : decode cL_image 32 = .ok (.iconst 4, 1) := by decide +kernel
theorem dL_image_33 : decode cL_image 33 = .ok (.idiv, 1) := by decide +kernel
theorem dL_image_34 : decode cL_image 34 = .ok (.goto 7, 3) := by decide +kernel
theorem dL_image_37 : decode cL_image 37 = .ok (.iload_n 3, 1) := by decide +kernel
theorem dL_image_38 : decode cL_image 38 = .ok (.iload 4, 2) := by decide +kernel
theorem dL_image_40 : decode cL_image 40 = .ok (.irem, 1) := by decide +kernel
theorem dL_image_41 : decode cL_image 41 = .ok (.invokestatic 35, 3) := by decide +kernel
theorem dL_image_44 : decode cL_image 44 = .ok (.lreturn, 1) := by decide +kernel
set_option maxRecDepth 20000 in
theorem ggL_changes_L_slots : GoodIn wsL_changes wsL_slots := goodIn_r _ [4, 5] (by decide +kernel) (by decide +kernel)
set_option maxRecDepth 20000 in
theorem gL_changes_L_slots : GoodIn wsL_changes (va_wsS RL 12 yL_slots wsL_slots) := goodIn_app (goodIn_of _ (by decide +kernel)) ggL_changes_L_slots
theorem dL_changes_0 : decode cL_changes 0 = .ok (.iload_n 2, 1) := by decide +kernel
theorem dL_changes_1 : decode cL_changes 1 = .ok (.ifCond .ne 7, 3) := by decide +kernel
theorem dL_changes_4 : decode cL_changes 4 = .ok (.iconst 4, 1) := by decide +kernel
theorem dL_changes_5 : decode cL_changes 5 = .ok (.goto 21, 3) := by decide +kernel
theorem dL_changes_8 : decode cL_changes 8 = .ok (.iload_n 2, 1) := by decide +kernel
theorem dL_changes_9 : decode cL_changes 9 = .ok (.iconst 1, 1) := by decide +kernel
theorem dL_changes_10 : decode cL_changes 10 = .ok (.if_icmp .ne 10, 3) := by decide +kernel
theorem dL_changes_13 : decode cL_changes 13 = .ok (.lload_n 0, 1) := by decide +kernel
theorem dL_changes_14 : decode cL_changes 14 = .ok (.invokestatic 12, 3) := by decide +kernel
theorem dL_changes_17 : decode cL_changes 17 = .ok (.goto 9, 3) := by decide +kernel
theorem dL_changes_20 : decode cL_changes 20 = .ok (.iconst 2, 1) := by decide +kernel
theorem dL_changes_21 : decode cL_changes 21 = .ok (.lload_n 0, 1) := by decide +kernel
theorem dL_changes_22 : decode cL_changes 22 = .ok (.invokestatic 12, 3) := by decide +kernel
theorem dL_changes_25 : decode cL_changes 25 = .ok (.imul, 1) := by decide +kernel
theorem dL_changes_26 : decode cL_changes 26 = .ok (.ireturn, 1) := by decide +kernel
set_option maxRecDepth 20000 in
theorem ggL_least_L_changes : GoodIn wsL_least wsL_changes := goodIn_r _ [4, 5, 6, 3, 7, 8] (by decide +kernel) (by decide +kernel)
set_option maxRecDepth 20000 in
theorem gL_least_L_changes : GoodIn wsL_least (va_wsS RL 39 yL_changes wsL_changes) := goodIn_app (goodIn_of _ (by decide +kernel)) ggL_least_L_changes
set_option maxRecDepth 20000 in
theorem ggL_least_L_image : GoodIn wsL_least wsL_image := goodIn_r _ [11, 5, 6, 3, 7, 8, 12, 13, 14, 15, 16, 17, 18, 19, 20, 21, 22, 23, 24, 25, 26, 27] (by decide +kernel) (by decide +kernel)
set_option maxRecDepth 20000 in
theorem gL_least_L_image : GoodIn wsL_least (va_wsS RL 42 yL_image wsL_image) := goodIn_app (goodIn_of _ (by decide +kernel)) ggL_least_L_image
theorem dL_least_0 : decode cL_least 0 = .ok (.lload_n 0, 1) := by decide +kernel
theorem dL_least_1 : decode cL_least 1 = .ok (.lstore_n 3, 1) := by decide +kernel
theorem dL_least_2 : decode cL_least 2 = .ok (.iconst 0, 1) := by decide +kernel
theorem dL_least_3 : decode cL_least 3 = .ok (.istore 5, 2) := by decide +kernel
theorem dL_least_5 : decode cL_least 5 = .ok (.iload 5, 2) := by decide +kernel
theorem dL_least_7 : decode cL_least 7 = .ok (.lload_n 0, 1) := by decide +kernel
theorem dL_least_8 : decode cL_least 8 = .ok (.iload_n 2, 1) := by decide +kernel
theorem dL_least_9 : decode cL_least 9 = .ok (.invokestatic 39, 3) := by decide +kernel
theorem dL_least_12 : decode cL_least 12 = .ok (.if_icmp .ge 32, 3) := by decide +kernel
theorem dL_least_15 : decode cL_least 15 = .ok (.lload_n 0, 1) := by decide +kernel
theorem dL_least_16 : decode cL_least 16 = .ok (.iload_n 2, 1) := by decide +kernel
theorem dL_least_17 : decode cL_least 17 = .ok (.iload 5, 2) := by decide +kernel
theorem dL_least_19 : decode cL_least 19 = .ok (.invokestatic 42, 3) := by decide +kernel
theorem dL_least_22 : decode cL_least 22 = .ok (.lstore 6, 2) := by decide +kernel
theorem dL_least_24 : decode cL_least 24 = .ok (.lload 6, 2) := by decide +kernel
theorem dL_least_26 : decode cL_least 26 = .ok (.lload_n 3, 1) := by decide +kernel
theorem dL_least_27 : decode cL_least 27 = .ok (.lcmp, 1) := by decide +kernel
theorem dL_least_28 : decode cL_least 28 = .ok (.ifCond .ge 8, 3) := by decide +kernel
theorem dL_least_31 : decode cL_least 31 = .ok (.lload 6, 2) := by decide +kernel
theorem dL_least_33 : decode cL_least 33 = .ok (.goto 4, 3) := by decide +kernel
theorem dL_least_36 : decode cL_least 36 = .ok (.lload_n 3, 1) := by decide +kernel
theorem dL_least_37 : decode cL_least 37 = .ok (.lstore_n 3, 1) := by decide +kernel
theorem dL_least_38 : decode cL_least 38 = .ok (.iinc 5 1, 3) := by decide +kernel
theorem dL_least_41 : decode cL_least 41 = .ok (.goto (-36), 3) := by decide +kernel
theorem dL_least_44 : decode cL_least 44 = .ok (.lload_n 3, 1) := by decide +kernel
theorem dL_least_45 : decode cL_least 45 = .ok (.lreturn, 1) := by decide +kernel
set_option maxRecDepth 20000 in
theorem ggL_stays_L_changes : GoodIn wsL_stays wsL_changes := goodIn_r _ [4, 5, 6, 3, 7, 8] (by decide +kernel) (by decide +kernel)
set_option maxRecDepth 20000 in
theorem gL_stays_L_changes : GoodIn wsL_stays (va_wsS RL 39 yL_changes wsL_changes) := goodIn_app (goodIn_of _ (by decide +kernel)) ggL_stays_L_changes
set_option maxRecDepth 20000 in
theorem ggL_stays_L_image : GoodIn wsL_stays wsL_image := goodIn_r _ [11, 5, 6, 3, 7, 8, 12, 13, 14, 15, 16, 17, 18, 19, 20, 21, 22, 23, 24, 25, 26, 27] (by decide +kernel) (by decide +kernel)
set_option maxRecDepth 20000 in
theorem gL_stays_L_image : GoodIn wsL_stays (va_wsS RL 42 yL_image wsL_image) := goodIn_app (goodIn_of _ (by decide +kernel)) ggL_stays_L_image
theorem dL_stays_0 : decode cL_stays 0 = .ok (.iconst 0, 1) := by decide +kernel
theorem dL_stays_1 : decode cL_stays 1 = .ok (.istore_n 3, 1) := by decide +kernel
theorem dL_stays_2 : decode cL_stays 2 = .ok (.iconst 0, 1) := by decide +kernel
theorem dL_stays_3 : decode cL_stays 3 = .ok (.istore 4, 2) := by decide +kernel
theorem dL_stays_5 : decode cL_stays 5 = .ok (.iload 4, 2) := by decide +kernel
theorem dL_stays_7 : decode cL_stays 7 = .ok (.lload_n 0, 1) := by decide +kernel
theorem dL_stays_8 : decode cL_stays 8 = .ok (.iload_n 2, 1) := by decide +kernel
theorem dL_stays_9 : decode cL_stays 9 = .ok (.invokestatic 39, 3) := by decide +kernel
theorem dL_stays_12 : decode cL_stays 12 = .ok (.if_icmp .ge 29, 3) := by decide +kernel
theorem dL_stays_15 : decode cL_stays 15 = .ok (.iload_n 3, 1) := by decide +kernel
theorem dL_stays_16 : decode cL_stays 16 = .ok (.lload_n 0, 1) := by decide +kernel
theorem dL_stays_17 : decode cL_stays 17 = .ok (.iload_n 2, 1) := by decide +kernel
theorem dL_stays_18 : decode cL_stays 18 = .ok (.iload 4, 2) := by decide +kernel
theorem dL_stays_20 : decode cL_stays 20 = .ok (.invokestatic 42, 3) := by decide +kernel
theorem dL_stays_23 : decode cL_stays 23 = .ok (.lload_n 0, 1) := by decide +kernel
theorem dL_stays_24 : decode cL_stays 24 = .ok (.lcmp, 1) := by decide +kernel
theorem dL_stays_25 : decode cL_stays 25 = .ok (.ifCond .ne 7, 3) := by decide +kernel
theorem dL_stays_28 : decode cL_stays 28 = .ok (.iconst 1, 1) := by decide +kernel
theorem dL_stays_29 : decode cL_stays 29 = .ok (.goto 4, 3) := by decide +kernel
theorem dL_stays_32 : decode cL_stays 32 = .ok (.iconst 0, 1) := by decide +kernel
theorem dL_stays_33 : decode cL_stays 33 = .ok (.iadd, 1) := by decide +kernel
theorem dL_stays_34 : decode cL_stays 34 = .ok (.istore_n 3, 1) := by decide +kernel
theorem dL_stays_35 : decode cL_stays 35 = .ok (.iinc 4 1, 3) := by decide +kernel
theorem dL_stays_38 : decode cL_stays 38 = .ok (.goto (-33), 3) := by decide +kernel
theorem dL_stays_41 : decode cL_stays 41 = .ok (.iload_n 3, 1) := by decide +kernel
theorem dL_stays_42 : decode cL_stays 42 = .ok (.ireturn, 1) := by decide +kernel
set_option maxRecDepth 20000 in
theorem ggL_weight_L_kind : GoodIn wsL_weight wsL_kind := goodIn_r _ [4, 5, 6, 3, 7, 8] (by decide +kernel) (by decide +kernel)
set_option maxRecDepth 20000 in
theorem gL_weight_L_kind : GoodIn wsL_weight (va_wsS RL 24 yL_kind wsL_kind) := goodIn_app (goodIn_of _ (by decide +kernel)) ggL_weight_L_kind
theorem dL_weight_0 : decode cL_weight 0 = .ok (.iconst 0, 1) := by decide +kernel
theorem dL_weight_1 : decode cL_weight 1 = .ok (.istore 5, 2) := by decide +kernel
theorem dL_weight_3 : decode cL_weight 3 = .ok (.iload_n 3, 1) := by decide +kernel
theorem dL_weight_4 : decode cL_weight 4 = .ok (.istore 6, 2) := by decide +kernel
theorem dL_weight_6 : decode cL_weight 6 = .ok (.iload 6, 2) := by decide +kernel
theorem dL_weight_8 : decode cL_weight 8 = .ok (.iload 4, 2) := by decide +kernel
theorem dL_weight_10 : decode cL_weight 10 = .ok (.if_icmp .ge 37, 3) := by decide +kernel
theorem dL_weight_13 : decode cL_weight 13 = .ok (.iload 5, 2) := by decide +kernel
theorem dL_weight_15 : decode cL_weight 15 = .ok (.lload_n 1, 1) := by decide +kernel
theorem dL_weight_16 : decode cL_weight 16 = .ok (.iload 6, 2) := by decide +kernel
theorem dL_weight_18 : decode cL_weight 18 = .ok (.invokestatic 24, 3) := by decide +kernel
theorem dL_weight_21 : decode cL_weight 21 = .ok (.ifCond .ne 7, 3) := by decide +kernel
theorem dL_weight_24 : decode cL_weight 24 = .ok (.iconst 0, 1) := by decide +kernel
theorem dL_weight_25 : decode cL_weight 25 = .ok (.goto 13, 3) := by decide +kernel
theorem dL_weight_28 : decode cL_weight 28 = .ok (.aload_n 0, 1) := by decide +kernel
theorem dL_weight_29 : decode cL_weight 29 = .ok (.iconst 4, 1) := by decide +kernel
theorem dL_weight_30 : decode cL_weight 30 = .ok (.lload_n 1, 1) := by decide +kernel
theorem dL_weight_31 : decode cL_weight 31 = .ok (.iload 6, 2) := by decide +kernel
theorem dL_weight_33 : decode cL_weight 33 = .ok (.invokestatic 24, 3) := by decide +kernel
theorem dL_weight_36 : decode cL_weight 36 = .ok (.iadd, 1) := by decide +kernel
theorem dL_weight_37 : decode cL_weight 37 = .ok (.iaload, 1) := by decide +kernel
theorem dL_weight_38 : decode cL_weight 38 = .ok (.iadd, 1) := by decide +kernel
theorem dL_weight_39 : decode cL_weight 39 = .ok (.istore 5, 2) := by decide +kernel
theorem dL_weight_41 : decode cL_weight 41 = .ok (.iinc 6 1, 3) := by decide +kernel
theorem dL_weight_44 : decode cL_weight 44 = .ok (.goto (-38), 3) := by decide +kernel
theorem dL_weight_47 : decode cL_weight 47 = .ok (.iload 5, 2) := by decide +kernel
theorem dL_weight_49 : decode cL_weight 49 = .ok (.ireturn, 1) := by decide +kernel
set_option maxRecDepth 20000 in
theorem ggL_lean_L_slots : GoodIn wsL_lean wsL_slots := goodIn_r _ [4, 5] (by decide +kernel) (by decide +kernel)
set_option maxRecDepth 20000 in
theorem gL_lean_L_slots : GoodIn wsL_lean (va_wsS RL 12 yL_slots wsL_slots) := goodIn_app (goodIn_of _ (by decide +kernel)) ggL_lean_L_slots
set_option maxRecDepth 20000 in
theorem ggL_lean_L_weight : GoodIn wsL_lean wsL_weight := goodIn_r _ [8, 9, 10, 3, 11, 1, 2, 4, 5] (by decide +kernel) (by decide +kernel)
set_option maxRecDepth 20000 in
theorem gL_lean_L_weight : GoodIn wsL_lean (va_wsS RL 45 yL_weight wsL_weight) := goodIn_app (goodIn_of _ (by decide +kernel)) ggL_lean_L_weight
theorem dL_lean_0 : decode cL_lean 0 = .ok (.lload_n 1, 1) := by decide +kernel
theorem dL_lean_1 : decode cL_lean 1 = .ok (.invokestatic 12, 3) := by decide +kernel
theorem dL_lean_4 : decode cL_lean 4 = .ok (.iconst 4, 1) := by decide +kernel
theorem dL_lean_5 : decode cL_lean 5 = .ok (.idiv, 1) := by decide +kernel
theorem dL_lean_6 : decode cL_lean 6 = .ok (.istore_n 3, 1) := by decide +kernel
theorem dL_lean_7 : decode cL_lean 7 = .ok (.aload_n 0, 1) := by decide +kernel
theorem dL_lean_8 : decode cL_lean 8 = .ok (.lload_n 1, 1) := by decide +kernel
theorem dL_lean_9 : decode cL_lean 9 = .ok (.iconst 0, 1) := by decide +kernel
theorem dL_lean_10 : decode cL_lean 10 = .ok (.iload_n 3, 1) := by decide +kernel
theorem dL_lean_11 : decode cL_lean 11 = .ok (.invokestatic 45, 3) := by decide +kernel
theorem dL_lean_14 : decode cL_lean 14 = .ok (.aload_n 0, 1) := by decide +kernel
theorem dL_lean_15 : decode cL_lean 15 = .ok (.lload_n 1, 1) := by decide +kernel
theorem dL_lean_16 : decode cL_lean 16 = .ok (.iconst 2, 1) := by decide +kernel
theorem dL_lean_17 : decode cL_lean 17 = .ok (.iload_n 3, 1) := by decide +kernel
theorem dL_lean_18 : decode cL_lean 18 = .ok (.imul, 1) := by decide +kernel
theorem dL_lean_19 : decode cL_lean 19 = .ok (.iconst 3, 1) := by decide +kernel
theorem dL_lean_20 : decode cL_lean 20 = .ok (.iload_n 3, 1) := by decide +kernel
theorem dL_lean_21 : decode cL_lean 21 = .ok (.imul, 1) := by decide +kernel
theorem dL_lean_22 : decode cL_lean 22 = .ok (.invokestatic 45, 3) := by decide +kernel
theorem dL_lean_25 : decode cL_lean 25 = .ok (.isub, 1) := by decide +kernel
theorem dL_lean_26 : decode cL_lean 26 = .ok (.istore 4, 2) := by decide +kernel
theorem dL_lean_28 : decode cL_lean 28 = .ok (.aload_n 0, 1) := by decide +kernel
theorem dL_lean_29 : decode cL_lean 29 = .ok (.lload_n 1, 1) := by decide +kernel
theorem dL_lean_30 : decode cL_lean 30 = .ok (.iload_n 3, 1) := by decide +kernel
theorem dL_lean_31 : decode cL_lean 31 = .ok (.iconst 2, 1) := by decide +kernel
theorem dL_lean_32 : decode cL_lean 32 = .ok (.iload_n 3, 1) := by decide +kernel
theorem dL_lean_33 : decode cL_lean 33 = .ok (.imul, 1) := by decide +kernel
theorem dL_lean_34 : decode cL_lean 34 = .ok (.invokestatic 45, 3) := by decide +kernel
theorem dL_lean_37 : decode cL_lean 37 = .ok (.aload_n 0, 1) := by decide +kernel
theorem dL_lean_38 : decode cL_lean 38 = .ok (.lload_n 1, 1) := by decide +kernel
theorem dL_lean_39 : decode cL_lean 39 = .ok (.iconst 3, 1) := by decide +kernel
theorem dL_lean_40 : decode cL_lean 40 = .ok (.iload_n 3, 1) := by decide +kernel
theorem dL_lean_41 : decode cL_lean 41 = .ok (.imul, 1) := by decide +kernel
theorem dL_lean_42 : decode cL_lean 42 = .ok (.iconst 4, 1) := by decide +kernel
theorem dL_lean_43 : decode cL_lean 43 = .ok (.iload_n 3, 1) := by decide +kernel
theorem dL_lean_44 : decode cL_lean 44 = .ok (.imul, 1) := by decide +kernel
theorem dL_lean_45 : decode cL_lean 45 = .ok (.invokestatic 45, 3) := by decide +kernel
theorem dL_lean_48 : decode cL_lean 48 = .ok (.isub, 1) := by decide +kernel
theorem dL_lean_49 : decode cL_lean 49 = .ok (.istore 5, 2) := by decide +kernel
theorem dL_lean_51 : decode cL_lean 51 = .ok (.iload 4, 2) := by decide +kernel
theorem dL_lean_53 : decode cL_lean 53 = .ok (.ifCond .ge 9, 3) := by decide +kernel
theorem dL_lean_56 : decode cL_lean 56 = .ok (.iload 4, 2) := by decide +kernel
theorem dL_lean_58 : decode cL_lean 58 = .ok (.ineg, 1) := by decide +kernel
theorem dL_lean_59 : decode cL_lean 59 = .ok (.goto 5, 3) := by decide +kernel
theorem dL_lean_62 : decode cL_lean 62 = .ok (.iload 4, 2) := by decide +kernel
theorem dL_lean_64 : decode cL_lean 64 = .ok (.iload 5, 2) := by decide +kernel
theorem dL_lean_66 : decode cL_lean 66 = .ok (.ifCond .ge 9, 3) := by decide +kernel
theorem dL_lean_69 : decode cL_lean 69 = .ok (.iload 5, 2) := by decide +kernel
theorem dL_lean_71 : decode cL_lean 71 = .ok (.ineg, 1) := by decide +kernel
theorem dL_lean_72 : decode cL_lean 72 = .ok (.goto 5, 3) := by decide +kernel
theorem dL_lean_75 : decode cL_lean 75 = .ok (.iload 5, 2) := by decide +kernel
theorem dL_lean_77 : decode cL_lean 77 = .ok (.iadd, 1) := by decide +kernel
theorem dL_lean_78 : decode cL_lean 78 = .ok (.ireturn, 1) := by decide +kernel
set_option maxRecDepth 20000 in
theorem ggL_places_L_slots : GoodIn wsL_places wsL_slots := goodIn_r _ [4, 5] (by decide +kernel) (by decide +kernel)
set_option maxRecDepth 20000 in
theorem gL_places_L_slots : GoodIn wsL_places (va_wsS RL 12 yL_slots wsL_slots) := goodIn_app (goodIn_of _ (by decide +kernel)) ggL_places_L_slots
set_option maxRecDepth 20000 in
theorem ggL_places_L_kind : GoodIn wsL_places wsL_kind := goodIn_r _ [8, 1, 2, 3, 4, 5] (by decide +kernel) (by decide +kernel)
set_option maxRecDepth 20000 in
theorem gL_places_L_kind : GoodIn wsL_places (va_wsS RL 24 yL_kind wsL_kind) := goodIn_app (goodIn_of _ (by decide +kernel)) ggL_places_L_kind
theorem dL_places_0 : decode cL_places 0 = .ok (.iconst 0, 1) := by decide +kernel
theorem dL_places_1 : decode cL_places 1 = .ok (.istore_n 3, 1) := by decide +kernel
theorem dL_places_2 : decode cL_places 2 = .ok (.lload_n 1, 1) := by decide +kernel
theorem dL_places_3 : decode cL_places 3 = .ok (.invokestatic 12, 3) := by decide +kernel
theorem dL_places_6 : decode cL_places 6 = .ok (.istore 4, 2) := by decide +kernel
theorem dL_places_8 : decode cL_places 8 = .ok (.iconst 0, 1) := by decide +kernel
theorem dL_places_9 : decode cL_places 9 = .ok (.istore 5, 2) := by decide +kernel
theorem dL_places_11 : decode cL_places 11 = .ok (.iload 5, 2) := by decide +kernel
theorem dL_places_13 : decode cL_places 13 = .ok (.iload 4, 2) := by decide +kernel
theorem dL_places_15 : decode cL_places 15 = .ok (.if_icmp .ge 102, 3) := by decide +kernel
theorem dL_places_18 : decode cL_places 18 = .ok (.aload_n 0, 1) := by decide +kernel
theorem dL_places_19 : decode cL_places 19 = .ok (.bipush 6, 2) := by decide +kernel
theorem dL_places_21 : decode cL_places 21 = .ok (.iaload, 1) := by decide +kernel
theorem dL_places_22 : decode cL_places 22 = .ok (.ifCond .le 95, 3) := by decide +kernel
theorem dL_places_25 : decode cL_places 25 = .ok (.aload_n 0, 1) := by decide +kernel
theorem dL_places_26 : decode cL_places 26 = .ok (.bipush 6, 2) := by decide +kernel
theorem dL_places_28 : decode cL_places 28 = .ok (.iaload, 1) := by decide +kernel
theorem dL_places_29 : decode cL_places 29 = .ok (.iload 4, 2) := by decide +kernel
theorem dL_places_31 : decode cL_places 31 = .ok (.if_icmp .gt 86, 3) := by decide +kernel
theorem dL_places_34 : decode cL_places 34 = .ok (.iconst 1, 1) := by decide +kernel
theorem dL_places_35 : decode cL_places 35 = .ok (.istore 6, 2) := by decide +kernel
theorem dL_places_37 : decode cL_places 37 = .ok (.iconst 0, 1) := by decide +kernel
theorem dL_places_38 : decode cL_places 38 = .ok (.istore 7, 2) := by decide +kernel
theorem dL_places_40 : decode cL_places 40 = .ok (.iload 7, 2) := by decide +kernel
theorem dL_places_42 : decode cL_places 42 = .ok (.aload_n 0, 1) := by decide +kernel
theorem dL_places_43 : decode cL_places 43 = .ok (.bipush 6, 2) := by decide +kernel
theorem dL_places_45 : decode cL_places 45 = .ok (.iaload, 1) := by decide +kernel
theorem dL_places_46 : decode cL_places 46 = .ok (.if_icmp .ge 49, 3) := by decide +kernel
theorem dL_places_49 : decode cL_places 49 = .ok (.iload 6, 2) := by decide +kernel
theorem dL_places_51 : decode cL_places 51 = .ok (.ifCond .eq 35, 3) := by decide +kernel
theorem dL_places_54 : decode cL_places 54 = .ok (.aload_n 0, 1) := by decide +kernel
theorem dL_places_55 : decode cL_places 55 = .ok (.iload 7, 2) := by decide +kernel
theorem dL_places_57 : decode cL_places 57 = .ok (.iaload, 1) := by decide +kernel
theorem dL_places_58 : decode cL_places 58 = .ok (.bipush 9, 2) := by decide +kernel
theorem dL_places_60 : decode cL_places 60 = .ok (.if_icmp .eq 22, 3) := by decide +kernel
theorem dL_places_63 : decode cL_places 63 = .ok (.aload_n 0, 1) := by decide +kernel
theorem dL_places_64 : decode cL_places 64 = .ok (.iload 7, 2) := by decide +kernel
theorem dL_places_66 : decode cL_places 66 = .ok (.iaload, 1) := by decide +kernel
theorem dL_places_67 : decode cL_places 67 = .ok (.lload_n 1, 1) := by decide +kernel
theorem dL_places_68 : decode cL_places 68 = .ok (.iload 5, 2) := by decide +kernel
theorem dL_places_70 : decode cL_places 70 = .ok (.iload 7, 2) := by decide +kernel
theorem dL_places_72 : decode cL_places 72 = .ok (.iadd, 1) := by decide +kernel
theorem dL_places_73 : decode cL_places 73 = .ok (.iload 4, 2) := by decide +kernel
theorem dL_places_75 : decode cL_places 75 = .ok (.irem, 1) := by decide +kernel
theorem dL_places_76 : decode cL_places 76 = .ok (.invokestatic 24, 3) := by decide +kernel
theorem dL_places_79 : decode cL_places 79 = .ok (.if_icmp .ne 7, 3) := by decide +kernel
theorem dL_places_82 : decode cL_places 82 = .ok (.iconst 1, 1) := by decide +kernel
theorem dL_places_83 : decode cL_places 83 = .ok (.goto 4, 3) := by decide +kernel
theorem dL_places_86 : decode cL_places 86 = .ok (.iconst 0, 1) := by decide +kernel
theorem dL_places_87 : decode cL_places 87 = .ok (.istore 6, 2) := by decide +kernel
theorem dL_places_89 : decode cL_places 89 = .ok (.iinc 7 1, 3) := by decide +kernel
theorem dL_places_92 : decode cL_places 92 = .ok (.goto (-52), 3) := by decide +kernel
theorem dL_places_95 : decode cL_places 95 = .ok (.iload_n 3, 1) := by decide +kernel
theorem dL_places_96 : decode cL_places 96 = .ok (.iload 6, 2) := by decide +kernel
theorem dL_places_98 : decode cL_places 98 = .ok (.ifCond .eq 10, 3) := by decide +kernel
theorem dL_places_101 : decode cL_places 101 = .ok (.iconst 1, 1) := by decide +kernel
theorem dL_places_102 : decode cL_places 102 = .ok (.iload 5, 2) := by decide +kernel
theorem dL_places_104 : decode cL_places 104 = .ok (.ishl, 1) := by decide +kernel
theorem dL_places_105 : decode cL_places 105 = .ok (.goto 4, 3) := by decide +kernel
theorem dL_places_108 : decode cL_places 108 = .ok (.iconst 0, 1) := by decide +kernel
theorem dL_places_109 : decode cL_places 109 = .ok (.ior, 1) := by decide +kernel
theorem dL_places_110 : decode cL_places 110 = .ok (.istore_n 3, 1) := by decide +kernel
theorem dL_places_111 : decode cL_places 111 = .ok (.iinc 5 1, 3) := by decide +kernel
theorem dL_places_114 : decode cL_places 114 = .ok (.goto (-103), 3) := by decide +kernel
theorem dL_places_117 : decode cL_places 117 = .ok (.iload_n 3, 1) := by decide +kernel
theorem dL_places_118 : decode cL_places 118 = .ok (.ireturn, 1) := by decide +kernel
theorem dL_ones_0 : decode cL_ones 0 = .ok (.iconst 0, 1) := by decide +kernel
theorem dL_ones_1 : decode cL_ones 1 = .ok (.istore_n 1, 1) := by decide +kernel
theorem dL_ones_2 : decode cL_ones 2 = .ok (.iconst 0, 1) := by decide +kernel
theorem dL_ones_3 : decode cL_ones 3 = .ok (.istore_n 2, 1) := by decide +kernel
theorem dL_ones_4 : decode cL_ones 4 = .ok (.iload_n 2, 1) := by decide +kernel
theorem dL_ones_5 : decode cL_ones 5 = .ok (.bipush 16, 2) := by decide +kernel
theorem dL_ones_7 : decode cL_ones 7 = .ok (.if_icmp .ge 17, 3) := by decide +kernel
theorem dL_ones_10 : decode cL_ones 10 = .ok (.iload_n 1, 1) := by decide +kernel
theorem dL_ones_11 : decode cL_ones 11 = .ok (.iload_n 0, 1) := by decide +kernel
theorem dL_ones_12 : decode cL_ones 12 = .ok (.iload_n 2, 1) := by decide +kernel
theorem dL_ones_13 : decode cL_ones 13 = .ok (.ishr, 1) := by decide +kernel
theorem dL_ones_14 : decode cL_ones 14 = .ok (.iconst 1, 1) := by decide +kernel
theorem dL_ones_15 : decode cL_ones 15 = .ok (.iand, 1) := by decide +kernel
theorem dL_ones_16 : decode cL_ones 16 = .ok (.iadd, 1) := by decide +kernel
theorem dL_ones_17 : decode cL_ones 17 = .ok (.istore_n 1, 1) := by decide +kernel
theorem dL_ones_18 : decode cL_ones 18 = .ok (.iinc 2 1, 3) := by decide +kernel
theorem dL_ones_21 : decode cL_ones 21 = .ok (.goto (-17), 3) := by decide +kernel
theorem dL_ones_24 : decode cL_ones 24 = .ok (.iload_n 1, 1) := by decide +kernel
theorem dL_ones_25 : decode cL_ones 25 = .ok (.ireturn, 1) := by decide +kernel
set_option maxRecDepth 20000 in
theorem ggL_charms_L_slots : GoodIn wsL_charms wsL_slots := goodIn_r _ [4, 5] (by decide +kernel) (by decide +kernel)
set_option maxRecDepth 20000 in
theorem gL_charms_L_slots : GoodIn wsL_charms (va_wsS RL 12 yL_slots wsL_slots) := goodIn_app (goodIn_of _ (by decide +kernel)) ggL_charms_L_slots
set_option maxRecDepth 20000 in
theorem ggL_charms_L_kind : GoodIn wsL_charms wsL_kind := goodIn_r _ [8, 1, 2, 3, 4, 5] (by decide +kernel) (by decide +kernel)
set_option maxRecDepth 20000 in
theorem gL_charms_L_kind : GoodIn wsL_charms (va_wsS RL 24 yL_kind wsL_kind) := goodIn_app (goodIn_of _ (by decide +kernel)) ggL_charms_L_kind
theorem dL_charms_0 : decode cL_charms 0 = .ok (.iconst 0, 1) := by decide +kernel
theorem dL_charms_1 : decode cL_charms 1 = .ok (.istore_n 3, 1) := by decide +kernel
theorem dL_charms_2 : decode cL_charms 2 = .ok (.iconst 0, 1) := by decide +kernel
theorem dL_charms_3 : decode cL_charms 3 = .ok (.istore 4, 2) := by decide +kernel
theorem dL_charms_5 : decode cL_charms 5 = .ok (.iload 4, 2) := by decide +kernel
theorem dL_charms_7 : decode cL_charms 7 = .ok (.lload_n 0, 1) := by decide +kernel
theorem dL_charms_8 : decode cL_charms 8 = .ok (.invokestatic 12, 3) := by decide +kernel
theorem dL_charms_11 : decode cL_charms 11 = .ok (.if_icmp .ge 27, 3) := by decide +kernel
theorem dL_charms_14 : decode cL_charms 14 = .ok (.iload_n 3, 1) := by decide +kernel
theorem dL_charms_15 : decode cL_charms 15 = .ok (.lload_n 0, 1) := by decide +kernel
theorem dL_charms_16 : decode cL_charms 16 = .ok (.iload 4, 2) := by decide +kernel
theorem dL_charms_18 : decode cL_charms 18 = .ok (.invokestatic 24, 3) := by decide +kernel
theorem dL_charms_21 : decode cL_charms 21 = .ok (.iload_n 2, 1) := by decide +kernel
theorem dL_charms_22 : decode cL_charms 22 = .ok (.if_icmp .ne 7, 3) := by decide +kernel
theorem dL_charms_25 : decode cL_charms 25 = .ok (.iconst 1, 1) := by decide +kernel
theorem dL_charms_26 : decode cL_charms 26 = .ok (.goto 4, 3) := by decide +kernel
theorem dL_charms_29 : decode cL_charms 29 = .ok (.iconst 0, 1) := by decide +kernel
theorem dL_charms_30 : decode cL_charms 30 = .ok (.iadd, 1) := by decide +kernel
theorem dL_charms_31 : decode cL_charms 31 = .ok (.istore_n 3, 1) := by decide +kernel
theorem dL_charms_32 : decode cL_charms 32 = .ok (.iinc 4 1, 3) := by decide +kernel
theorem dL_charms_35 : decode cL_charms 35 = .ok (.goto (-30), 3) := by decide +kernel
theorem dL_charms_38 : decode cL_charms 38 = .ok (.iload_n 3, 1) := by decide +kernel
theorem dL_charms_39 : decode cL_charms 39 = .ok (.ireturn, 1) := by decide +kernel
set_option maxRecDepth 20000 in
theorem ggL_unlike_L_slots : GoodIn wsL_unlike wsL_slots := goodIn_r _ [4, 5] (by decide +kernel) (by decide +kernel)
set_option maxRecDepth 20000 in
theorem gL_unlike_L_slots : GoodIn wsL_unlike (va_wsS RL 12 yL_slots wsL_slots) := goodIn_app (goodIn_of _ (by decide +kernel)) ggL_unlike_L_slots
set_option maxRecDepth 20000 in
theorem ggL_unlike_L_kind : GoodIn wsL_unlike wsL_kind := goodIn_r _ [8, 1, 2, 3, 4, 5] (by decide +kernel) (by decide +kernel)
set_option maxRecDepth 20000 in
theorem gL_unlike_L_kind : GoodIn wsL_unlike (va_wsS RL 24 yL_kind wsL_kind) := goodIn_app (goodIn_of _ (by decide +kernel)) ggL_unlike_L_kind
theorem dL_unlike_0 : decode cL_unlike 0 = .ok (.iconst 0, 1) := by decide +kernel
theorem dL_unlike_1 : decode cL_unlike 1 = .ok (.istore 4, 2) := by decide +kernel
theorem dL_unlike_3 : decode cL_unlike 3 = .ok (.iconst 0, 1) := by decide +kernel
theorem dL_unlike_4 : decode cL_unlike 4 = .ok (.istore 5, 2) := by decide +kernel
theorem dL_unlike_6 : decode cL_unlike 6 = .ok (.iload 5, 2) := by decide +kernel
theorem dL_unlike_8 : decode cL_unlike 8 = .ok (.lload_n 0, 1) := by decide +kernel
theorem dL_unlike_9 : decode cL_unlike 9 = .ok (.invokestatic 12, 3) := by decide +kernel
theorem dL_unlike_12 : decode cL_unlike 12 = .ok (.if_icmp .ge 34, 3) := by decide +kernel
theorem dL_unlike_15 : decode cL_unlike 15 = .ok (.iload 4, 2) := by decide +kernel
theorem dL_unlike_17 : decode cL_unlike 17 = .ok (.lload_n 0, 1) := by decide +kernel
theorem dL_unlike_18 : decode cL_unlike 18 = .ok (.iload 5, 2) := by decide +kernel
theorem dL_unlike_20 : decode cL_unlike 20 = .ok (.invokestatic 24, 3) := by decide +kernel
theorem dL_unlike_23 : decode cL_unlike 23 = .ok (.lload_n 2, 1) := by decide +kernel
theorem dL_unlike_24 : decode cL_unlike 24 = .ok (.iload 5, 2) := by decide +kernel
theorem dL_unlike_26 : decode cL_unlike 26 = .ok (.invokestatic 24, 3) := by decide +kernel
theorem dL_unlike_29 : decode cL_unlike 29 = .ok (.if_icmp .ne 7, 3) := by decide +kernel
theorem dL_unlike_32 : decode cL_unlike 32 = .ok (.iconst 0, 1) := by decide +kernel
theorem dL_unlike_33 : decode cL_unlike 33 = .ok (.goto 4, 3) := by decide +kernel
theorem dL_unlike_36 : decode cL_unlike 36 = .ok (.iconst 1, 1) := by decide +kernel
theorem dL_unlike_37 : decode cL_unlike 37 = .ok (.iadd, 1) := by decide +kernel
theorem dL_unlike_38 : decode cL_unlike 38 = .ok (.istore 4, 2) := by decide +kernel
theorem dL_unlike_40 : decode cL_unlike 40 = .ok (.iinc 5 1, 3) := by decide +kernel
theorem dL_unlike_43 : decode cL_unlike 43 = .ok (.goto (-37), 3) := by decide +kernel
theorem dL_unlike_46 : decode cL_unlike 46 = .ok (.iload 4, 2) := by decide +kernel
theorem dL_unlike_48 : decode cL_unlike 48 = .ok (.ireturn, 1) := by decide +kernel
set_option maxRecDepth 20000 in
theorem ggL_enough_L_charms : GoodIn wsL_enough wsL_charms := goodIn_r _ [4, 5, 6, 3, 7, 8, 9, 10, 11] (by decide +kernel) (by decide +kernel)
set_option maxRecDepth 20000 in
theorem gL_enough_L_charms : GoodIn wsL_enough (va_wsS RL 49 yL_charms wsL_charms) := goodIn_app (goodIn_of _ (by decide +kernel)) ggL_enough_L_charms
theorem dL_enough_0 : decode cL_enough 0 = .ok (.iconst 1, 1) := by decide +kernel
theorem dL_enough_1 : decode cL_enough 1 = .ok (.istore_n 3, 1) := by decide +kernel
theorem dL_enough_2 : decode cL_enough 2 = .ok (.iconst 1, 1) := by decide +kernel
theorem dL_enough_3 : decode cL_enough 3 = .ok (.istore 4, 2) := by decide +kernel
theorem dL_enough_5 : decode cL_enough 5 = .ok (.iload 4, 2) := by decide +kernel
theorem dL_enough_7 : decode cL_enough 7 = .ok (.iconst 5, 1) := by decide +kernel
theorem dL_enough_8 : decode cL_enough 8 = .ok (.if_icmp .gt 34, 3) := by decide +kernel
theorem dL_enough_11 : decode cL_enough 11 = .ok (.iload_n 3, 1) := by decide +kernel
theorem dL_enough_12 : decode cL_enough 12 = .ok (.ifCond .eq 22, 3) := by decide +kernel
theorem dL_enough_15 : decode cL_enough 15 = .ok (.aload_n 0, 1) := by decide +kernel
theorem dL_enough_16 : decode cL_enough 16 = .ok (.iload 4, 2) := by decide +kernel
theorem dL_enough_18 : decode cL_enough 18 = .ok (.iconst 1, 1) := by decide +kernel
theorem dL_enough_19 : decode cL_enough 19 = .ok (.isub, 1) := by decide +kernel
theorem dL_enough_20 : decode cL_enough 20 = .ok (.iaload, 1) := by decide +kernel
theorem dL_enough_21 : decode cL_enough 21 = .ok (.lload_n 1, 1) := by decide +kernel
theorem dL_enough_22 : decode cL_enough 22 = .ok (.iload 4, 2) := by decide +kernel
theorem dL_enough_24 : decode cL_enough 24 = .ok (.invokestatic 49, 3) := by decide +kernel
theorem dL_enough_27 : decode cL_enough 27 = .ok (.if_icmp .lt 7, 3) := by decide +kernel
theorem dL_enough_30 : decode cL_enough 30 = .ok (.iconst 1, 1) := by decide +kernel
theorem dL_enough_31 : decode cL_enough 31 = .ok (.goto 4, 3) := by decide +kernel
theorem dL_enough_34 : decode cL_enough 34 = .ok (.iconst 0, 1) := by decide +kernel
theorem dL_enough_35 : decode cL_enough 35 = .ok (.istore_n 3, 1) := by decide +kernel
theorem dL_enough_36 : decode cL_enough 36 = .ok (.iinc 4 1, 3) := by decide +kernel
theorem dL_enough_39 : decode cL_enough 39 = .ok (.goto (-34), 3) := by decide +kernel
theorem dL_enough_42 : decode cL_enough 42 = .ok (.iload_n 3, 1) := by decide +kernel
theorem dL_enough_43 : decode cL_enough 43 = .ok (.ireturn, 1) := by decide +kernel
set_option maxRecDepth 20000 in
theorem ggL_room_L_charms : GoodIn wsL_room wsL_charms := goodIn_r _ [4, 5, 6, 3, 7, 8, 9, 10, 11] (by decide +kernel) (by decide +kernel)
set_option maxRecDepth 20000 in
theorem gL_room_L_charms : GoodIn wsL_room (va_wsS RL 49 yL_charms wsL_charms) := goodIn_app (goodIn_of _ (by decide +kernel)) ggL_room_L_charms
theorem dL_room_0 : decode cL_room 0 = .ok (.iconst 1, 1) := by decide +kernel
theorem dL_room_1 : decode cL_room 1 = .ok (.istore_n 3, 1) := by decide +kernel
theorem dL_room_2 : decode cL_room 2 = .ok (.iconst 1, 1) := by decide +kernel
theorem dL_room_3 : decode cL_room 3 = .ok (.istore 4, 2) := by decide +kernel
theorem dL_room_5 : decode cL_room 5 = .ok (.iload 4, 2) := by decide +kernel
theorem dL_room_7 : decode cL_room 7 = .ok (.iconst 5, 1) := by decide +kernel
theorem dL_room_8 : decode cL_room 8 = .ok (.if_icmp .gt 37, 3) := by decide +kernel
theorem dL_room_11 : decode cL_room 11 = .ok (.iload_n 3, 1) := by decide +kernel
theorem dL_room_12 : decode cL_room 12 = .ok (.ifCond .eq 25, 3) := by decide +kernel
theorem dL_room_15 : decode cL_room 15 = .ok (.aload_n 0, 1) := by decide +kernel
theorem dL_room_16 : decode cL_room 16 = .ok (.iload 4, 2) := by decide +kernel
theorem dL_room_18 : decode cL_room 18 = .ok (.iconst 1, 1) := by decide +kernel
theorem dL_room_19 : decode cL_room 19 = .ok (.isub, 1) := by decide +kernel
theorem dL_room_20 : decode cL_room 20 = .ok (.iaload, 1) := by decide +kernel
theorem dL_room_21 : decode cL_room 21 = .ok (.lload_n 1, 1) := by decide +kernel
theorem dL_room_22 : decode cL_room 22 = .ok (.iload 4, 2) := by decide +kernel
theorem dL_room_24 : decode cL_room 24 = .ok (.invokestatic 49, 3) := by decide +kernel
theorem dL_room_27 : decode cL_room 27 = .ok (.iadd, 1) := by decide +kernel
theorem dL_room_28 : decode cL_room 28 = .ok (.bipush 99, 2) := by decide +kernel
theorem dL_room_30 : decode cL_room 30 = .ok (.if_icmp .gt 7, 3) := by decide +kernel
theorem dL_room_33 : decode cL_room 33 = .ok (.iconst 1, 1) := by decide +kernel
theorem dL_room_34 : decode cL_room 34 = .ok (.goto 4, 3) := by decide +kernel
theorem dL_room_37 : decode cL_room 37 = .ok (.iconst 0, 1) := by decide +kernel
theorem dL_room_38 : decode cL_room 38 = .ok (.istore_n 3, 1) := by decide +kernel
theorem dL_room_39 : decode cL_room 39 = .ok (.iinc 4 1, 3) := by decide +kernel
theorem dL_room_42 : decode cL_room 42 = .ok (.goto (-37), 3) := by decide +kernel
theorem dL_room_45 : decode cL_room 45 = .ok (.iload_n 3, 1) := by decide +kernel
theorem dL_room_46 : decode cL_room 46 = .ok (.ireturn, 1) := by decide +kernel
theorem kL_cell : yL_cell.cls = RL ∧ yL_cell.cls ≠ "java/lang/invoke/MethodHandle" ∧ yL_cell.cls ≠ "java/lang/invoke/VarHandle" ∧ (parseMethodDescriptor yL_cell.desc).map (fun d => d.parameters.length) = some 2 := by decide +kernel
theorem kL_low : yL_low.cls = RL ∧ yL_low.cls ≠ "java/lang/invoke/MethodHandle" ∧ yL_low.cls ≠ "java/lang/invoke/VarHandle" ∧ (parseMethodDescriptor yL_low.desc).map (fun d => d.parameters.length) = some 2 := by decide +kernel
theorem kL_slots : yL_slots.cls = RL ∧ yL_slots.cls ≠ "java/lang/invoke/MethodHandle" ∧ yL_slots.cls ≠ "java/lang/invoke/VarHandle" ∧ (parseMethodDescriptor yL_slots.desc).map (fun d => d.parameters.length) = some 1 := by decide +kernel
theorem kL_kind : yL_kind.cls = RL ∧ yL_kind.cls ≠ "java/lang/invoke/MethodHandle" ∧ yL_kind.cls ≠ "java/lang/invoke/VarHandle" ∧ (parseMethodDescriptor yL_kind.desc).map (fun d => d.parameters.length) = some 2 := by decide +kernel
theorem kL_lay : yL_lay.cls = RL ∧ yL_lay.cls ≠ "java/lang/invoke/MethodHandle" ∧ yL_lay.cls ≠ "java/lang/invoke/VarHandle" ∧ (parseMethodDescriptor yL_lay.desc).map (fun d => d.parameters.length) = some 3 := by decide +kernel
theorem kL_rolled : yL_rolled.cls = RL ∧ yL_rolled.cls ≠ "java/lang/invoke/MethodHandle" ∧ yL_rolled.cls ≠ "java/lang/invoke/VarHandle" ∧ (parseMethodDescriptor yL_rolled.desc).map (fun d => d.parameters.length) = some 1 := by decide +kernel
theorem kL_rolledBy : yL_rolledBy.cls = RL ∧ yL_rolledBy.cls ≠ "java/lang/invoke/MethodHandle" ∧ yL_rolledBy.cls ≠ "java/lang/invoke/VarHandle" ∧ (parseMethodDescriptor yL_rolledBy.desc).map (fun d => d.parameters.length) = some 2 := by decide +kernel
theorem kL_mirrored : yL_mirrored.cls = RL ∧ yL_mirrored.cls ≠ "java/lang/invoke/MethodHandle" ∧ yL_mirrored.cls ≠ "java/lang/invoke/VarHandle" ∧ (parseMethodDescriptor yL_mirrored.desc).map (fun d => d.parameters.length) = some 1 := by decide +kernel
theorem kL_image : yL_image.cls = RL ∧ yL_image.cls ≠ "java/lang/invoke/MethodHandle" ∧ yL_image.cls ≠ "java/lang/invoke/VarHandle" ∧ (parseMethodDescriptor yL_image.desc).map (fun d => d.parameters.length) = some 3 := by decide +kernel
theorem kL_changes : yL_changes.cls = RL ∧ yL_changes.cls ≠ "java/lang/invoke/MethodHandle" ∧ yL_changes.cls ≠ "java/lang/invoke/VarHandle" ∧ (parseMethodDescriptor yL_changes.desc).map (fun d => d.parameters.length) = some 2 := by decide +kernel
theorem kL_least : yL_least.cls = RL ∧ yL_least.cls ≠ "java/lang/invoke/MethodHandle" ∧ yL_least.cls ≠ "java/lang/invoke/VarHandle" ∧ (parseMethodDescriptor yL_least.desc).map (fun d => d.parameters.length) = some 2 := by decide +kernel
theorem kL_stays : yL_stays.cls = RL ∧ yL_stays.cls ≠ "java/lang/invoke/MethodHandle" ∧ yL_stays.cls ≠ "java/lang/invoke/VarHandle" ∧ (parseMethodDescriptor yL_stays.desc).map (fun d => d.parameters.length) = some 2 := by decide +kernel
theorem kL_weight : yL_weight.cls = RL ∧ yL_weight.cls ≠ "java/lang/invoke/MethodHandle" ∧ yL_weight.cls ≠ "java/lang/invoke/VarHandle" ∧ (parseMethodDescriptor yL_weight.desc).map (fun d => d.parameters.length) = some 4 := by decide +kernel
theorem kL_lean : yL_lean.cls = RL ∧ yL_lean.cls ≠ "java/lang/invoke/MethodHandle" ∧ yL_lean.cls ≠ "java/lang/invoke/VarHandle" ∧ (parseMethodDescriptor yL_lean.desc).map (fun d => d.parameters.length) = some 2 := by decide +kernel
theorem kL_places : yL_places.cls = RL ∧ yL_places.cls ≠ "java/lang/invoke/MethodHandle" ∧ yL_places.cls ≠ "java/lang/invoke/VarHandle" ∧ (parseMethodDescriptor yL_places.desc).map (fun d => d.parameters.length) = some 2 := by decide +kernel
theorem kL_ones : yL_ones.cls = RL ∧ yL_ones.cls ≠ "java/lang/invoke/MethodHandle" ∧ yL_ones.cls ≠ "java/lang/invoke/VarHandle" ∧ (parseMethodDescriptor yL_ones.desc).map (fun d => d.parameters.length) = some 1 := by decide +kernel
theorem kL_charms : yL_charms.cls = RL ∧ yL_charms.cls ≠ "java/lang/invoke/MethodHandle" ∧ yL_charms.cls ≠ "java/lang/invoke/VarHandle" ∧ (parseMethodDescriptor yL_charms.desc).map (fun d => d.parameters.length) = some 2 := by decide +kernel
theorem kL_unlike : yL_unlike.cls = RL ∧ yL_unlike.cls ≠ "java/lang/invoke/MethodHandle" ∧ yL_unlike.cls ≠ "java/lang/invoke/VarHandle" ∧ (parseMethodDescriptor yL_unlike.desc).map (fun d => d.parameters.length) = some 2 := by decide +kernel
theorem kL_box : yL_box.cls = RL ∧ yL_box.cls ≠ "java/lang/invoke/MethodHandle" ∧ yL_box.cls ≠ "java/lang/invoke/VarHandle" ∧ (parseMethodDescriptor yL_box.desc).map (fun d => d.parameters.length) = some 7 := by decide +kernel
theorem kL_ring : yL_ring.cls = RL ∧ yL_ring.cls ≠ "java/lang/invoke/MethodHandle" ∧ yL_ring.cls ≠ "java/lang/invoke/VarHandle" ∧ (parseMethodDescriptor yL_ring.desc).map (fun d => d.parameters.length) = some 6 := by decide +kernel
theorem kL_best : yL_best.cls = RL ∧ yL_best.cls ≠ "java/lang/invoke/MethodHandle" ∧ yL_best.cls ≠ "java/lang/invoke/VarHandle" ∧ (parseMethodDescriptor yL_best.desc).map (fun d => d.parameters.length) = some 4 := by decide +kernel
theorem kL_two : yL_two.cls = RL ∧ yL_two.cls ≠ "java/lang/invoke/MethodHandle" ∧ yL_two.cls ≠ "java/lang/invoke/VarHandle" ∧ (parseMethodDescriptor yL_two.desc).map (fun d => d.parameters.length) = some 5 := by decide +kernel
theorem kL_enough : yL_enough.cls = RL ∧ yL_enough.cls ≠ "java/lang/invoke/MethodHandle" ∧ yL_enough.cls ≠ "java/lang/invoke/VarHandle" ∧ (parseMethodDescriptor yL_enough.desc).map (fun d => d.parameters.length) = some 2 := by decide +kernel
theorem kL_room : yL_room.cls = RL ∧ yL_room.cls ≠ "java/lang/invoke/MethodHandle" ∧ yL_room.cls ≠ "java/lang/invoke/VarHandle" ∧ (parseMethodDescriptor yL_room.desc).map (fun d => d.parameters.length) = some 2 := by decide +kernel
