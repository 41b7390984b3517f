/-! ===== BEGIN words of one list among another's, by their places ===== -/
theorem goodIn_r {big : List Cond} (ws : List Cond) (ps : List Nat) (hp : ws = ps.filterMap (fun i => big[i]?)) (h : ws.all goodWord = true) : GoodIn big ws := by
  intro w hw
  have h1 := List.all_eq_true.mp h w hw
  rw [hp] at hw
  obtain ⟨i, -, hi⟩ := List.mem_filterMap.mp hw
  have hm : w ∈ big := by first | exact List.mem_of_getElem? hi | exact List.getElem?_mem hi
  exact ⟨hm, good_of_word h1⟩
theorem goodIn_app {big a b : List Cond} (ha : GoodIn big a) (hb : GoodIn big b) : GoodIn big (a ++ b) := fun w h => (List.mem_append.mp h).elim (ha w) (hb w)
theorem goodIn_ca {big a b : List Cond} {c : Cond} (ha : GoodIn big (c :: a)) (hb : GoodIn big b) : GoodIn big (c :: (a ++ b)) := fun w h => (List.mem_cons.mp h).elim (fun e => ha w (List.mem_cons.mpr (Or.inl e))) (fun h => (List.mem_append.mp h).elim (fun h => ha w (List.mem_cons.mpr (Or.inr h))) (hb w))
theorem goodIn_sub {big ws : List Cond} (hm : ∀ w ∈ ws, w ∈ big) (h : ws.all goodWord = true) : GoodIn big ws := fun w hw => ⟨hm w hw, good_of_word (List.all_eq_true.mp h w hw)⟩
/-! ===== END ===== -/

/-! ===== BEGIN printed: names, fields, word lists, decode rows ===== -/
def RX0 : String := "CharmBracelets$Motif"
def TX0 : u_T := fun k => match k with
  | 0 => ("CharmBracelets$Motif", "length", "I", false)
  | _ => ("CharmBracelets$Motif", "signs", "[I", true)
def tyX0 : Nat → FieldType := fun k => match k with
  | 0 => .int
  | _ => .array .int
abbrev wsX00 : List Cond := u_ws RX0 TX0 2
theorem nmX0 : ∀ a, a < 2 → ∀ b, b < 2 → a ≠ b → (TX0 a).2.1 ≠ (TX0 b).2.1 := by decide +kernel
theorem tyX0_ok : ∀ k, k < 2 → parseFieldDescriptor (TX0 k).2.2.1 = some (tyX0 k) := by decide +kernel
abbrev cX0_init : ByteArray := prog_2_method_1_code
def yX0_init : MethodName := ⟨RX0, "<init>", "()V"⟩
abbrev cX0_becomeNone : ByteArray := prog_2_method_2_code
def yX0_becomeNone : MethodName := ⟨RX0, "becomeNone", "()V"⟩
abbrev cX0_becomeLike : ByteArray := prog_2_method_3_code
def yX0_becomeLike : MethodName := ⟨RX0, "becomeLike", "(LCharmBracelets$Motif;)V"⟩
abbrev cX0_addSign : ByteArray := prog_2_method_4_code
def yX0_addSign : MethodName := ⟨RX0, "addSign", "(I)V"⟩
abbrev cX0_slotSet : ByteArray := prog_2_method_5_code
def yX0_slotSet : MethodName := ⟨RX0, "slotSet", "(LCharmBracelets$Ring;)I"⟩
abbrev cX0_isAt : ByteArray := prog_2_method_6_code
def yX0_isAt : MethodName := ⟨RX0, "isAt", "(LCharmBracelets$Ring;I)Z"⟩
def RX1 : String := "CharmBracelets$NotedList"
def TX1 : u_T := fun k => match k with
  | 0 => ("CharmBracelets$NotedList", "length", "I", false)
  | 1 => ("CharmBracelets$NotedList", "firsts", "[LCharmBracelets$Ring;", true)
  | _ => ("CharmBracelets$NotedList", "times", "[I", true)
def tyX1 : Nat → FieldType := fun k => match k with
  | 0 => .int
  | 1 => .array (.object "CharmBracelets$Ring")
  | _ => .array .int
abbrev wsX10 : List Cond := u_ws RX1 TX1 3
theorem nmX1 : ∀ a, a < 3 → ∀ b, b < 3 → a ≠ b → (TX1 a).2.1 ≠ (TX1 b).2.1 := by decide +kernel
theorem tyX1_ok : ∀ k, k < 3 → parseFieldDescriptor (TX1 k).2.2.1 = some (tyX1 k) := by decide +kernel
abbrev cX1_init : ByteArray := prog_3_method_1_code
def yX1_init : MethodName := ⟨RX1, "<init>", "()V"⟩
abbrev cX1_becomeLike : ByteArray := prog_3_method_2_code
def yX1_becomeLike : MethodName := ⟨RX1, "becomeLike", "(LCharmBracelets$NotedList;)V"⟩
abbrev cX1_entryOf : ByteArray := prog_3_method_3_code
def yX1_entryOf : MethodName := ⟨RX1, "entryOf", "(LCharmBracelets$Ring;)I"⟩
abbrev cX1_count : ByteArray := prog_3_method_4_code
def yX1_count : MethodName := ⟨RX1, "count", "(ILCharmBracelets$Ring;)V"⟩
def RX2 : String := "CharmBracelets$Ring"
def TX2 : u_T := fun k => match k with
  | 0 => ("CharmBracelets$Ring", "size", "I", false)
  | _ => ("CharmBracelets$Ring", "kinds", "[I", true)
def tyX2 : Nat → FieldType := fun k => match k with
  | 0 => .int
  | _ => .array .int
abbrev wsX20 : List Cond := u_ws RX2 TX2 2
theorem nmX2 : ∀ a, a < 2 → ∀ b, b < 2 → a ≠ b → (TX2 a).2.1 ≠ (TX2 b).2.1 := by decide +kernel
theorem tyX2_ok : ∀ k, k < 2 → parseFieldDescriptor (TX2 k).2.2.1 = some (tyX2 k) := by decide +kernel
abbrev cX2_init : ByteArray := prog_4_method_1_code
def yX2_init : MethodName := ⟨RX2, "<init>", "()V"⟩
abbrev cX2_becomeEmpty : ByteArray := prog_4_method_2_code
def yX2_becomeEmpty : MethodName := ⟨RX2, "becomeEmpty", "(I)V"⟩
abbrev cX2_becomeLike : ByteArray := prog_4_method_3_code
def yX2_becomeLike : MethodName := ⟨RX2, "becomeLike", "(LCharmBracelets$Ring;)V"⟩
abbrev cX2_hasSlot : ByteArray := prog_4_method_4_code
def yX2_hasSlot : MethodName := ⟨RX2, "hasSlot", "(I)Z"⟩
abbrev cX2_at : ByteArray := prog_4_method_5_code
def yX2_at : MethodName := ⟨RX2, "at", "(I)I"⟩
abbrev cX2_put : ByteArray := prog_4_method_6_code
def yX2_put : MethodName := ⟨RX2, "put", "(II)V"⟩
abbrev cX2_exchange : ByteArray := prog_4_method_7_code
def yX2_exchange : MethodName := ⟨RX2, "exchange", "(II)V"⟩
abbrev cX2_around : ByteArray := prog_4_method_8_code
def yX2_around : MethodName := ⟨RX2, "around", "(I)I"⟩
abbrev cX2_charms : ByteArray := prog_4_method_9_code
def yX2_charms : MethodName := ⟨RX2, "charms", "()I"⟩
abbrev cX2_charmsOf : ByteArray := prog_4_method_10_code
def yX2_charmsOf : MethodName := ⟨RX2, "charmsOf", "(I)I"⟩
abbrev cX2_kindAfter : ByteArray := prog_4_method_11_code
def yX2_kindAfter : MethodName := ⟨RX2, "kindAfter", "(II)I"⟩
abbrev cX2_differences : ByteArray := prog_4_method_12_code
def yX2_differences : MethodName := ⟨RX2, "differences", "(ILCharmBracelets$Ring;)I"⟩
abbrev cX2_leastDifferences : ByteArray := prog_4_method_13_code
def yX2_leastDifferences : MethodName := ⟨RX2, "leastDifferences", "(LCharmBracelets$Ring;I)I"⟩
abbrev cX2_isAlike : ByteArray := prog_4_method_14_code
def yX2_isAlike : MethodName := ⟨RX2, "isAlike", "(LCharmBracelets$Ring;I)Z"⟩
abbrev cX2_leastChange : ByteArray := prog_4_method_15_code
def yX2_leastChange : MethodName := ⟨RX2, "leastChange", "(I)I"⟩
abbrev cX2_comesFirst : ByteArray := prog_4_method_16_code
def yX2_comesFirst : MethodName := ⟨RX2, "comesFirst", "(II)Z"⟩
abbrev cX2_differentRings : ByteArray := prog_4_method_17_code
def yX2_differentRings : MethodName := ⟨RX2, "differentRings", "(I)I"⟩
abbrev cX2_slotsTurnedInto : ByteArray := prog_4_method_18_code
def yX2_slotsTurnedInto : MethodName := ⟨RX2, "slotsTurnedInto", "(II)I"⟩
def RX3 : String := "CharmBracelets$State"
def TX3 : u_T := fun k => match k with
  | 0 => ("CharmBracelets$State", "box", "[I", true)
  | 1 => ("CharmBracelets$State", "weights", "[I", true)
  | 2 => ("CharmBracelets$State", "rings", "[LCharmBracelets$Ring;", true)
  | 3 => ("CharmBracelets$State", "motif", "LCharmBracelets$Motif;", true)
  | _ => ("CharmBracelets$State", "list", "LCharmBracelets$NotedList;", true)
def tyX3 : Nat → FieldType := fun k => match k with
  | 0 => .array .int
  | 1 => .array .int
  | 2 => .array (.object "CharmBracelets$Ring")
  | 3 => .object "CharmBracelets$Motif"
  | _ => .object "CharmBracelets$NotedList"
abbrev wsX30 : List Cond := u_ws RX3 TX3 5
theorem nmX3 : ∀ a, a < 5 → ∀ b, b < 5 → a ≠ b → (TX3 a).2.1 ≠ (TX3 b).2.1 := by decide +kernel
theorem tyX3_ok : ∀ k, k < 5 → parseFieldDescriptor (TX3 k).2.2.1 = some (tyX3 k) := by decide +kernel
abbrev cX3_init : ByteArray := prog_5_method_1_code
def yX3_init : MethodName := ⟨RX3, "<init>", "()V"⟩
abbrev cX3_becomeLike : ByteArray := prog_5_method_2_code
def yX3_becomeLike : MethodName := ⟨RX3, "becomeLike", "(LCharmBracelets$State;)V"⟩
abbrev cX3_find : ByteArray := prog_5_method_3_code
def yX3_find : MethodName := ⟨RX3, "find", "(I)LCharmBracelets$Ring;"⟩
abbrev cX3_freeNumber : ByteArray := prog_5_method_4_code
def yX3_freeNumber : MethodName := ⟨RX3, "freeNumber", "()I"⟩
abbrev cX3_ringSet : ByteArray := prog_5_method_5_code
def yX3_ringSet : MethodName := ⟨RX3, "ringSet", "()I"⟩
abbrev cX3_ringsAlike : ByteArray := prog_5_method_6_code
def yX3_ringsAlike : MethodName := ⟨RX3, "ringsAlike", "(LCharmBracelets$Ring;I)I"⟩
abbrev cX3_charmsHung : ByteArray := prog_5_method_7_code
def yX3_charmsHung : MethodName := ⟨RX3, "charmsHung", "(I)I"⟩
abbrev cX3_boxHasCharmsFor : ByteArray := prog_5_method_8_code
def yX3_boxHasCharmsFor : MethodName := ⟨RX3, "boxHasCharmsFor", "(LCharmBracelets$Ring;)Z"⟩
abbrev cX3_boxHasRoomFor : ByteArray := prog_5_method_9_code
def yX3_boxHasRoomFor : MethodName := ⟨RX3, "boxHasRoomFor", "(LCharmBracelets$Ring;)Z"⟩
abbrev cX3_takeOut : ByteArray := prog_5_method_10_code
def yX3_takeOut : MethodName := ⟨RX3, "takeOut", "(LCharmBracelets$Ring;)V"⟩
abbrev cX3_putBack : ByteArray := prog_5_method_11_code
def yX3_putBack : MethodName := ⟨RX3, "putBack", "(LCharmBracelets$Ring;)V"⟩
abbrev cX3_weight : ByteArray := prog_5_method_12_code
def yX3_weight : MethodName := ⟨RX3, "weight", "(LCharmBracelets$Ring;II)I"⟩
abbrev cX3_quarterWeight : ByteArray := prog_5_method_13_code
def yX3_quarterWeight : MethodName := ⟨RX3, "quarterWeight", "(LCharmBracelets$Ring;I)I"⟩
abbrev cX3_lean : ByteArray := prog_5_method_14_code
def yX3_lean : MethodName := ⟨RX3, "lean", "(LCharmBracelets$Ring;)I"⟩
def RX4 : String := "CharmBracelets$Text"
def TX4 : u_T := fun k => match k with
  | 0 => ("CharmBracelets$Text", "length", "I", false)
  | 1 => ("CharmBracelets$Text", "codes", "[I", true)
  | 2 => ("CharmBracelets$Text", "total", "I", false)
  | _ => ("CharmBracelets$Text", "number", "I", false)
def tyX4 : Nat → FieldType := fun k => match k with
  | 0 => .int
  | 1 => .array .int
  | 2 => .int
  | _ => .int
abbrev wsX40 : List Cond := u_ws RX4 TX4 4
theorem nmX4 : ∀ a, a < 4 → ∀ b, b < 4 → a ≠ b → (TX4 a).2.1 ≠ (TX4 b).2.1 := by decide +kernel
theorem tyX4_ok : ∀ k, k < 4 → parseFieldDescriptor (TX4 k).2.2.1 = some (tyX4 k) := by decide +kernel
abbrev cX4_init : ByteArray := prog_6_method_1_code
def yX4_init : MethodName := ⟨RX4, "<init>", "()V"⟩
def RX5 : String := "CharmBracelets"
def TX5 : u_T := fun k => match k with
  | 0 => ("CharmBracelets", "now", "LCharmBracelets$State;", true)
  | 1 => ("CharmBracelets", "saved", "LCharmBracelets$State;", true)
  | 2 => ("CharmBracelets", "recorded", "[LCharmBracelets$State;", true)
  | 3 => ("CharmBracelets", "buffer", "LCharmBracelets$Text;", true)
  | 4 => ("CharmBracelets", "trial", "LCharmBracelets$Ring;", true)
  | 5 => ("CharmBracelets", "anySaved", "Z", false)
  | _ => ("CharmBracelets", "recordedStates", "I", false)
def tyX5 : Nat → FieldType := fun k => match k with
  | 0 => .object "CharmBracelets$State"
  | 1 => .object "CharmBracelets$State"
  | 2 => .array (.object "CharmBracelets$State")
  | 3 => .object "CharmBracelets$Text"
  | 4 => .object "CharmBracelets$Ring"
  | 5 => .boolean
  | _ => .int
abbrev wsX50 : List Cond := u_ws RX5 TX5 7
theorem nmX5 : ∀ a, a < 7 → ∀ b, b < 7 → a ≠ b → (TX5 a).2.1 ≠ (TX5 b).2.1 := by decide +kernel
theorem tyX5_ok : ∀ k, k < 7 → parseFieldDescriptor (TX5 k).2.2.1 = some (tyX5 k) := by decide +kernel
abbrev cX5_init : ByteArray := prog_1_method_1_code
def yX5_init : MethodName := ⟨RX5, "<init>", "()V"⟩
abbrev cX5_fill : ByteArray := prog_1_method_2_code
def yX5_fill : MethodName := ⟨RX5, "fill", "(II)I"⟩
abbrev cX5_weigh : ByteArray := prog_1_method_3_code
def yX5_weigh : MethodName := ⟨RX5, "weigh", "(II)I"⟩
abbrev cX5_kind : ByteArray := prog_1_method_4_code
def yX5_kind : MethodName := ⟨RX5, "kind", "(II)I"⟩
abbrev cX5_make : ByteArray := prog_1_method_5_code
def yX5_make : MethodName := ⟨RX5, "make", "(I)I"⟩
abbrev cX5_copy : ByteArray := prog_1_method_6_code
def yX5_copy : MethodName := ⟨RX5, "copy", "(I)I"⟩
abbrev cX5_remove : ByteArray := prog_1_method_7_code
def yX5_remove : MethodName := ⟨RX5, "remove", "(I)I"⟩
abbrev cX5_hang : ByteArray := prog_1_method_8_code
def yX5_hang : MethodName := ⟨RX5, "hang", "(III)I"⟩
abbrev cX5_takeOff : ByteArray := prog_1_method_9_code
def yX5_takeOff : MethodName := ⟨RX5, "takeOff", "(II)I"⟩
abbrev cX5_swap : ByteArray := prog_1_method_10_code
def yX5_swap : MethodName := ⟨RX5, "swap", "(III)I"⟩
abbrev cX5_roll : ByteArray := prog_1_method_11_code
def yX5_roll : MethodName := ⟨RX5, "roll", "(II)I"⟩
abbrev cX5_turn : ByteArray := prog_1_method_12_code
def yX5_turn : MethodName := ⟨RX5, "turn", "(II)I"⟩
abbrev cX5_mirror : ByteArray := prog_1_method_13_code
def yX5_mirror : MethodName := ⟨RX5, "mirror", "(I)I"⟩
abbrev cX5_bracelets : ByteArray := prog_1_method_14_code
def yX5_bracelets : MethodName := ⟨RX5, "bracelets", "()I"⟩
abbrev cX5_bracelet : ByteArray := prog_1_method_15_code
def yX5_bracelet : MethodName := ⟨RX5, "bracelet", "(II)I"⟩
abbrev cX5_slot : ByteArray := prog_1_method_16_code
def yX5_slot : MethodName := ⟨RX5, "slot", "(II)I"⟩
abbrev cX5_quarter : ByteArray := prog_1_method_17_code
def yX5_quarter : MethodName := ⟨RX5, "quarter", "(II)I"⟩
abbrev cX5_alike : ByteArray := prog_1_method_18_code
def yX5_alike : MethodName := ⟨RX5, "alike", "(III)I"⟩
abbrev cX5_least : ByteArray := prog_1_method_19_code
def yX5_least : MethodName := ⟨RX5, "least", "(III)I"⟩
abbrev cX5_orbit : ByteArray := prog_1_method_20_code
def yX5_orbit : MethodName := ⟨RX5, "orbit", "(II)I"⟩
abbrev cX5_fixed : ByteArray := prog_1_method_21_code
def yX5_fixed : MethodName := ⟨RX5, "fixed", "(I)I"⟩
abbrev cX5_distance : ByteArray := prog_1_method_22_code
def yX5_distance : MethodName := ⟨RX5, "distance", "(II)I"⟩
abbrev cX5_setMotif : ByteArray := prog_1_method_24_code
def yX5_setMotif : MethodName := ⟨RX5, "setMotif", "(III)I"⟩
abbrev cX5_sign : ByteArray := prog_1_method_25_code
def yX5_sign : MethodName := ⟨RX5, "sign", "(II)I"⟩
abbrev cX5_cutMotif : ByteArray := prog_1_method_26_code
def yX5_cutMotif : MethodName := ⟨RX5, "cutMotif", "()I"⟩
abbrev cX5_motif : ByteArray := prog_1_method_27_code
def yX5_motif : MethodName := ⟨RX5, "motif", "(I)I"⟩
abbrev cX5_motifAt : ByteArray := prog_1_method_28_code
def yX5_motifAt : MethodName := ⟨RX5, "motifAt", "(I)I"⟩
abbrev cX5_staysAt : ByteArray := prog_1_method_29_code
def yX5_staysAt : MethodName := ⟨RX5, "staysAt", "(I)I"⟩
abbrev cX5_note : ByteArray := prog_1_method_30_code
def yX5_note : MethodName := ⟨RX5, "note", "(I)I"⟩
abbrev cX5_entries : ByteArray := prog_1_method_31_code
def yX5_entries : MethodName := ⟨RX5, "entries", "()I"⟩
abbrev cX5_entry : ByteArray := prog_1_method_32_code
def yX5_entry : MethodName := ⟨RX5, "entry", "(II)I"⟩
abbrev cX5_ifHung : ByteArray := prog_1_method_33_code
def yX5_ifHung : MethodName := ⟨RX5, "ifHung", "(III)I"⟩
abbrev cX5_bestSwap : ByteArray := prog_1_method_34_code
def yX5_bestSwap : MethodName := ⟨RX5, "bestSwap", "(I)I"⟩
abbrev cX5_record : ByteArray := prog_1_method_42_code
def yX5_record : MethodName := ⟨RX5, "record", "()V"⟩
abbrev cX5_discardOldest : ByteArray := prog_1_method_43_code
def yX5_discardOldest : MethodName := ⟨RX5, "discardOldest", "()V"⟩
abbrev cX5_addFromBox : ByteArray := prog_1_method_44_code
def yX5_addFromBox : MethodName := ⟨RX5, "addFromBox", "(LCharmBracelets$Ring;)I"⟩
abbrev cX5_change : ByteArray := prog_1_method_45_code
def yX5_change : MethodName := ⟨RX5, "change", "(LCharmBracelets$Ring;I)I"⟩
abbrev cX5_leanAfterSwap : ByteArray := prog_1_method_46_code
def yX5_leanAfterSwap : MethodName := ⟨RX5, "leanAfterSwap", "(LCharmBracelets$Ring;II)I"⟩
abbrev cX5_isCharm : ByteArray := prog_1_method_47_code
def yX5_isCharm : MethodName := ⟨RX5, "isCharm", "(I)Z"⟩
abbrev cX5_isKindOrEmpty : ByteArray := prog_1_method_48_code
def yX5_isKindOrEmpty : MethodName := ⟨RX5, "isKindOrEmpty", "(I)Z"⟩
abbrev cX5_isSize : ByteArray := prog_1_method_49_code
def yX5_isSize : MethodName := ⟨RX5, "isSize", "(I)Z"⟩
abbrev cX5_isLevel : ByteArray := prog_1_method_50_code
def yX5_isLevel : MethodName := ⟨RX5, "isLevel", "(I)Z"⟩
abbrev cX5_changeCount : ByteArray := prog_1_method_51_code
def yX5_changeCount : MethodName := ⟨RX5, "changeCount", "(II)I"⟩
abbrev cX5_changeAt : ByteArray := prog_1_method_52_code
def yX5_changeAt : MethodName := ⟨RX5, "changeAt", "(III)I"⟩
def RX6 : String := "CharmBraceletsModel"
def TX6 : u_T := fun k => match k with
  | _ => ("", "", "", false)
def tyX6 : Nat → FieldType := fun k => match k with
  | _ => .int
abbrev wsX60 : List Cond := u_ws RX6 TX6 0
theorem nmX6 : ∀ a, a < 0 → ∀ b, b < 0 → a ≠ b → (TX6 a).2.1 ≠ (TX6 b).2.1 := by decide +kernel
theorem tyX6_ok : ∀ k, k < 0 → parseFieldDescriptor (TX6 k).2.2.1 = some (tyX6 k) := by decide +kernel
def RJ6 : String := "java/lang/Integer"
def TJ6 : u_T := fun k => match k with
  | _ => ("", "", "", false)
def tyJ6 : Nat → FieldType := fun k => match k with
  | _ => .int
abbrev wsJ60 : List Cond := u_ws RJ6 TJ6 0
theorem nmJ6 : ∀ a, a < 0 → ∀ b, b < 0 → a ≠ b → (TJ6 a).2.1 ≠ (TJ6 b).2.1 := by decide +kernel
theorem tyJ6_ok : ∀ k, k < 0 → parseFieldDescriptor (TJ6 k).2.2.1 = some (tyJ6 k) := by decide +kernel
abbrev cJ6_bitCount_0f7a4 : ByteArray := prog_9_method_49_code
def yJ6_bitCount_0f7a4 : MethodName := ⟨RJ6, "bitCount", "(I)I"⟩
def RJ9 : String := "java/lang/Math"
def TJ9 : u_T := fun k => match k with
  | _ => ("", "", "", false)
def tyJ9 : Nat → FieldType := fun k => match k with
  | _ => .int
abbrev wsJ90 : List Cond := u_ws RJ9 TJ9 0
theorem nmJ9 : ∀ a, a < 0 → ∀ b, b < 0 → a ≠ b → (TJ9 a).2.1 ≠ (TJ9 b).2.1 := by decide +kernel
theorem tyJ9_ok : ∀ k, k < 0 → parseFieldDescriptor (TJ9 k).2.2.1 = some (tyJ9 k) := by decide +kernel
abbrev cJ9_abs_0f7a4 : ByteArray := prog_10_method_59_code
def yJ9_abs_0f7a4 : MethodName := ⟨RJ9, "abs", "(I)I"⟩
abbrev cJ9_min_7cf53 : ByteArray := prog_10_method_69_code
def yJ9_min_7cf53 : MethodName := ⟨RJ9, "min", "(II)I"⟩
def RJ10 : String := "java/lang/System"
def TJ10 : u_T := fun k => match k with
  | _ => ("", "", "", false)
def tyJ10 : Nat → FieldType := fun k => match k with
  | _ => .int
abbrev wsJ100 : List Cond := u_ws RJ10 TJ10 0
theorem nmJ10 : ∀ a, a < 0 → ∀ b, b < 0 → a ≠ b → (TJ10 a).2.1 ≠ (TJ10 b).2.1 := by decide +kernel
theorem tyJ10_ok : ∀ k, k < 0 → parseFieldDescriptor (TJ10 k).2.2.1 = some (tyJ10 k) := by decide +kernel
def RL : String := "CharmBraceletsLaw"
abbrev cL_cell : ByteArray := method_2_code
def yL_cell : MethodName := ⟨RL, "cell", "([II)I"⟩
abbrev cL_low : ByteArray := method_3_code
def yL_low : MethodName := ⟨RL, "low", "(II)I"⟩
abbrev cL_slots : ByteArray := method_4_code
def yL_slots : MethodName := ⟨RL, "slots", "(J)I"⟩
abbrev cL_kind : ByteArray := method_5_code
def yL_kind : MethodName := ⟨RL, "kind", "(JI)I"⟩
abbrev cL_lay : ByteArray := method_6_code
def yL_lay : MethodName := ⟨RL, "lay", "(JII)J"⟩
abbrev cL_rolled : ByteArray := method_7_code
def yL_rolled : MethodName := ⟨RL, "rolled", "(J)J"⟩
abbrev cL_rolledBy : ByteArray := method_8_code
def yL_rolledBy : MethodName := ⟨RL, "rolledBy", "(JI)J"⟩
abbrev cL_mirrored : ByteArray := method_9_code
def yL_mirrored : MethodName := ⟨RL, "mirrored", "(J)J"⟩
abbrev cL_image : ByteArray := method_10_code
def yL_image : MethodName := ⟨RL, "image", "(JII)J"⟩
abbrev cL_changes : ByteArray := method_11_code
def yL_changes : MethodName := ⟨RL, "changes", "(JI)I"⟩
abbrev cL_least : ByteArray := method_12_code
def yL_least : MethodName := ⟨RL, "least", "(JI)J"⟩
abbrev cL_stays : ByteArray := method_13_code
def yL_stays : MethodName := ⟨RL, "stays", "(JI)I"⟩
abbrev cL_weight : ByteArray := method_14_code
def yL_weight : MethodName := ⟨RL, "weight", "([IJII)I"⟩
abbrev cL_lean : ByteArray := method_15_code
def yL_lean : MethodName := ⟨RL, "lean", "([IJ)I"⟩
abbrev cL_places : ByteArray := method_16_code
def yL_places : MethodName := ⟨RL, "places", "([IJ)I"⟩
abbrev cL_ones : ByteArray := method_17_code
def yL_ones : MethodName := ⟨RL, "ones", "(I)I"⟩
abbrev cL_charms : ByteArray := method_18_code
def yL_charms : MethodName := ⟨RL, "charms", "(JI)I"⟩
abbrev cL_unlike : ByteArray := method_19_code
def yL_unlike : MethodName := ⟨RL, "unlike", "(JJ)I"⟩
abbrev cL_box : ByteArray := method_20_code
def yL_box : MethodName := ⟨RL, "box", "(LCharmBracelets;[J[I[I[J[II)Z"⟩
abbrev cL_ring : ByteArray := method_21_code
def yL_ring : MethodName := ⟨RL, "ring", "(LCharmBracelets;[I[IIJI)Z"⟩
abbrev cL_best : ByteArray := method_22_code
def yL_best : MethodName := ⟨RL, "best", "(LCharmBracelets;[IIJ)Z"⟩
abbrev cL_two : ByteArray := method_23_code
def yL_two : MethodName := ⟨RL, "two", "(LCharmBracelets;[JIII)Z"⟩
abbrev cL_enough : ByteArray := method_24_code
def yL_enough : MethodName := ⟨RL, "enough", "([IJ)Z"⟩
abbrev cL_room : ByteArray := method_25_code
def yL_room : MethodName := ⟨RL, "room", "([IJ)Z"⟩
abbrev cL_law : ByteArray := code
def yL_law : MethodName := ⟨RL, "law", "([I)Z"⟩
def wsX0_init : List Cond := .code yX0_init cX0_init 1 none :: ([.methodLink RX0 3 objectInit, .instanceMethod objectInit, .code objectInit ⟨#[0xb1]⟩ 1 none, .arrayClass .int, .fieldLink RX0 9 "CharmBracelets$Motif" "signs" "[I"] ++ wsX00)
def wsX0_becomeNone : List Cond := .code yX0_becomeNone cX0_becomeNone 1 none :: ([.fieldLink RX0 15 "CharmBracelets$Motif" "length" "I"] ++ wsX00)
def wsX0_becomeLike : List Cond := .code yX0_becomeLike cX0_becomeLike 2 none :: ([.fieldLink RX0 15 "CharmBracelets$Motif" "length" "I", .fieldLink RX0 9 "CharmBracelets$Motif" "signs" "[I", .methodLink RX0 19 arraycopyName, .native arraycopyName, .static arraycopyName, .initialized "java/lang/System"] ++ wsX00)
def wsX0_addSign : List Cond := .code yX0_addSign cX0_addSign 2 none :: ([.fieldLink RX0 15 "CharmBracelets$Motif" "length" "I", .fieldLink RX0 9 "CharmBracelets$Motif" "signs" "[I"] ++ wsX00)
def wsX2_around : List Cond := .code yX2_around cX2_around 2 (some .int) :: ([.fieldLink RX2 15 "CharmBracelets$Ring" "size" "I"] ++ wsX20)
def wsX2_at : List Cond := .code yX2_at cX2_at 2 (some .int) :: ([.fieldLink RX2 9 "CharmBracelets$Ring" "kinds" "[I"] ++ wsX20)
def wsX0_isAt : List Cond := .code yX0_isAt cX0_isAt 4 (some .boolean) :: ([.fieldLink RX0 15 "CharmBracelets$Motif" "length" "I", .fieldLink RX0 9 "CharmBracelets$Motif" "signs" "[I", .instanceMethod yX2_around, .initialized RX2, .selects RX2 yX2_around yX2_around, .code yX2_around cX2_around 2 (some .int), .fieldLink RX2 15 "CharmBracelets$Ring" "size" "I", .instanceMethod yX2_at, .selects RX2 yX2_at yX2_at, .code yX2_at cX2_at 2 (some .int), .fieldLink RX2 9 "CharmBracelets$Ring" "kinds" "[I"] ++ wsX00 ++ wsX20)
def wsX0_slotSet : List Cond := .code yX0_slotSet cX0_slotSet 4 (some .int) :: ([.methodLink RX0 30 yX0_isAt, .instanceMethod yX0_isAt, .selects RX0 yX0_isAt yX0_isAt, .initialized RX0, .code yX0_isAt cX0_isAt 4 (some .boolean), .fieldLink RX0 15 "CharmBracelets$Motif" "length" "I", .fieldLink RX0 9 "CharmBracelets$Motif" "signs" "[I", .instanceMethod yX2_around, .initialized RX2, .selects RX2 yX2_around yX2_around, .code yX2_around cX2_around 2 (some .int), .fieldLink RX2 15 "CharmBracelets$Ring" "size" "I", .instanceMethod yX2_at, .selects RX2 yX2_at yX2_at, .code yX2_at cX2_at 2 (some .int), .fieldLink RX2 9 "CharmBracelets$Ring" "kinds" "[I"] ++ wsX20 ++ wsX00)
def wsX2_init : List Cond := .code yX2_init cX2_init 1 none :: ([.methodLink RX2 3 objectInit, .instanceMethod objectInit, .code objectInit ⟨#[0xb1]⟩ 1 none, .arrayClass .int, .fieldLink RX2 9 "CharmBracelets$Ring" "kinds" "[I"] ++ wsX20)
def wsX1_init : List Cond := .code yX1_init cX1_init 2 none :: ([.methodLink RX1 3 objectInit, .instanceMethod objectInit, .code objectInit ⟨#[0xb1]⟩ 1 none, .classLink RX1 9 RX2, .fieldLink RX1 11 "CharmBracelets$NotedList" "firsts" "[LCharmBracelets$Ring;", .arrayClass .int, .fieldLink RX1 17 "CharmBracelets$NotedList" "times" "[I", .instantiable RX2 2, .initialized RX2, .instanceMethod yX2_init, .code yX2_init cX2_init 1 none, .methodLink RX2 3 objectInit, .fieldLink RX2 9 "CharmBracelets$Ring" "kinds" "[I"] ++ wsX10 ++ wsX20)
def wsX2_becomeLike : List Cond := .code yX2_becomeLike cX2_becomeLike 2 none :: ([.fieldLink RX2 15 "CharmBracelets$Ring" "size" "I", .fieldLink RX2 9 "CharmBracelets$Ring" "kinds" "[I", .methodLink RX2 19 arraycopyName, .native arraycopyName, .static arraycopyName, .initialized "java/lang/System"] ++ wsX20)
def wsX1_becomeLike : List Cond := .code yX1_becomeLike cX1_becomeLike 3 none :: ([.fieldLink RX1 22 "CharmBracelets$NotedList" "length" "I", .fieldLink RX1 11 "CharmBracelets$NotedList" "firsts" "[LCharmBracelets$Ring;", .fieldLink RX1 17 "CharmBracelets$NotedList" "times" "[I", .methodLink RX1 30 arraycopyName, .native arraycopyName, .static arraycopyName, .initialized "java/lang/System", .instanceMethod yX2_becomeLike, .initialized RX2, .selects RX2 yX2_becomeLike yX2_becomeLike, .code yX2_becomeLike cX2_becomeLike 2 none, .fieldLink RX2 15 "CharmBracelets$Ring" "size" "I", .fieldLink RX2 9 "CharmBracelets$Ring" "kinds" "[I", .methodLink RX2 19 arraycopyName] ++ wsX10 ++ wsX20)
def wsX5_changeCount : List Cond := .code yX5_changeCount cX5_changeCount 2 (some .int) :: ([])
def wsX5_changeAt : List Cond := .code yX5_changeAt cX5_changeAt 3 (some .int) :: ([])
def wsX2_kindAfter : List Cond := .code yX2_kindAfter cX2_kindAfter 4 (some .int) :: ([.fieldLink RX2 15 "CharmBracelets$Ring" "size" "I", .methodLink RX2 36 yX2_around, .instanceMethod yX2_around, .selects RX2 yX2_around yX2_around, .initialized RX2, .code yX2_around cX2_around 2 (some .int), .methodLink RX2 25 yX2_at, .instanceMethod yX2_at, .selects RX2 yX2_at yX2_at, .code yX2_at cX2_at 2 (some .int), .fieldLink RX2 9 "CharmBracelets$Ring" "kinds" "[I"] ++ wsX20)
def wsX2_differences : List Cond := .code yX2_differences cX2_differences 5 (some .int) :: ([.fieldLink RX2 15 "CharmBracelets$Ring" "size" "I", .methodLink RX2 39 yX2_kindAfter, .instanceMethod yX2_kindAfter, .selects RX2 yX2_kindAfter yX2_kindAfter, .initialized RX2, .code yX2_kindAfter cX2_kindAfter 4 (some .int), .methodLink RX2 36 yX2_around, .instanceMethod yX2_around, .selects RX2 yX2_around yX2_around, .code yX2_around cX2_around 2 (some .int), .methodLink RX2 25 yX2_at, .instanceMethod yX2_at, .selects RX2 yX2_at yX2_at, .code yX2_at cX2_at 2 (some .int), .fieldLink RX2 9 "CharmBracelets$Ring" "kinds" "[I"] ++ wsX20)
def wsX2_leastDifferences_r1 : List Cond := [Cond.fieldLink RX2 15 "CharmBracelets$Ring" "size" "I", Cond.methodLink RX2 54 Lib.Math.min.name, Cond.static Lib.Math.min.name, Cond.initialized "java/lang/Math", Cond.code Lib.Math.min.name Lib.Math.min.code 2 (some .int), Cond.static yX5_changeCount, Cond.initialized RX5, Cond.code yX5_changeCount cX5_changeCount 2 (some .int), Cond.static yX5_changeAt, Cond.code yX5_changeAt cX5_changeAt 3 (some .int), Cond.methodLink RX2 50 yX2_differences, Cond.instanceMethod yX2_differences, Cond.selects RX2 yX2_differences yX2_differences, Cond.initialized RX2, Cond.code yX2_differences cX2_differences 5 (some .int), Cond.methodLink RX2 39 yX2_kindAfter, Cond.instanceMethod yX2_kindAfter, Cond.selects RX2 yX2_kindAfter yX2_kindAfter, Cond.code yX2_kindAfter cX2_kindAfter 4 (some .int), Cond.methodLink RX2 36 yX2_around, Cond.instanceMethod yX2_around, Cond.selects RX2 yX2_around yX2_around, Cond.code yX2_around cX2_around 2 (some .int), Cond.methodLink RX2 25 yX2_at]
def wsX2_leastDifferences_r2 : List Cond := [Cond.instanceMethod yX2_at, Cond.selects RX2 yX2_at yX2_at, Cond.code yX2_at cX2_at 2 (some .int), Cond.fieldLink RX2 9 "CharmBracelets$Ring" "kinds" "[I"]
def wsX2_leastDifferences : List Cond := .code yX2_leastDifferences cX2_leastDifferences 6 (some .int) :: ((wsX2_leastDifferences_r1 ++ wsX2_leastDifferences_r2) ++ wsX20)
def wsX2_isAlike_r1 : List Cond := [Cond.fieldLink RX2 15 "CharmBracelets$Ring" "size" "I", Cond.methodLink RX2 59 yX2_leastDifferences, Cond.instanceMethod yX2_leastDifferences, Cond.selects RX2 yX2_leastDifferences yX2_leastDifferences, Cond.initialized RX2, Cond.code yX2_leastDifferences cX2_leastDifferences 6 (some .int), Cond.methodLink RX2 54 Lib.Math.min.name, Cond.static Lib.Math.min.name, Cond.initialized "java/lang/Math", Cond.code Lib.Math.min.name Lib.Math.min.code 2 (some .int), Cond.static yX5_changeCount, Cond.initialized RX5, Cond.code yX5_changeCount cX5_changeCount 2 (some .int), Cond.static yX5_changeAt, Cond.code yX5_changeAt cX5_changeAt 3 (some .int), Cond.methodLink RX2 50 yX2_differences, Cond.instanceMethod yX2_differences, Cond.selects RX2 yX2_differences yX2_differences, Cond.code yX2_differences cX2_differences 5 (some .int), Cond.methodLink RX2 39 yX2_kindAfter, Cond.instanceMethod yX2_kindAfter, Cond.selects RX2 yX2_kindAfter yX2_kindAfter, Cond.code yX2_kindAfter cX2_kindAfter 4 (some .int), Cond.methodLink RX2 36 yX2_around]
def wsX2_isAlike_r2 : List Cond := [Cond.instanceMethod yX2_around, Cond.selects RX2 yX2_around yX2_around, Cond.code yX2_around cX2_around 2 (some .int), Cond.methodLink RX2 25 yX2_at, Cond.instanceMethod yX2_at, Cond.selects RX2 yX2_at yX2_at, Cond.code yX2_at cX2_at 2 (some .int), Cond.fieldLink RX2 9 "CharmBracelets$Ring" "kinds" "[I"]
def wsX2_isAlike : List Cond := .code yX2_isAlike cX2_isAlike 3 (some .boolean) :: ((wsX2_isAlike_r1 ++ wsX2_isAlike_r2) ++ wsX20)
def wsX1_entryOf_r1 : List Cond := [Cond.fieldLink RX1 22 "CharmBracelets$NotedList" "length" "I", Cond.fieldLink RX1 11 "CharmBracelets$NotedList" "firsts" "[LCharmBracelets$Ring;", Cond.instanceMethod yX2_isAlike, Cond.initialized RX2, Cond.selects RX2 yX2_isAlike yX2_isAlike, Cond.code yX2_isAlike cX2_isAlike 3 (some .boolean), Cond.fieldLink RX2 15 "CharmBracelets$Ring" "size" "I", Cond.methodLink RX2 59 yX2_leastDifferences, Cond.instanceMethod yX2_leastDifferences, Cond.selects RX2 yX2_leastDifferences yX2_leastDifferences, Cond.code yX2_leastDifferences cX2_leastDifferences 6 (some .int), Cond.methodLink RX2 54 Lib.Math.min.name, Cond.static Lib.Math.min.name, Cond.initialized "java/lang/Math", Cond.code Lib.Math.min.name Lib.Math.min.code 2 (some .int), Cond.static yX5_changeCount, Cond.initialized RX5, Cond.code yX5_changeCount cX5_changeCount 2 (some .int), Cond.static yX5_changeAt, Cond.code yX5_changeAt cX5_changeAt 3 (some .int), Cond.methodLink RX2 50 yX2_differences, Cond.instanceMethod yX2_differences, Cond.selects RX2 yX2_differences yX2_differences, Cond.code yX2_differences cX2_differences 5 (some .int)]
def wsX1_entryOf_r2 : List Cond := [Cond.methodLink RX2 39 yX2_kindAfter, Cond.instanceMethod yX2_kindAfter, Cond.selects RX2 yX2_kindAfter yX2_kindAfter, Cond.code yX2_kindAfter cX2_kindAfter 4 (some .int), Cond.methodLink RX2 36 yX2_around, Cond.instanceMethod yX2_around, Cond.selects RX2 yX2_around yX2_around, Cond.code yX2_around cX2_around 2 (some .int), Cond.methodLink RX2 25 yX2_at, Cond.instanceMethod yX2_at, Cond.selects RX2 yX2_at yX2_at, Cond.code yX2_at cX2_at 2 (some .int), Cond.fieldLink RX2 9 "CharmBracelets$Ring" "kinds" "[I"]
def wsX1_entryOf : List Cond := .code yX1_entryOf cX1_entryOf 3 (some .int) :: ((wsX1_entryOf_r1 ++ wsX1_entryOf_r2) ++ wsX10 ++ wsX20)
def wsX1_count : List Cond := .code yX1_count cX1_count 3 none :: ([.fieldLink RX1 11 "CharmBracelets$NotedList" "firsts" "[LCharmBracelets$Ring;", .fieldLink RX1 22 "CharmBracelets$NotedList" "length" "I", .fieldLink RX1 17 "CharmBracelets$NotedList" "times" "[I", .instanceMethod yX2_becomeLike, .initialized RX2, .selects RX2 yX2_becomeLike yX2_becomeLike, .code yX2_becomeLike cX2_becomeLike 2 none, .fieldLink RX2 15 "CharmBracelets$Ring" "size" "I", .fieldLink RX2 9 "CharmBracelets$Ring" "kinds" "[I", .methodLink RX2 19 arraycopyName, .native arraycopyName, .static arraycopyName, .initialized "java/lang/System"] ++ wsX10 ++ wsX20)
def wsX2_becomeEmpty : List Cond := .code yX2_becomeEmpty cX2_becomeEmpty 3 none :: ([.fieldLink RX2 15 "CharmBracelets$Ring" "size" "I", .fieldLink RX2 9 "CharmBracelets$Ring" "kinds" "[I"] ++ wsX20)
def wsX2_hasSlot : List Cond := .code yX2_hasSlot cX2_hasSlot 2 (some .boolean) :: ([.fieldLink RX2 15 "CharmBracelets$Ring" "size" "I"] ++ wsX20)
def wsX2_put : List Cond := .code yX2_put cX2_put 3 none :: ([.fieldLink RX2 9 "CharmBracelets$Ring" "kinds" "[I"] ++ wsX20)
def wsX2_exchange : List Cond := .code yX2_exchange cX2_exchange 4 none :: ([.methodLink RX2 25 yX2_at, .instanceMethod yX2_at, .selects RX2 yX2_at yX2_at, .initialized RX2, .code yX2_at cX2_at 2 (some .int), .fieldLink RX2 9 "CharmBracelets$Ring" "kinds" "[I", .methodLink RX2 29 yX2_put, .instanceMethod yX2_put, .selects RX2 yX2_put yX2_put, .code yX2_put cX2_put 3 none] ++ wsX20)
def wsX2_charmsOf : List Cond := .code yX2_charmsOf cX2_charmsOf 4 (some .int) :: ([.fieldLink RX2 15 "CharmBracelets$Ring" "size" "I", .methodLink RX2 25 yX2_at, .instanceMethod yX2_at, .selects RX2 yX2_at yX2_at, .initialized RX2, .code yX2_at cX2_at 2 (some .int), .fieldLink RX2 9 "CharmBracelets$Ring" "kinds" "[I"] ++ wsX20)
def wsX2_charms : List Cond := .code yX2_charms cX2_charms 1 (some .int) :: ([.fieldLink RX2 15 "CharmBracelets$Ring" "size" "I", .methodLink RX2 33 yX2_charmsOf, .instanceMethod yX2_charmsOf, .selects RX2 yX2_charmsOf yX2_charmsOf, .initialized RX2, .code yX2_charmsOf cX2_charmsOf 4 (some .int), .methodLink RX2 25 yX2_at, .instanceMethod yX2_at, .selects RX2 yX2_at yX2_at, .code yX2_at cX2_at 2 (some .int), .fieldLink RX2 9 "CharmBracelets$Ring" "kinds" "[I"] ++ wsX20)
def wsX2_comesFirst : List Cond := .code yX2_comesFirst cX2_comesFirst 6 (some .boolean) :: ([.fieldLink RX2 15 "CharmBracelets$Ring" "size" "I", .methodLink RX2 39 yX2_kindAfter, .instanceMethod yX2_kindAfter, .selects RX2 yX2_kindAfter yX2_kindAfter, .initialized RX2, .code yX2_kindAfter cX2_kindAfter 4 (some .int), .methodLink RX2 36 yX2_around, .instanceMethod yX2_around, .selects RX2 yX2_around yX2_around, .code yX2_around cX2_around 2 (some .int), .methodLink RX2 25 yX2_at, .instanceMethod yX2_at, .selects RX2 yX2_at yX2_at, .code yX2_at cX2_at 2 (some .int), .fieldLink RX2 9 "CharmBracelets$Ring" "kinds" "[I"] ++ wsX20)
def wsX2_leastChange : List Cond := .code yX2_leastChange cX2_leastChange 6 (some .int) :: ([.fieldLink RX2 15 "CharmBracelets$Ring" "size" "I", .static yX5_changeCount, .initialized RX5, .code yX5_changeCount cX5_changeCount 2 (some .int), .static yX5_changeAt, .code yX5_changeAt cX5_changeAt 3 (some .int), .methodLink RX2 63 yX2_comesFirst, .instanceMethod yX2_comesFirst, .selects RX2 yX2_comesFirst yX2_comesFirst, .initialized RX2, .code yX2_comesFirst cX2_comesFirst 6 (some .boolean), .methodLink RX2 39 yX2_kindAfter, .instanceMethod yX2_kindAfter, .selects RX2 yX2_kindAfter yX2_kindAfter, .code yX2_kindAfter cX2_kindAfter 4 (some .int), .methodLink RX2 36 yX2_around, .instanceMethod yX2_around, .selects RX2 yX2_around yX2_around, .code yX2_around cX2_around 2 (some .int), .methodLink RX2 25 yX2_at, .instanceMethod yX2_at, .selects RX2 yX2_at yX2_at, .code yX2_at cX2_at 2 (some .int), .fieldLink RX2 9 "CharmBracelets$Ring" "kinds" "[I"] ++ wsX20)
def wsX2_differentRings : List Cond := .code yX2_differentRings cX2_differentRings 5 (some .int) :: ([.fieldLink RX2 15 "CharmBracelets$Ring" "size" "I", .static yX5_changeCount, .initialized RX5, .code yX5_changeCount cX5_changeCount 2 (some .int), .static yX5_changeAt, .code yX5_changeAt cX5_changeAt 3 (some .int), .methodLink RX2 50 yX2_differences, .instanceMethod yX2_differences, .selects RX2 yX2_differences yX2_differences, .initialized RX2, .code yX2_differences cX2_differences 5 (some .int), .methodLink RX2 39 yX2_kindAfter, .instanceMethod yX2_kindAfter, .selects RX2 yX2_kindAfter yX2_kindAfter, .code yX2_kindAfter cX2_kindAfter 4 (some .int), .methodLink RX2 36 yX2_around, .instanceMethod yX2_around, .selects RX2 yX2_around yX2_around, .code yX2_around cX2_around 2 (some .int), .methodLink RX2 25 yX2_at, .instanceMethod yX2_at, .selects RX2 yX2_at yX2_at, .code yX2_at cX2_at 2 (some .int), .fieldLink RX2 9 "CharmBracelets$Ring" "kinds" "[I"] ++ wsX20)
def wsX2_slotsTurnedInto : List Cond := .code yX2_slotsTurnedInto cX2_slotsTurnedInto 6 (some .int) :: ([.fieldLink RX2 15 "CharmBracelets$Ring" "size" "I", .static yX5_changeAt, .initialized RX5, .code yX5_changeAt cX5_changeAt 3 (some .int), .methodLink RX2 36 yX2_around, .instanceMethod yX2_around, .selects RX2 yX2_around yX2_around, .initialized RX2, .code yX2_around cX2_around 2 (some .int)] ++ wsX20)
def wsX3_init_r1 : List Cond := [Cond.methodLink RX3 3 objectInit, Cond.instanceMethod objectInit, Cond.code objectInit ⟨#[0xb1]⟩ 1 none, Cond.arrayClass .int, Cond.fieldLink RX3 9 "CharmBracelets$State" "box" "[I", Cond.fieldLink RX3 15 "CharmBracelets$State" "weights" "[I", Cond.classLink RX3 18 RX2, Cond.fieldLink RX3 20 "CharmBracelets$State" "rings" "[LCharmBracelets$Ring;", Cond.classLink RX3 24 RX0, Cond.instantiable RX0 2, Cond.initialized RX0, Cond.fieldLink RX3 27 "CharmBracelets$State" "motif" "LCharmBracelets$Motif;", Cond.classLink RX3 31 RX1, Cond.instantiable RX1 3, Cond.initialized RX1, Cond.fieldLink RX3 34 "CharmBracelets$State" "list" "LCharmBracelets$NotedList;", Cond.instantiable RX2 2, Cond.initialized RX2, Cond.instanceMethod yX0_init, Cond.code yX0_init cX0_init 1 none, Cond.methodLink RX0 3 objectInit, Cond.fieldLink RX0 9 "CharmBracelets$Motif" "signs" "[I", Cond.instanceMethod yX1_init, Cond.code yX1_init cX1_init 2 none]
def wsX3_init_r2 : List Cond := [Cond.methodLink RX1 3 objectInit, Cond.classLink RX1 9 RX2, Cond.fieldLink RX1 11 "CharmBracelets$NotedList" "firsts" "[LCharmBracelets$Ring;", Cond.fieldLink RX1 17 "CharmBracelets$NotedList" "times" "[I", Cond.instanceMethod yX2_init, Cond.code yX2_init cX2_init 1 none, Cond.methodLink RX2 3 objectInit, Cond.fieldLink RX2 9 "CharmBracelets$Ring" "kinds" "[I"]
def wsX3_init : List Cond := .code yX3_init cX3_init 2 none :: ((wsX3_init_r1 ++ wsX3_init_r2) ++ wsX30 ++ wsX00 ++ wsX10 ++ wsX20)
def wsX3_becomeLike_r1 : List Cond := [Cond.fieldLink RX3 9 "CharmBracelets$State" "box" "[I", Cond.methodLink RX3 39 arraycopyName, Cond.native arraycopyName, Cond.static arraycopyName, Cond.initialized "java/lang/System", Cond.fieldLink RX3 15 "CharmBracelets$State" "weights" "[I", Cond.fieldLink RX3 20 "CharmBracelets$State" "rings" "[LCharmBracelets$Ring;", Cond.fieldLink RX3 27 "CharmBracelets$State" "motif" "LCharmBracelets$Motif;", Cond.fieldLink RX3 34 "CharmBracelets$State" "list" "LCharmBracelets$NotedList;", Cond.instanceMethod yX2_becomeLike, Cond.initialized RX2, Cond.selects RX2 yX2_becomeLike yX2_becomeLike, Cond.code yX2_becomeLike cX2_becomeLike 2 none, Cond.fieldLink RX2 15 "CharmBracelets$Ring" "size" "I", Cond.fieldLink RX2 9 "CharmBracelets$Ring" "kinds" "[I", Cond.methodLink RX2 19 arraycopyName, Cond.instanceMethod yX0_becomeLike, Cond.initialized RX0, Cond.selects RX0 yX0_becomeLike yX0_becomeLike, Cond.code yX0_becomeLike cX0_becomeLike 2 none, Cond.fieldLink RX0 15 "CharmBracelets$Motif" "length" "I", Cond.fieldLink RX0 9 "CharmBracelets$Motif" "signs" "[I", Cond.methodLink RX0 19 arraycopyName, Cond.instanceMethod yX1_becomeLike]
def wsX3_becomeLike_r2 : List Cond := [Cond.initialized RX1, Cond.selects RX1 yX1_becomeLike yX1_becomeLike, Cond.code yX1_becomeLike cX1_becomeLike 3 none, Cond.fieldLink RX1 22 "CharmBracelets$NotedList" "length" "I", Cond.fieldLink RX1 11 "CharmBracelets$NotedList" "firsts" "[LCharmBracelets$Ring;", Cond.fieldLink RX1 17 "CharmBracelets$NotedList" "times" "[I", Cond.methodLink RX1 30 arraycopyName]
def wsX3_becomeLike : List Cond := .code yX3_becomeLike cX3_becomeLike 3 none :: ((wsX3_becomeLike_r1 ++ wsX3_becomeLike_r2) ++ wsX30 ++ wsX20 ++ wsX00 ++ wsX10)
def wsX3_find : List Cond := .code yX3_find cX3_find 2 (some (.object "CharmBracelets$Ring")) :: ([.fieldLink RX3 20 "CharmBracelets$State" "rings" "[LCharmBracelets$Ring;"] ++ wsX30 ++ wsX20)
def wsX3_freeNumber : List Cond := .code yX3_freeNumber cX3_freeNumber 2 (some .int) :: ([.fieldLink RX3 20 "CharmBracelets$State" "rings" "[LCharmBracelets$Ring;"] ++ wsX30 ++ wsX20)
def wsX3_ringSet : List Cond := .code yX3_ringSet cX3_ringSet 3 (some .int) :: ([.fieldLink RX3 20 "CharmBracelets$State" "rings" "[LCharmBracelets$Ring;"] ++ wsX30 ++ wsX20)
def wsX3_ringsAlike_r1 : List Cond := [Cond.fieldLink RX3 20 "CharmBracelets$State" "rings" "[LCharmBracelets$Ring;", Cond.instanceMethod yX2_isAlike, Cond.initialized RX2, Cond.selects RX2 yX2_isAlike yX2_isAlike, Cond.code yX2_isAlike cX2_isAlike 3 (some .boolean), Cond.fieldLink RX2 15 "CharmBracelets$Ring" "size" "I", Cond.methodLink RX2 59 yX2_leastDifferences, Cond.instanceMethod yX2_leastDifferences, Cond.selects RX2 yX2_leastDifferences yX2_leastDifferences, Cond.code yX2_leastDifferences cX2_leastDifferences 6 (some .int), Cond.methodLink RX2 54 Lib.Math.min.name, Cond.static Lib.Math.min.name, Cond.initialized "java/lang/Math", Cond.code Lib.Math.min.name Lib.Math.min.code 2 (some .int), Cond.static yX5_changeCount, Cond.initialized RX5, Cond.code yX5_changeCount cX5_changeCount 2 (some .int), Cond.static yX5_changeAt, Cond.code yX5_changeAt cX5_changeAt 3 (some .int), Cond.methodLink RX2 50 yX2_differences, Cond.instanceMethod yX2_differences, Cond.selects RX2 yX2_differences yX2_differences, Cond.code yX2_differences cX2_differences 5 (some .int), Cond.methodLink RX2 39 yX2_kindAfter]
def wsX3_ringsAlike_r2 : List Cond := [Cond.instanceMethod yX2_kindAfter, Cond.selects RX2 yX2_kindAfter yX2_kindAfter, Cond.code yX2_kindAfter cX2_kindAfter 4 (some .int), Cond.methodLink RX2 36 yX2_around, Cond.instanceMethod yX2_around, Cond.selects RX2 yX2_around yX2_around, Cond.code yX2_around cX2_around 2 (some .int), Cond.methodLink RX2 25 yX2_at, Cond.instanceMethod yX2_at, Cond.selects RX2 yX2_at yX2_at, Cond.code yX2_at cX2_at 2 (some .int), Cond.fieldLink RX2 9 "CharmBracelets$Ring" "kinds" "[I"]
def wsX3_ringsAlike : List Cond := .code yX3_ringsAlike cX3_ringsAlike 5 (some .int) :: ((wsX3_ringsAlike_r1 ++ wsX3_ringsAlike_r2) ++ wsX30 ++ wsX20)
def wsX3_charmsHung : List Cond := .code yX3_charmsHung cX3_charmsHung 4 (some .int) :: ([.fieldLink RX3 20 "CharmBracelets$State" "rings" "[LCharmBracelets$Ring;", .instanceMethod yX2_charmsOf, .initialized RX2, .selects RX2 yX2_charmsOf yX2_charmsOf, .code yX2_charmsOf cX2_charmsOf 4 (some .int), .fieldLink RX2 15 "CharmBracelets$Ring" "size" "I", .methodLink RX2 25 yX2_at, .instanceMethod yX2_at, .selects RX2 yX2_at yX2_at, .code yX2_at cX2_at 2 (some .int), .fieldLink RX2 9 "CharmBracelets$Ring" "kinds" "[I"] ++ wsX30 ++ wsX20)
def wsX3_boxHasCharmsFor : List Cond := .code yX3_boxHasCharmsFor cX3_boxHasCharmsFor 3 (some .boolean) :: ([.fieldLink RX3 9 "CharmBracelets$State" "box" "[I", .instanceMethod yX2_charmsOf, .initialized RX2, .selects RX2 yX2_charmsOf yX2_charmsOf, .code yX2_charmsOf cX2_charmsOf 4 (some .int), .fieldLink RX2 15 "CharmBracelets$Ring" "size" "I", .methodLink RX2 25 yX2_at, .instanceMethod yX2_at, .selects RX2 yX2_at yX2_at, .code yX2_at cX2_at 2 (some .int), .fieldLink RX2 9 "CharmBracelets$Ring" "kinds" "[I"] ++ wsX30 ++ wsX20)
def wsX3_boxHasRoomFor : List Cond := .code yX3_boxHasRoomFor cX3_boxHasRoomFor 3 (some .boolean) :: ([.fieldLink RX3 9 "CharmBracelets$State" "box" "[I", .instanceMethod yX2_charmsOf, .initialized RX2, .selects RX2 yX2_charmsOf yX2_charmsOf, .code yX2_charmsOf cX2_charmsOf 4 (some .int), .fieldLink RX2 15 "CharmBracelets$Ring" "size" "I", .methodLink RX2 25 yX2_at, .instanceMethod yX2_at, .selects RX2 yX2_at yX2_at, .code yX2_at cX2_at 2 (some .int), .fieldLink RX2 9 "CharmBracelets$Ring" "kinds" "[I"] ++ wsX30 ++ wsX20)
def wsX3_takeOut : List Cond := .code yX3_takeOut cX3_takeOut 3 none :: ([.fieldLink RX3 9 "CharmBracelets$State" "box" "[I", .instanceMethod yX2_charmsOf, .initialized RX2, .selects RX2 yX2_charmsOf yX2_charmsOf, .code yX2_charmsOf cX2_charmsOf 4 (some .int), .fieldLink RX2 15 "CharmBracelets$Ring" "size" "I", .methodLink RX2 25 yX2_at, .instanceMethod yX2_at, .selects RX2 yX2_at yX2_at, .code yX2_at cX2_at 2 (some .int), .fieldLink RX2 9 "CharmBracelets$Ring" "kinds" "[I"] ++ wsX30 ++ wsX20)
def wsX3_putBack : List Cond := .code yX3_putBack cX3_putBack 3 none :: ([.fieldLink RX3 9 "CharmBracelets$State" "box" "[I", .instanceMethod yX2_charmsOf, .initialized RX2, .selects RX2 yX2_charmsOf yX2_charmsOf, .code yX2_charmsOf cX2_charmsOf 4 (some .int), .fieldLink RX2 15 "CharmBracelets$Ring" "size" "I", .methodLink RX2 25 yX2_at, .instanceMethod yX2_at, .selects RX2 yX2_at yX2_at, .code yX2_at cX2_at 2 (some .int), .fieldLink RX2 9 "CharmBracelets$Ring" "kinds" "[I", .instanceMethod yX2_becomeEmpty, .selects RX2 yX2_becomeEmpty yX2_becomeEmpty, .code yX2_becomeEmpty cX2_becomeEmpty 3 none] ++ wsX30 ++ wsX20)
def wsX5_isCharm : List Cond := .code yX5_isCharm cX5_isCharm 1 (some .boolean) :: ([])
def wsX3_weight : List Cond := .code yX3_weight cX3_weight 7 (some .int) :: ([.fieldLink RX3 15 "CharmBracelets$State" "weights" "[I", .instanceMethod yX2_at, .initialized RX2, .selects RX2 yX2_at yX2_at, .code yX2_at cX2_at 2 (some .int), .fieldLink RX2 9 "CharmBracelets$Ring" "kinds" "[I", .static yX5_isCharm, .initialized RX5, .code yX5_isCharm cX5_isCharm 1 (some .boolean)] ++ wsX30 ++ wsX20)
def wsX3_quarterWeight : List Cond := .code yX3_quarterWeight cX3_quarterWeight 3 (some .int) :: ([.methodLink RX3 78 yX3_weight, .instanceMethod yX3_weight, .selects RX3 yX3_weight yX3_weight, .initialized RX3, .code yX3_weight cX3_weight 7 (some .int), .fieldLink RX3 15 "CharmBracelets$State" "weights" "[I", .instanceMethod yX2_at, .initialized RX2, .selects RX2 yX2_at yX2_at, .code yX2_at cX2_at 2 (some .int), .fieldLink RX2 9 "CharmBracelets$Ring" "kinds" "[I", .static yX5_isCharm, .initialized RX5, .code yX5_isCharm cX5_isCharm 1 (some .boolean)] ++ wsX20 ++ wsX30)
def wsX3_lean : List Cond := .code yX3_lean cX3_lean 2 (some .int) :: ([.methodLink RX3 86 Lib.Math.abs.name, .static Lib.Math.abs.name, .initialized "java/lang/Math", .code Lib.Math.abs.name Lib.Math.abs.code 1 (some .int), .methodLink RX3 82 yX3_quarterWeight, .instanceMethod yX3_quarterWeight, .selects RX3 yX3_quarterWeight yX3_quarterWeight, .initialized RX3, .code yX3_quarterWeight cX3_quarterWeight 3 (some .int), .methodLink RX3 78 yX3_weight, .instanceMethod yX3_weight, .selects RX3 yX3_weight yX3_weight, .code yX3_weight cX3_weight 7 (some .int), .fieldLink RX3 15 "CharmBracelets$State" "weights" "[I", .instanceMethod yX2_at, .initialized RX2, .selects RX2 yX2_at yX2_at, .code yX2_at cX2_at 2 (some .int), .fieldLink RX2 9 "CharmBracelets$Ring" "kinds" "[I", .static yX5_isCharm, .initialized RX5, .code yX5_isCharm cX5_isCharm 1 (some .boolean)] ++ wsX20 ++ wsX30)
def wsX4_init : List Cond := .code yX4_init cX4_init 1 none :: ([.methodLink RX4 3 objectInit, .instanceMethod objectInit, .code objectInit ⟨#[0xb1]⟩ 1 none, .arrayClass .int, .fieldLink RX4 9 "CharmBracelets$Text" "codes" "[I"] ++ wsX40)
def wsX5_init_r1 : List Cond := [Cond.methodLink RX5 1 objectInit, Cond.instanceMethod objectInit, Cond.code objectInit ⟨#[0xb1]⟩ 1 none, Cond.classLink RX5 7 RX3, Cond.instantiable RX3 5, Cond.initialized RX3, Cond.fieldLink RX5 10 "CharmBracelets" "now" "LCharmBracelets$State;", Cond.fieldLink RX5 16 "CharmBracelets" "saved" "LCharmBracelets$State;", Cond.fieldLink RX5 19 "CharmBracelets" "recorded" "[LCharmBracelets$State;", Cond.classLink RX5 23 RX4, Cond.instantiable RX4 4, Cond.initialized RX4, Cond.fieldLink RX5 26 "CharmBracelets" "buffer" "LCharmBracelets$Text;", Cond.classLink RX5 30 RX2, Cond.instantiable RX2 2, Cond.initialized RX2, Cond.fieldLink RX5 33 "CharmBracelets" "trial" "LCharmBracelets$Ring;", Cond.instanceMethod yX3_init, Cond.code yX3_init cX3_init 2 none, Cond.methodLink RX3 3 objectInit, Cond.arrayClass .int, Cond.fieldLink RX3 9 "CharmBracelets$State" "box" "[I", Cond.fieldLink RX3 15 "CharmBracelets$State" "weights" "[I", Cond.classLink RX3 18 RX2]
def wsX5_init_r2 : List Cond := [Cond.fieldLink RX3 20 "CharmBracelets$State" "rings" "[LCharmBracelets$Ring;", Cond.classLink RX3 24 RX0, Cond.instantiable RX0 2, Cond.initialized RX0, Cond.fieldLink RX3 27 "CharmBracelets$State" "motif" "LCharmBracelets$Motif;", Cond.classLink RX3 31 RX1, Cond.instantiable RX1 3, Cond.initialized RX1, Cond.fieldLink RX3 34 "CharmBracelets$State" "list" "LCharmBracelets$NotedList;", Cond.instanceMethod yX0_init, Cond.code yX0_init cX0_init 1 none, Cond.methodLink RX0 3 objectInit, Cond.fieldLink RX0 9 "CharmBracelets$Motif" "signs" "[I", Cond.instanceMethod yX1_init, Cond.code yX1_init cX1_init 2 none, Cond.methodLink RX1 3 objectInit, Cond.classLink RX1 9 RX2, Cond.fieldLink RX1 11 "CharmBracelets$NotedList" "firsts" "[LCharmBracelets$Ring;", Cond.fieldLink RX1 17 "CharmBracelets$NotedList" "times" "[I", Cond.instanceMethod yX2_init, Cond.code yX2_init cX2_init 1 none, Cond.methodLink RX2 3 objectInit, Cond.fieldLink RX2 9 "CharmBracelets$Ring" "kinds" "[I", Cond.instanceMethod yX4_init]
def wsX5_init_r3 : List Cond := [Cond.code yX4_init cX4_init 1 none, Cond.methodLink RX4 3 objectInit, Cond.fieldLink RX4 9 "CharmBracelets$Text" "codes" "[I"]
def wsX5_init : List Cond := .code yX5_init cX5_init 2 none :: ((wsX5_init_r1 ++ (wsX5_init_r2 ++ wsX5_init_r3)) ++ wsX30 ++ wsX50 ++ wsX40 ++ wsX20 ++ wsX00 ++ wsX10)
def wsX5_discardOldest : List Cond := .code yX5_discardOldest cX5_discardOldest 3 none :: ([.fieldLink RX5 19 "CharmBracelets" "recorded" "[LCharmBracelets$State;", .fieldLink RX5 231 "CharmBracelets" "recordedStates" "I"] ++ wsX50)
def wsX5_record_r1 : List Cond := [Cond.fieldLink RX5 231 "CharmBracelets" "recordedStates" "I", Cond.fieldLink RX5 19 "CharmBracelets" "recorded" "[LCharmBracelets$State;", Cond.fieldLink RX5 10 "CharmBracelets" "now" "LCharmBracelets$State;", Cond.methodLink RX5 241 yX5_discardOldest, Cond.instanceMethod yX5_discardOldest, Cond.selects RX5 yX5_discardOldest yX5_discardOldest, Cond.initialized RX5, Cond.code yX5_discardOldest cX5_discardOldest 3 none, Cond.instanceMethod yX3_becomeLike, Cond.initialized RX3, Cond.selects RX3 yX3_becomeLike yX3_becomeLike, Cond.code yX3_becomeLike cX3_becomeLike 3 none, Cond.fieldLink RX3 9 "CharmBracelets$State" "box" "[I", Cond.methodLink RX3 39 arraycopyName, Cond.native arraycopyName, Cond.static arraycopyName, Cond.initialized "java/lang/System", Cond.fieldLink RX3 15 "CharmBracelets$State" "weights" "[I", Cond.fieldLink RX3 20 "CharmBracelets$State" "rings" "[LCharmBracelets$Ring;", Cond.fieldLink RX3 27 "CharmBracelets$State" "motif" "LCharmBracelets$Motif;", Cond.fieldLink RX3 34 "CharmBracelets$State" "list" "LCharmBracelets$NotedList;", Cond.instanceMethod yX2_becomeLike, Cond.initialized RX2, Cond.selects RX2 yX2_becomeLike yX2_becomeLike]
def wsX5_record_r2 : List Cond := [Cond.code yX2_becomeLike cX2_becomeLike 2 none, Cond.fieldLink RX2 15 "CharmBracelets$Ring" "size" "I", Cond.fieldLink RX2 9 "CharmBracelets$Ring" "kinds" "[I", Cond.methodLink RX2 19 arraycopyName, Cond.instanceMethod yX0_becomeLike, Cond.initialized RX0, Cond.selects RX0 yX0_becomeLike yX0_becomeLike, Cond.code yX0_becomeLike cX0_becomeLike 2 none, Cond.fieldLink RX0 15 "CharmBracelets$Motif" "length" "I", Cond.fieldLink RX0 9 "CharmBracelets$Motif" "signs" "[I", Cond.methodLink RX0 19 arraycopyName, Cond.instanceMethod yX1_becomeLike, Cond.initialized RX1, Cond.selects RX1 yX1_becomeLike yX1_becomeLike, Cond.code yX1_becomeLike cX1_becomeLike 3 none, Cond.fieldLink RX1 22 "CharmBracelets$NotedList" "length" "I", Cond.fieldLink RX1 11 "CharmBracelets$NotedList" "firsts" "[LCharmBracelets$Ring;", Cond.fieldLink RX1 17 "CharmBracelets$NotedList" "times" "[I", Cond.methodLink RX1 30 arraycopyName]
def wsX5_record : List Cond := .code yX5_record cX5_record 1 none :: ((wsX5_record_r1 ++ wsX5_record_r2) ++ wsX50 ++ wsX30 ++ wsX20 ++ wsX00 ++ wsX10)
def wsX5_fill_r1 : List Cond := [Cond.fieldLink RX5 10 "CharmBracelets" "now" "LCharmBracelets$State;", Cond.methodLink RX5 37 yX5_isCharm, Cond.static yX5_isCharm, Cond.initialized RX5, Cond.code yX5_isCharm cX5_isCharm 1 (some .boolean), Cond.methodLink RX5 41 yX5_record, Cond.instanceMethod yX5_record, Cond.selects RX5 yX5_record yX5_record, Cond.code yX5_record cX5_record 1 none, Cond.fieldLink RX5 231 "CharmBracelets" "recordedStates" "I", Cond.fieldLink RX5 19 "CharmBracelets" "recorded" "[LCharmBracelets$State;", Cond.methodLink RX5 241 yX5_discardOldest, Cond.instanceMethod yX5_discardOldest, Cond.selects RX5 yX5_discardOldest yX5_discardOldest, Cond.code yX5_discardOldest cX5_discardOldest 3 none, Cond.instanceMethod yX3_becomeLike, Cond.initialized RX3, Cond.selects RX3 yX3_becomeLike yX3_becomeLike, Cond.code yX3_becomeLike cX3_becomeLike 3 none, Cond.fieldLink RX3 9 "CharmBracelets$State" "box" "[I", Cond.methodLink RX3 39 arraycopyName, Cond.native arraycopyName, Cond.static arraycopyName, Cond.initialized "java/lang/System"]
def wsX5_fill_r2 : List Cond := [Cond.fieldLink RX3 15 "CharmBracelets$State" "weights" "[I", Cond.fieldLink RX3 20 "CharmBracelets$State" "rings" "[LCharmBracelets$Ring;", Cond.fieldLink RX3 27 "CharmBracelets$State" "motif" "LCharmBracelets$Motif;", Cond.fieldLink RX3 34 "CharmBracelets$State" "list" "LCharmBracelets$NotedList;", Cond.instanceMethod yX2_becomeLike, Cond.initialized RX2, Cond.selects RX2 yX2_becomeLike yX2_becomeLike, Cond.code yX2_becomeLike cX2_becomeLike 2 none, Cond.fieldLink RX2 15 "CharmBracelets$Ring" "size" "I", Cond.fieldLink RX2 9 "CharmBracelets$Ring" "kinds" "[I", Cond.methodLink RX2 19 arraycopyName, Cond.instanceMethod yX0_becomeLike, Cond.initialized RX0, Cond.selects RX0 yX0_becomeLike yX0_becomeLike, Cond.code yX0_becomeLike cX0_becomeLike 2 none, Cond.fieldLink RX0 15 "CharmBracelets$Motif" "length" "I", Cond.fieldLink RX0 9 "CharmBracelets$Motif" "signs" "[I", Cond.methodLink RX0 19 arraycopyName, Cond.instanceMethod yX1_becomeLike, Cond.initialized RX1, Cond.selects RX1 yX1_becomeLike yX1_becomeLike, Cond.code yX1_becomeLike cX1_becomeLike 3 none, Cond.fieldLink RX1 22 "CharmBracelets$NotedList" "length" "I", Cond.fieldLink RX1 11 "CharmBracelets$NotedList" "firsts" "[LCharmBracelets$Ring;"]
def wsX5_fill_r3 : List Cond := [Cond.fieldLink RX1 17 "CharmBracelets$NotedList" "times" "[I", Cond.methodLink RX1 30 arraycopyName]
def wsX5_fill : List Cond := .code yX5_fill cX5_fill 4 (some .int) :: ((wsX5_fill_r1 ++ (wsX5_fill_r2 ++ wsX5_fill_r3)) ++ wsX50 ++ wsX30 ++ wsX20 ++ wsX00 ++ wsX10)
def wsX5_weigh_r1 : List Cond := [Cond.fieldLink RX5 10 "CharmBracelets" "now" "LCharmBracelets$State;", Cond.methodLink RX5 37 yX5_isCharm, Cond.static yX5_isCharm, Cond.initialized RX5, Cond.code yX5_isCharm cX5_isCharm 1 (some .boolean), Cond.methodLink RX5 41 yX5_record, Cond.instanceMethod yX5_record, Cond.selects RX5 yX5_record yX5_record, Cond.code yX5_record cX5_record 1 none, Cond.fieldLink RX5 231 "CharmBracelets" "recordedStates" "I", Cond.fieldLink RX5 19 "CharmBracelets" "recorded" "[LCharmBracelets$State;", Cond.methodLink RX5 241 yX5_discardOldest, Cond.instanceMethod yX5_discardOldest, Cond.selects RX5 yX5_discardOldest yX5_discardOldest, Cond.code yX5_discardOldest cX5_discardOldest 3 none, Cond.instanceMethod yX3_becomeLike, Cond.initialized RX3, Cond.selects RX3 yX3_becomeLike yX3_becomeLike, Cond.code yX3_becomeLike cX3_becomeLike 3 none, Cond.fieldLink RX3 9 "CharmBracelets$State" "box" "[I", Cond.methodLink RX3 39 arraycopyName, Cond.native arraycopyName, Cond.static arraycopyName, Cond.initialized "java/lang/System"]
def wsX5_weigh_r2 : List Cond := [Cond.fieldLink RX3 15 "CharmBracelets$State" "weights" "[I", Cond.fieldLink RX3 20 "CharmBracelets$State" "rings" "[LCharmBracelets$Ring;", Cond.fieldLink RX3 27 "CharmBracelets$State" "motif" "LCharmBracelets$Motif;", Cond.fieldLink RX3 34 "CharmBracelets$State" "list" "LCharmBracelets$NotedList;", Cond.instanceMethod yX2_becomeLike, Cond.initialized RX2, Cond.selects RX2 yX2_becomeLike yX2_becomeLike, Cond.code yX2_becomeLike cX2_becomeLike 2 none, Cond.fieldLink RX2 15 "CharmBracelets$Ring" "size" "I", Cond.fieldLink RX2 9 "CharmBracelets$Ring" "kinds" "[I", Cond.methodLink RX2 19 arraycopyName, Cond.instanceMethod yX0_becomeLike, Cond.initialized RX0, Cond.selects RX0 yX0_becomeLike yX0_becomeLike, Cond.code yX0_becomeLike cX0_becomeLike 2 none, Cond.fieldLink RX0 15 "CharmBracelets$Motif" "length" "I", Cond.fieldLink RX0 9 "CharmBracelets$Motif" "signs" "[I", Cond.methodLink RX0 19 arraycopyName, Cond.instanceMethod yX1_becomeLike, Cond.initialized RX1, Cond.selects RX1 yX1_becomeLike yX1_becomeLike, Cond.code yX1_becomeLike cX1_becomeLike 3 none, Cond.fieldLink RX1 22 "CharmBracelets$NotedList" "length" "I", Cond.fieldLink RX1 11 "CharmBracelets$NotedList" "firsts" "[LCharmBracelets$Ring;"]
def wsX5_weigh_r3 : List Cond := [Cond.fieldLink RX1 17 "CharmBracelets$NotedList" "times" "[I", Cond.methodLink RX1 30 arraycopyName]
def wsX5_weigh : List Cond := .code yX5_weigh cX5_weigh 4 (some .int) :: ((wsX5_weigh_r1 ++ (wsX5_weigh_r2 ++ wsX5_weigh_r3)) ++ wsX50 ++ wsX30 ++ wsX20 ++ wsX00 ++ wsX10)
def wsX5_kind : List Cond := .code yX5_kind cX5_kind 3 (some .int) :: ([.fieldLink RX5 10 "CharmBracelets" "now" "LCharmBracelets$State;", .methodLink RX5 37 yX5_isCharm, .static yX5_isCharm, .initialized RX5, .code yX5_isCharm cX5_isCharm 1 (some .boolean), .instanceMethod yX3_charmsHung, .initialized RX3, .selects RX3 yX3_charmsHung yX3_charmsHung, .code yX3_charmsHung cX3_charmsHung 4 (some .int), .fieldLink RX3 20 "CharmBracelets$State" "rings" "[LCharmBracelets$Ring;", .instanceMethod yX2_charmsOf, .initialized RX2, .selects RX2 yX2_charmsOf yX2_charmsOf, .code yX2_charmsOf cX2_charmsOf 4 (some .int), .fieldLink RX2 15 "CharmBracelets$Ring" "size" "I", .methodLink RX2 25 yX2_at, .instanceMethod yX2_at, .selects RX2 yX2_at yX2_at, .code yX2_at cX2_at 2 (some .int), .fieldLink RX2 9 "CharmBracelets$Ring" "kinds" "[I"] ++ wsX50 ++ wsX30 ++ wsX20)
def wsX5_isSize : List Cond := .code yX5_isSize cX5_isSize 1 (some .boolean) :: ([])
def wsX5_addFromBox_r1 : List Cond := [Cond.fieldLink RX5 10 "CharmBracelets" "now" "LCharmBracelets$State;", Cond.instanceMethod yX3_boxHasCharmsFor, Cond.initialized RX3, Cond.selects RX3 yX3_boxHasCharmsFor yX3_boxHasCharmsFor, Cond.code yX3_boxHasCharmsFor cX3_boxHasCharmsFor 3 (some .boolean), Cond.fieldLink RX3 9 "CharmBracelets$State" "box" "[I", Cond.instanceMethod yX2_charmsOf, Cond.initialized RX2, Cond.selects RX2 yX2_charmsOf yX2_charmsOf, Cond.code yX2_charmsOf cX2_charmsOf 4 (some .int), Cond.fieldLink RX2 15 "CharmBracelets$Ring" "size" "I", Cond.methodLink RX2 25 yX2_at, Cond.instanceMethod yX2_at, Cond.selects RX2 yX2_at yX2_at, Cond.code yX2_at cX2_at 2 (some .int), Cond.fieldLink RX2 9 "CharmBracelets$Ring" "kinds" "[I", Cond.instanceMethod yX3_freeNumber, Cond.selects RX3 yX3_freeNumber yX3_freeNumber, Cond.code yX3_freeNumber cX3_freeNumber 2 (some .int), Cond.fieldLink RX3 20 "CharmBracelets$State" "rings" "[LCharmBracelets$Ring;", Cond.methodLink RX5 41 yX5_record, Cond.instanceMethod yX5_record, Cond.selects RX5 yX5_record yX5_record, Cond.initialized RX5]
def wsX5_addFromBox_r2 : List Cond := [Cond.code yX5_record cX5_record 1 none, Cond.fieldLink RX5 231 "CharmBracelets" "recordedStates" "I", Cond.fieldLink RX5 19 "CharmBracelets" "recorded" "[LCharmBracelets$State;", Cond.methodLink RX5 241 yX5_discardOldest, Cond.instanceMethod yX5_discardOldest, Cond.selects RX5 yX5_discardOldest yX5_discardOldest, Cond.code yX5_discardOldest cX5_discardOldest 3 none, Cond.instanceMethod yX3_becomeLike, Cond.selects RX3 yX3_becomeLike yX3_becomeLike, Cond.code yX3_becomeLike cX3_becomeLike 3 none, Cond.methodLink RX3 39 arraycopyName, Cond.native arraycopyName, Cond.static arraycopyName, Cond.initialized "java/lang/System", Cond.fieldLink RX3 15 "CharmBracelets$State" "weights" "[I", Cond.fieldLink RX3 27 "CharmBracelets$State" "motif" "LCharmBracelets$Motif;", Cond.fieldLink RX3 34 "CharmBracelets$State" "list" "LCharmBracelets$NotedList;", Cond.instanceMethod yX2_becomeLike, Cond.selects RX2 yX2_becomeLike yX2_becomeLike, Cond.code yX2_becomeLike cX2_becomeLike 2 none, Cond.methodLink RX2 19 arraycopyName, Cond.instanceMethod yX0_becomeLike, Cond.initialized RX0, Cond.selects RX0 yX0_becomeLike yX0_becomeLike]
def wsX5_addFromBox_r3 : List Cond := [Cond.code yX0_becomeLike cX0_becomeLike 2 none, Cond.fieldLink RX0 15 "CharmBracelets$Motif" "length" "I", Cond.fieldLink RX0 9 "CharmBracelets$Motif" "signs" "[I", Cond.methodLink RX0 19 arraycopyName, Cond.instanceMethod yX1_becomeLike, Cond.initialized RX1, Cond.selects RX1 yX1_becomeLike yX1_becomeLike, Cond.code yX1_becomeLike cX1_becomeLike 3 none, Cond.fieldLink RX1 22 "CharmBracelets$NotedList" "length" "I", Cond.fieldLink RX1 11 "CharmBracelets$NotedList" "firsts" "[LCharmBracelets$Ring;", Cond.fieldLink RX1 17 "CharmBracelets$NotedList" "times" "[I", Cond.methodLink RX1 30 arraycopyName, Cond.instanceMethod yX3_takeOut, Cond.selects RX3 yX3_takeOut yX3_takeOut, Cond.code yX3_takeOut cX3_takeOut 3 none]
def wsX5_addFromBox : List Cond := .code yX5_addFromBox cX5_addFromBox 3 (some .int) :: ((wsX5_addFromBox_r1 ++ (wsX5_addFromBox_r2 ++ wsX5_addFromBox_r3)) ++ wsX50 ++ wsX30 ++ wsX20 ++ wsX00 ++ wsX10)
def wsX5_make_r1 : List Cond := [Cond.fieldLink RX5 33 "CharmBracelets" "trial" "LCharmBracelets$Ring;", Cond.methodLink RX5 55 yX5_isSize, Cond.static yX5_isSize, Cond.initialized RX5, Cond.code yX5_isSize cX5_isSize 1 (some .boolean), Cond.instanceMethod yX2_becomeEmpty, Cond.initialized RX2, Cond.selects RX2 yX2_becomeEmpty yX2_becomeEmpty, Cond.code yX2_becomeEmpty cX2_becomeEmpty 3 none, Cond.fieldLink RX2 15 "CharmBracelets$Ring" "size" "I", Cond.fieldLink RX2 9 "CharmBracelets$Ring" "kinds" "[I", Cond.methodLink RX5 62 yX5_addFromBox, Cond.instanceMethod yX5_addFromBox, Cond.selects RX5 yX5_addFromBox yX5_addFromBox, Cond.code yX5_addFromBox cX5_addFromBox 3 (some .int), Cond.fieldLink RX5 10 "CharmBracelets" "now" "LCharmBracelets$State;", Cond.instanceMethod yX3_boxHasCharmsFor, Cond.initialized RX3, Cond.selects RX3 yX3_boxHasCharmsFor yX3_boxHasCharmsFor, Cond.code yX3_boxHasCharmsFor cX3_boxHasCharmsFor 3 (some .boolean), Cond.fieldLink RX3 9 "CharmBracelets$State" "box" "[I", Cond.instanceMethod yX2_charmsOf, Cond.selects RX2 yX2_charmsOf yX2_charmsOf, Cond.code yX2_charmsOf cX2_charmsOf 4 (some .int)]
def wsX5_make_r2 : List Cond := [Cond.methodLink RX2 25 yX2_at, Cond.instanceMethod yX2_at, Cond.selects RX2 yX2_at yX2_at, Cond.code yX2_at cX2_at 2 (some .int), Cond.instanceMethod yX3_freeNumber, Cond.selects RX3 yX3_freeNumber yX3_freeNumber, Cond.code yX3_freeNumber cX3_freeNumber 2 (some .int), Cond.fieldLink RX3 20 "CharmBracelets$State" "rings" "[LCharmBracelets$Ring;", Cond.methodLink RX5 41 yX5_record, Cond.instanceMethod yX5_record, Cond.selects RX5 yX5_record yX5_record, Cond.code yX5_record cX5_record 1 none, Cond.fieldLink RX5 231 "CharmBracelets" "recordedStates" "I", Cond.fieldLink RX5 19 "CharmBracelets" "recorded" "[LCharmBracelets$State;", Cond.methodLink RX5 241 yX5_discardOldest, Cond.instanceMethod yX5_discardOldest, Cond.selects RX5 yX5_discardOldest yX5_discardOldest, Cond.code yX5_discardOldest cX5_discardOldest 3 none, Cond.instanceMethod yX3_becomeLike, Cond.selects RX3 yX3_becomeLike yX3_becomeLike, Cond.code yX3_becomeLike cX3_becomeLike 3 none, Cond.methodLink RX3 39 arraycopyName, Cond.native arraycopyName, Cond.static arraycopyName]
def wsX5_make_r3 : List Cond := [Cond.initialized "java/lang/System", Cond.fieldLink RX3 15 "CharmBracelets$State" "weights" "[I", Cond.fieldLink RX3 27 "CharmBracelets$State" "motif" "LCharmBracelets$Motif;", Cond.fieldLink RX3 34 "CharmBracelets$State" "list" "LCharmBracelets$NotedList;", Cond.instanceMethod yX2_becomeLike, Cond.selects RX2 yX2_becomeLike yX2_becomeLike, Cond.code yX2_becomeLike cX2_becomeLike 2 none, Cond.methodLink RX2 19 arraycopyName, Cond.instanceMethod yX0_becomeLike, Cond.initialized RX0, Cond.selects RX0 yX0_becomeLike yX0_becomeLike, Cond.code yX0_becomeLike cX0_becomeLike 2 none, Cond.fieldLink RX0 15 "CharmBracelets$Motif" "length" "I", Cond.fieldLink RX0 9 "CharmBracelets$Motif" "signs" "[I", Cond.methodLink RX0 19 arraycopyName, Cond.instanceMethod yX1_becomeLike, Cond.initialized RX1, Cond.selects RX1 yX1_becomeLike yX1_becomeLike, Cond.code yX1_becomeLike cX1_becomeLike 3 none, Cond.fieldLink RX1 22 "CharmBracelets$NotedList" "length" "I", Cond.fieldLink RX1 11 "CharmBracelets$NotedList" "firsts" "[LCharmBracelets$Ring;", Cond.fieldLink RX1 17 "CharmBracelets$NotedList" "times" "[I", Cond.methodLink RX1 30 arraycopyName, Cond.instanceMethod yX3_takeOut]
def wsX5_make_r4 : List Cond := [Cond.selects RX3 yX3_takeOut yX3_takeOut, Cond.code yX3_takeOut cX3_takeOut 3 none]
def wsX5_make : List Cond := .code yX5_make cX5_make 2 (some .int) :: ((wsX5_make_r1 ++ (wsX5_make_r2 ++ (wsX5_make_r3 ++ wsX5_make_r4))) ++ wsX50 ++ wsX20 ++ wsX30 ++ wsX00 ++ wsX10)
def wsX5_copy_r1 : List Cond := [Cond.fieldLink RX5 10 "CharmBracelets" "now" "LCharmBracelets$State;", Cond.instanceMethod yX3_find, Cond.initialized RX3, Cond.selects RX3 yX3_find yX3_find, Cond.code yX3_find cX3_find 2 (some (.object "CharmBracelets$Ring")), Cond.fieldLink RX3 20 "CharmBracelets$State" "rings" "[LCharmBracelets$Ring;", Cond.methodLink RX5 62 yX5_addFromBox, Cond.instanceMethod yX5_addFromBox, Cond.selects RX5 yX5_addFromBox yX5_addFromBox, Cond.initialized RX5, Cond.code yX5_addFromBox cX5_addFromBox 3 (some .int), Cond.instanceMethod yX3_boxHasCharmsFor, Cond.selects RX3 yX3_boxHasCharmsFor yX3_boxHasCharmsFor, Cond.code yX3_boxHasCharmsFor cX3_boxHasCharmsFor 3 (some .boolean), Cond.fieldLink RX3 9 "CharmBracelets$State" "box" "[I", Cond.instanceMethod yX2_charmsOf, Cond.initialized RX2, Cond.selects RX2 yX2_charmsOf yX2_charmsOf, Cond.code yX2_charmsOf cX2_charmsOf 4 (some .int), Cond.fieldLink RX2 15 "CharmBracelets$Ring" "size" "I", Cond.methodLink RX2 25 yX2_at, Cond.instanceMethod yX2_at, Cond.selects RX2 yX2_at yX2_at, Cond.code yX2_at cX2_at 2 (some .int)]
def wsX5_copy_r2 : List Cond := [Cond.fieldLink RX2 9 "CharmBracelets$Ring" "kinds" "[I", Cond.instanceMethod yX3_freeNumber, Cond.selects RX3 yX3_freeNumber yX3_freeNumber, Cond.code yX3_freeNumber cX3_freeNumber 2 (some .int), Cond.methodLink RX5 41 yX5_record, Cond.instanceMethod yX5_record, Cond.selects RX5 yX5_record yX5_record, Cond.code yX5_record cX5_record 1 none, Cond.fieldLink RX5 231 "CharmBracelets" "recordedStates" "I", Cond.fieldLink RX5 19 "CharmBracelets" "recorded" "[LCharmBracelets$State;", Cond.methodLink RX5 241 yX5_discardOldest, Cond.instanceMethod yX5_discardOldest, Cond.selects RX5 yX5_discardOldest yX5_discardOldest, Cond.code yX5_discardOldest cX5_discardOldest 3 none, Cond.instanceMethod yX3_becomeLike, Cond.selects RX3 yX3_becomeLike yX3_becomeLike, Cond.code yX3_becomeLike cX3_becomeLike 3 none, Cond.methodLink RX3 39 arraycopyName, Cond.native arraycopyName, Cond.static arraycopyName, Cond.initialized "java/lang/System", Cond.fieldLink RX3 15 "CharmBracelets$State" "weights" "[I", Cond.fieldLink RX3 27 "CharmBracelets$State" "motif" "LCharmBracelets$Motif;", Cond.fieldLink RX3 34 "CharmBracelets$State" "list" "LCharmBracelets$NotedList;"]
def wsX5_copy_r3 : List Cond := [Cond.instanceMethod yX2_becomeLike, Cond.selects RX2 yX2_becomeLike yX2_becomeLike, Cond.code yX2_becomeLike cX2_becomeLike 2 none, Cond.methodLink RX2 19 arraycopyName, Cond.instanceMethod yX0_becomeLike, Cond.initialized RX0, Cond.selects RX0 yX0_becomeLike yX0_becomeLike, Cond.code yX0_becomeLike cX0_becomeLike 2 none, Cond.fieldLink RX0 15 "CharmBracelets$Motif" "length" "I", Cond.fieldLink RX0 9 "CharmBracelets$Motif" "signs" "[I", Cond.methodLink RX0 19 arraycopyName, Cond.instanceMethod yX1_becomeLike, Cond.initialized RX1, Cond.selects RX1 yX1_becomeLike yX1_becomeLike, Cond.code yX1_becomeLike cX1_becomeLike 3 none, Cond.fieldLink RX1 22 "CharmBracelets$NotedList" "length" "I", Cond.fieldLink RX1 11 "CharmBracelets$NotedList" "firsts" "[LCharmBracelets$Ring;", Cond.fieldLink RX1 17 "CharmBracelets$NotedList" "times" "[I", Cond.methodLink RX1 30 arraycopyName, Cond.instanceMethod yX3_takeOut, Cond.selects RX3 yX3_takeOut yX3_takeOut, Cond.code yX3_takeOut cX3_takeOut 3 none]
def wsX5_copy : List Cond := .code yX5_copy cX5_copy 3 (some .int) :: ((wsX5_copy_r1 ++ (wsX5_copy_r2 ++ wsX5_copy_r3)) ++ wsX50 ++ wsX30 ++ wsX20 ++ wsX00 ++ wsX10)
def wsX5_remove_r1 : List Cond := [Cond.fieldLink RX5 10 "CharmBracelets" "now" "LCharmBracelets$State;", Cond.instanceMethod yX3_find, Cond.initialized RX3, Cond.selects RX3 yX3_find yX3_find, Cond.code yX3_find cX3_find 2 (some (.object "CharmBracelets$Ring")), Cond.fieldLink RX3 20 "CharmBracelets$State" "rings" "[LCharmBracelets$Ring;", Cond.instanceMethod yX3_boxHasRoomFor, Cond.selects RX3 yX3_boxHasRoomFor yX3_boxHasRoomFor, Cond.code yX3_boxHasRoomFor cX3_boxHasRoomFor 3 (some .boolean), Cond.fieldLink RX3 9 "CharmBracelets$State" "box" "[I", Cond.instanceMethod yX2_charmsOf, Cond.initialized RX2, Cond.selects RX2 yX2_charmsOf yX2_charmsOf, Cond.code yX2_charmsOf cX2_charmsOf 4 (some .int), Cond.fieldLink RX2 15 "CharmBracelets$Ring" "size" "I", Cond.methodLink RX2 25 yX2_at, Cond.instanceMethod yX2_at, Cond.selects RX2 yX2_at yX2_at, Cond.code yX2_at cX2_at 2 (some .int), Cond.fieldLink RX2 9 "CharmBracelets$Ring" "kinds" "[I", Cond.methodLink RX5 41 yX5_record, Cond.instanceMethod yX5_record, Cond.selects RX5 yX5_record yX5_record, Cond.initialized RX5]
def wsX5_remove_r2 : List Cond := [Cond.code yX5_record cX5_record 1 none, Cond.fieldLink RX5 231 "CharmBracelets" "recordedStates" "I", Cond.fieldLink RX5 19 "CharmBracelets" "recorded" "[LCharmBracelets$State;", Cond.methodLink RX5 241 yX5_discardOldest, Cond.instanceMethod yX5_discardOldest, Cond.selects RX5 yX5_discardOldest yX5_discardOldest, Cond.code yX5_discardOldest cX5_discardOldest 3 none, Cond.instanceMethod yX3_becomeLike, Cond.selects RX3 yX3_becomeLike yX3_becomeLike, Cond.code yX3_becomeLike cX3_becomeLike 3 none, Cond.methodLink RX3 39 arraycopyName, Cond.native arraycopyName, Cond.static arraycopyName, Cond.initialized "java/lang/System", Cond.fieldLink RX3 15 "CharmBracelets$State" "weights" "[I", Cond.fieldLink RX3 27 "CharmBracelets$State" "motif" "LCharmBracelets$Motif;", Cond.fieldLink RX3 34 "CharmBracelets$State" "list" "LCharmBracelets$NotedList;", Cond.instanceMethod yX2_becomeLike, Cond.selects RX2 yX2_becomeLike yX2_becomeLike, Cond.code yX2_becomeLike cX2_becomeLike 2 none, Cond.methodLink RX2 19 arraycopyName, Cond.instanceMethod yX0_becomeLike, Cond.initialized RX0, Cond.selects RX0 yX0_becomeLike yX0_becomeLike]
def wsX5_remove_r3 : List Cond := [Cond.code yX0_becomeLike cX0_becomeLike 2 none, Cond.fieldLink RX0 15 "CharmBracelets$Motif" "length" "I", Cond.fieldLink RX0 9 "CharmBracelets$Motif" "signs" "[I", Cond.methodLink RX0 19 arraycopyName, Cond.instanceMethod yX1_becomeLike, Cond.initialized RX1, Cond.selects RX1 yX1_becomeLike yX1_becomeLike, Cond.code yX1_becomeLike cX1_becomeLike 3 none, Cond.fieldLink RX1 22 "CharmBracelets$NotedList" "length" "I", Cond.fieldLink RX1 11 "CharmBracelets$NotedList" "firsts" "[LCharmBracelets$Ring;", Cond.fieldLink RX1 17 "CharmBracelets$NotedList" "times" "[I", Cond.methodLink RX1 30 arraycopyName, Cond.instanceMethod yX2_charms, Cond.selects RX2 yX2_charms yX2_charms, Cond.code yX2_charms cX2_charms 1 (some .int), Cond.methodLink RX2 33 yX2_charmsOf, Cond.instanceMethod yX3_putBack, Cond.selects RX3 yX3_putBack yX3_putBack, Cond.code yX3_putBack cX3_putBack 3 none, Cond.instanceMethod yX2_becomeEmpty, Cond.selects RX2 yX2_becomeEmpty yX2_becomeEmpty, Cond.code yX2_becomeEmpty cX2_becomeEmpty 3 none]
def wsX5_remove : List Cond := .code yX5_remove cX5_remove 4 (some .int) :: ((wsX5_remove_r1 ++ (wsX5_remove_r2 ++ wsX5_remove_r3)) ++ wsX50 ++ wsX30 ++ wsX20 ++ wsX00 ++ wsX10)
def wsX5_hang_r1 : List Cond := [Cond.fieldLink RX5 10 "CharmBracelets" "now" "LCharmBracelets$State;", Cond.instanceMethod yX3_find, Cond.initialized RX3, Cond.selects RX3 yX3_find yX3_find, Cond.code yX3_find cX3_find 2 (some (.object "CharmBracelets$Ring")), Cond.fieldLink RX3 20 "CharmBracelets$State" "rings" "[LCharmBracelets$Ring;", Cond.instanceMethod yX2_hasSlot, Cond.initialized RX2, Cond.selects RX2 yX2_hasSlot yX2_hasSlot, Cond.code yX2_hasSlot cX2_hasSlot 2 (some .boolean), Cond.fieldLink RX2 15 "CharmBracelets$Ring" "size" "I", Cond.methodLink RX5 37 yX5_isCharm, Cond.static yX5_isCharm, Cond.initialized RX5, Cond.code yX5_isCharm cX5_isCharm 1 (some .boolean), Cond.instanceMethod yX2_at, Cond.selects RX2 yX2_at yX2_at, Cond.code yX2_at cX2_at 2 (some .int), Cond.fieldLink RX2 9 "CharmBracelets$Ring" "kinds" "[I", Cond.methodLink RX5 41 yX5_record, Cond.instanceMethod yX5_record, Cond.selects RX5 yX5_record yX5_record, Cond.code yX5_record cX5_record 1 none, Cond.fieldLink RX5 231 "CharmBracelets" "recordedStates" "I"]
def wsX5_hang_r2 : List Cond := [Cond.fieldLink RX5 19 "CharmBracelets" "recorded" "[LCharmBracelets$State;", Cond.methodLink RX5 241 yX5_discardOldest, Cond.instanceMethod yX5_discardOldest, Cond.selects RX5 yX5_discardOldest yX5_discardOldest, Cond.code yX5_discardOldest cX5_discardOldest 3 none, Cond.instanceMethod yX3_becomeLike, Cond.selects RX3 yX3_becomeLike yX3_becomeLike, Cond.code yX3_becomeLike cX3_becomeLike 3 none, Cond.fieldLink RX3 9 "CharmBracelets$State" "box" "[I", Cond.methodLink RX3 39 arraycopyName, Cond.native arraycopyName, Cond.static arraycopyName, Cond.initialized "java/lang/System", Cond.fieldLink RX3 15 "CharmBracelets$State" "weights" "[I", Cond.fieldLink RX3 27 "CharmBracelets$State" "motif" "LCharmBracelets$Motif;", Cond.fieldLink RX3 34 "CharmBracelets$State" "list" "LCharmBracelets$NotedList;", Cond.instanceMethod yX2_becomeLike, Cond.selects RX2 yX2_becomeLike yX2_becomeLike, Cond.code yX2_becomeLike cX2_becomeLike 2 none, Cond.methodLink RX2 19 arraycopyName, Cond.instanceMethod yX0_becomeLike, Cond.initialized RX0, Cond.selects RX0 yX0_becomeLike yX0_becomeLike, Cond.code yX0_becomeLike cX0_becomeLike 2 none]
def wsX5_hang_r3 : List Cond := [Cond.fieldLink RX0 15 "CharmBracelets$Motif" "length" "I", Cond.fieldLink RX0 9 "CharmBracelets$Motif" "signs" "[I", Cond.methodLink RX0 19 arraycopyName, Cond.instanceMethod yX1_becomeLike, Cond.initialized RX1, Cond.selects RX1 yX1_becomeLike yX1_becomeLike, Cond.code yX1_becomeLike cX1_becomeLike 3 none, Cond.fieldLink RX1 22 "CharmBracelets$NotedList" "length" "I", Cond.fieldLink RX1 11 "CharmBracelets$NotedList" "firsts" "[LCharmBracelets$Ring;", Cond.fieldLink RX1 17 "CharmBracelets$NotedList" "times" "[I", Cond.methodLink RX1 30 arraycopyName, Cond.instanceMethod yX2_put, Cond.selects RX2 yX2_put yX2_put, Cond.code yX2_put cX2_put 3 none]
def wsX5_hang : List Cond := .code yX5_hang cX5_hang 5 (some .int) :: ((wsX5_hang_r1 ++ (wsX5_hang_r2 ++ wsX5_hang_r3)) ++ wsX50 ++ wsX30 ++ wsX20 ++ wsX00 ++ wsX10)
def wsX5_takeOff_r1 : List Cond := [Cond.fieldLink RX5 10 "CharmBracelets" "now" "LCharmBracelets$State;", Cond.instanceMethod yX3_find, Cond.initialized RX3, Cond.selects RX3 yX3_find yX3_find, Cond.code yX3_find cX3_find 2 (some (.object "CharmBracelets$Ring")), Cond.fieldLink RX3 20 "CharmBracelets$State" "rings" "[LCharmBracelets$Ring;", Cond.instanceMethod yX2_hasSlot, Cond.initialized RX2, Cond.selects RX2 yX2_hasSlot yX2_hasSlot, Cond.code yX2_hasSlot cX2_hasSlot 2 (some .boolean), Cond.fieldLink RX2 15 "CharmBracelets$Ring" "size" "I", Cond.instanceMethod yX2_at, Cond.selects RX2 yX2_at yX2_at, Cond.code yX2_at cX2_at 2 (some .int), Cond.fieldLink RX2 9 "CharmBracelets$Ring" "kinds" "[I", Cond.methodLink RX5 37 yX5_isCharm, Cond.static yX5_isCharm, Cond.initialized RX5, Cond.code yX5_isCharm cX5_isCharm 1 (some .boolean), Cond.methodLink RX5 41 yX5_record, Cond.instanceMethod yX5_record, Cond.selects RX5 yX5_record yX5_record, Cond.code yX5_record cX5_record 1 none, Cond.fieldLink RX5 231 "CharmBracelets" "recordedStates" "I"]
def wsX5_takeOff_r2 : List Cond := [Cond.fieldLink RX5 19 "CharmBracelets" "recorded" "[LCharmBracelets$State;", Cond.methodLink RX5 241 yX5_discardOldest, Cond.instanceMethod yX5_discardOldest, Cond.selects RX5 yX5_discardOldest yX5_discardOldest, Cond.code yX5_discardOldest cX5_discardOldest 3 none, Cond.instanceMethod yX3_becomeLike, Cond.selects RX3 yX3_becomeLike yX3_becomeLike, Cond.code yX3_becomeLike cX3_becomeLike 3 none, Cond.fieldLink RX3 9 "CharmBracelets$State" "box" "[I", Cond.methodLink RX3 39 arraycopyName, Cond.native arraycopyName, Cond.static arraycopyName, Cond.initialized "java/lang/System", Cond.fieldLink RX3 15 "CharmBracelets$State" "weights" "[I", Cond.fieldLink RX3 27 "CharmBracelets$State" "motif" "LCharmBracelets$Motif;", Cond.fieldLink RX3 34 "CharmBracelets$State" "list" "LCharmBracelets$NotedList;", Cond.instanceMethod yX2_becomeLike, Cond.selects RX2 yX2_becomeLike yX2_becomeLike, Cond.code yX2_becomeLike cX2_becomeLike 2 none, Cond.methodLink RX2 19 arraycopyName, Cond.instanceMethod yX0_becomeLike, Cond.initialized RX0, Cond.selects RX0 yX0_becomeLike yX0_becomeLike, Cond.code yX0_becomeLike cX0_becomeLike 2 none]
def wsX5_takeOff_r3 : List Cond := [Cond.fieldLink RX0 15 "CharmBracelets$Motif" "length" "I", Cond.fieldLink RX0 9 "CharmBracelets$Motif" "signs" "[I", Cond.methodLink RX0 19 arraycopyName, Cond.instanceMethod yX1_becomeLike, Cond.initialized RX1, Cond.selects RX1 yX1_becomeLike yX1_becomeLike, Cond.code yX1_becomeLike cX1_becomeLike 3 none, Cond.fieldLink RX1 22 "CharmBracelets$NotedList" "length" "I", Cond.fieldLink RX1 11 "CharmBracelets$NotedList" "firsts" "[LCharmBracelets$Ring;", Cond.fieldLink RX1 17 "CharmBracelets$NotedList" "times" "[I", Cond.methodLink RX1 30 arraycopyName, Cond.instanceMethod yX2_put, Cond.selects RX2 yX2_put yX2_put, Cond.code yX2_put cX2_put 3 none]
def wsX5_takeOff : List Cond := .code yX5_takeOff cX5_takeOff 5 (some .int) :: ((wsX5_takeOff_r1 ++ (wsX5_takeOff_r2 ++ wsX5_takeOff_r3)) ++ wsX50 ++ wsX30 ++ wsX20 ++ wsX00 ++ wsX10)
def wsX5_swap_r1 : List Cond := [Cond.fieldLink RX5 10 "CharmBracelets" "now" "LCharmBracelets$State;", Cond.instanceMethod yX3_find, Cond.initialized RX3, Cond.selects RX3 yX3_find yX3_find, Cond.code yX3_find cX3_find 2 (some (.object "CharmBracelets$Ring")), Cond.fieldLink RX3 20 "CharmBracelets$State" "rings" "[LCharmBracelets$Ring;", Cond.instanceMethod yX2_hasSlot, Cond.initialized RX2, Cond.selects RX2 yX2_hasSlot yX2_hasSlot, Cond.code yX2_hasSlot cX2_hasSlot 2 (some .boolean), Cond.fieldLink RX2 15 "CharmBracelets$Ring" "size" "I", Cond.methodLink RX5 41 yX5_record, Cond.instanceMethod yX5_record, Cond.selects RX5 yX5_record yX5_record, Cond.initialized RX5, Cond.code yX5_record cX5_record 1 none, Cond.fieldLink RX5 231 "CharmBracelets" "recordedStates" "I", Cond.fieldLink RX5 19 "CharmBracelets" "recorded" "[LCharmBracelets$State;", Cond.methodLink RX5 241 yX5_discardOldest, Cond.instanceMethod yX5_discardOldest, Cond.selects RX5 yX5_discardOldest yX5_discardOldest, Cond.code yX5_discardOldest cX5_discardOldest 3 none, Cond.instanceMethod yX3_becomeLike, Cond.selects RX3 yX3_becomeLike yX3_becomeLike]
def wsX5_swap_r2 : List Cond := [Cond.code yX3_becomeLike cX3_becomeLike 3 none, Cond.fieldLink RX3 9 "CharmBracelets$State" "box" "[I", Cond.methodLink RX3 39 arraycopyName, Cond.native arraycopyName, Cond.static arraycopyName, Cond.initialized "java/lang/System", Cond.fieldLink RX3 15 "CharmBracelets$State" "weights" "[I", Cond.fieldLink RX3 27 "CharmBracelets$State" "motif" "LCharmBracelets$Motif;", Cond.fieldLink RX3 34 "CharmBracelets$State" "list" "LCharmBracelets$NotedList;", Cond.instanceMethod yX2_becomeLike, Cond.selects RX2 yX2_becomeLike yX2_becomeLike, Cond.code yX2_becomeLike cX2_becomeLike 2 none, Cond.fieldLink RX2 9 "CharmBracelets$Ring" "kinds" "[I", Cond.methodLink RX2 19 arraycopyName, Cond.instanceMethod yX0_becomeLike, Cond.initialized RX0, Cond.selects RX0 yX0_becomeLike yX0_becomeLike, Cond.code yX0_becomeLike cX0_becomeLike 2 none, Cond.fieldLink RX0 15 "CharmBracelets$Motif" "length" "I", Cond.fieldLink RX0 9 "CharmBracelets$Motif" "signs" "[I", Cond.methodLink RX0 19 arraycopyName, Cond.instanceMethod yX1_becomeLike, Cond.initialized RX1, Cond.selects RX1 yX1_becomeLike yX1_becomeLike]
def wsX5_swap_r3 : List Cond := [Cond.code yX1_becomeLike cX1_becomeLike 3 none, Cond.fieldLink RX1 22 "CharmBracelets$NotedList" "length" "I", Cond.fieldLink RX1 11 "CharmBracelets$NotedList" "firsts" "[LCharmBracelets$Ring;", Cond.fieldLink RX1 17 "CharmBracelets$NotedList" "times" "[I", Cond.methodLink RX1 30 arraycopyName, Cond.instanceMethod yX2_exchange, Cond.selects RX2 yX2_exchange yX2_exchange, Cond.code yX2_exchange cX2_exchange 4 none, Cond.methodLink RX2 25 yX2_at, Cond.instanceMethod yX2_at, Cond.selects RX2 yX2_at yX2_at, Cond.code yX2_at cX2_at 2 (some .int), Cond.methodLink RX2 29 yX2_put, Cond.instanceMethod yX2_put, Cond.selects RX2 yX2_put yX2_put, Cond.code yX2_put cX2_put 3 none, Cond.instanceMethod yX3_lean, Cond.selects RX3 yX3_lean yX3_lean, Cond.code yX3_lean cX3_lean 2 (some .int), Cond.methodLink RX3 86 Lib.Math.abs.name, Cond.static Lib.Math.abs.name, Cond.initialized "java/lang/Math", Cond.code Lib.Math.abs.name Lib.Math.abs.code 1 (some .int), Cond.methodLink RX3 82 yX3_quarterWeight]
def wsX5_swap_r4 : List Cond := [Cond.instanceMethod yX3_quarterWeight, Cond.selects RX3 yX3_quarterWeight yX3_quarterWeight, Cond.code yX3_quarterWeight cX3_quarterWeight 3 (some .int), Cond.methodLink RX3 78 yX3_weight, Cond.instanceMethod yX3_weight, Cond.selects RX3 yX3_weight yX3_weight, Cond.code yX3_weight cX3_weight 7 (some .int), Cond.static yX5_isCharm, Cond.code yX5_isCharm cX5_isCharm 1 (some .boolean)]
def wsX5_swap : List Cond := .code yX5_swap cX5_swap 5 (some .int) :: ((wsX5_swap_r1 ++ (wsX5_swap_r2 ++ (wsX5_swap_r3 ++ wsX5_swap_r4))) ++ wsX50 ++ wsX30 ++ wsX20 ++ wsX00 ++ wsX10)
def wsX5_change_r1 : List Cond := [Cond.fieldLink RX5 33 "CharmBracelets" "trial" "LCharmBracelets$Ring;", Cond.methodLink RX5 41 yX5_record, Cond.instanceMethod yX5_record, Cond.selects RX5 yX5_record yX5_record, Cond.initialized RX5, Cond.code yX5_record cX5_record 1 none, Cond.fieldLink RX5 231 "CharmBracelets" "recordedStates" "I", Cond.fieldLink RX5 19 "CharmBracelets" "recorded" "[LCharmBracelets$State;", Cond.fieldLink RX5 10 "CharmBracelets" "now" "LCharmBracelets$State;", Cond.methodLink RX5 241 yX5_discardOldest, Cond.instanceMethod yX5_discardOldest, Cond.selects RX5 yX5_discardOldest yX5_discardOldest, Cond.code yX5_discardOldest cX5_discardOldest 3 none, Cond.instanceMethod yX3_becomeLike, Cond.initialized RX3, Cond.selects RX3 yX3_becomeLike yX3_becomeLike, Cond.code yX3_becomeLike cX3_becomeLike 3 none, Cond.fieldLink RX3 9 "CharmBracelets$State" "box" "[I", Cond.methodLink RX3 39 arraycopyName, Cond.native arraycopyName, Cond.static arraycopyName, Cond.initialized "java/lang/System", Cond.fieldLink RX3 15 "CharmBracelets$State" "weights" "[I", Cond.fieldLink RX3 20 "CharmBracelets$State" "rings" "[LCharmBracelets$Ring;"]
def wsX5_change_r2 : List Cond := [Cond.fieldLink RX3 27 "CharmBracelets$State" "motif" "LCharmBracelets$Motif;", Cond.fieldLink RX3 34 "CharmBracelets$State" "list" "LCharmBracelets$NotedList;", Cond.instanceMethod yX2_becomeLike, Cond.initialized RX2, Cond.selects RX2 yX2_becomeLike yX2_becomeLike, Cond.code yX2_becomeLike cX2_becomeLike 2 none, Cond.fieldLink RX2 15 "CharmBracelets$Ring" "size" "I", Cond.fieldLink RX2 9 "CharmBracelets$Ring" "kinds" "[I", Cond.methodLink RX2 19 arraycopyName, Cond.instanceMethod yX0_becomeLike, Cond.initialized RX0, Cond.selects RX0 yX0_becomeLike yX0_becomeLike, Cond.code yX0_becomeLike cX0_becomeLike 2 none, Cond.fieldLink RX0 15 "CharmBracelets$Motif" "length" "I", Cond.fieldLink RX0 9 "CharmBracelets$Motif" "signs" "[I", Cond.methodLink RX0 19 arraycopyName, Cond.instanceMethod yX1_becomeLike, Cond.initialized RX1, Cond.selects RX1 yX1_becomeLike yX1_becomeLike, Cond.code yX1_becomeLike cX1_becomeLike 3 none, Cond.fieldLink RX1 22 "CharmBracelets$NotedList" "length" "I", Cond.fieldLink RX1 11 "CharmBracelets$NotedList" "firsts" "[LCharmBracelets$Ring;", Cond.fieldLink RX1 17 "CharmBracelets$NotedList" "times" "[I", Cond.methodLink RX1 30 arraycopyName]
def wsX5_change_r3 : List Cond := [Cond.instanceMethod yX2_differences, Cond.selects RX2 yX2_differences yX2_differences, Cond.code yX2_differences cX2_differences 5 (some .int), Cond.methodLink RX2 39 yX2_kindAfter, Cond.instanceMethod yX2_kindAfter, Cond.selects RX2 yX2_kindAfter yX2_kindAfter, Cond.code yX2_kindAfter cX2_kindAfter 4 (some .int), Cond.methodLink RX2 36 yX2_around, Cond.instanceMethod yX2_around, Cond.selects RX2 yX2_around yX2_around, Cond.code yX2_around cX2_around 2 (some .int), Cond.methodLink RX2 25 yX2_at, Cond.instanceMethod yX2_at, Cond.selects RX2 yX2_at yX2_at, Cond.code yX2_at cX2_at 2 (some .int), Cond.instanceMethod yX2_put, Cond.selects RX2 yX2_put yX2_put, Cond.code yX2_put cX2_put 3 none]
def wsX5_change : List Cond := .code yX5_change cX5_change 5 (some .int) :: ((wsX5_change_r1 ++ (wsX5_change_r2 ++ wsX5_change_r3)) ++ wsX50 ++ wsX20 ++ wsX30 ++ wsX00 ++ wsX10)
def wsX5_roll_r1 : List Cond := [Cond.fieldLink RX5 10 "CharmBracelets" "now" "LCharmBracelets$State;", Cond.instanceMethod yX3_find, Cond.initialized RX3, Cond.selects RX3 yX3_find yX3_find, Cond.code yX3_find cX3_find 2 (some (.object "CharmBracelets$Ring")), Cond.fieldLink RX3 20 "CharmBracelets$State" "rings" "[LCharmBracelets$Ring;", Cond.methodLink RX5 102 yX5_changeAt, Cond.static yX5_changeAt, Cond.initialized RX5, Cond.code yX5_changeAt cX5_changeAt 3 (some .int), Cond.methodLink RX5 106 yX5_change, Cond.instanceMethod yX5_change, Cond.selects RX5 yX5_change yX5_change, Cond.code yX5_change cX5_change 5 (some .int), Cond.fieldLink RX5 33 "CharmBracelets" "trial" "LCharmBracelets$Ring;", Cond.methodLink RX5 41 yX5_record, Cond.instanceMethod yX5_record, Cond.selects RX5 yX5_record yX5_record, Cond.code yX5_record cX5_record 1 none, Cond.fieldLink RX5 231 "CharmBracelets" "recordedStates" "I", Cond.fieldLink RX5 19 "CharmBracelets" "recorded" "[LCharmBracelets$State;", Cond.methodLink RX5 241 yX5_discardOldest, Cond.instanceMethod yX5_discardOldest, Cond.selects RX5 yX5_discardOldest yX5_discardOldest]
def wsX5_roll_r2 : List Cond := [Cond.code yX5_discardOldest cX5_discardOldest 3 none, Cond.instanceMethod yX3_becomeLike, Cond.selects RX3 yX3_becomeLike yX3_becomeLike, Cond.code yX3_becomeLike cX3_becomeLike 3 none, Cond.fieldLink RX3 9 "CharmBracelets$State" "box" "[I", Cond.methodLink RX3 39 arraycopyName, Cond.native arraycopyName, Cond.static arraycopyName, Cond.initialized "java/lang/System", Cond.fieldLink RX3 15 "CharmBracelets$State" "weights" "[I", Cond.fieldLink RX3 27 "CharmBracelets$State" "motif" "LCharmBracelets$Motif;", Cond.fieldLink RX3 34 "CharmBracelets$State" "list" "LCharmBracelets$NotedList;", Cond.instanceMethod yX2_becomeLike, Cond.initialized RX2, Cond.selects RX2 yX2_becomeLike yX2_becomeLike, Cond.code yX2_becomeLike cX2_becomeLike 2 none, Cond.fieldLink RX2 15 "CharmBracelets$Ring" "size" "I", Cond.fieldLink RX2 9 "CharmBracelets$Ring" "kinds" "[I", Cond.methodLink RX2 19 arraycopyName, Cond.instanceMethod yX0_becomeLike, Cond.initialized RX0, Cond.selects RX0 yX0_becomeLike yX0_becomeLike, Cond.code yX0_becomeLike cX0_becomeLike 2 none, Cond.fieldLink RX0 15 "CharmBracelets$Motif" "length" "I"]
def wsX5_roll_r3 : List Cond := [Cond.fieldLink RX0 9 "CharmBracelets$Motif" "signs" "[I", Cond.methodLink RX0 19 arraycopyName, Cond.instanceMethod yX1_becomeLike, Cond.initialized RX1, Cond.selects RX1 yX1_becomeLike yX1_becomeLike, Cond.code yX1_becomeLike cX1_becomeLike 3 none, Cond.fieldLink RX1 22 "CharmBracelets$NotedList" "length" "I", Cond.fieldLink RX1 11 "CharmBracelets$NotedList" "firsts" "[LCharmBracelets$Ring;", Cond.fieldLink RX1 17 "CharmBracelets$NotedList" "times" "[I", Cond.methodLink RX1 30 arraycopyName, Cond.instanceMethod yX2_differences, Cond.selects RX2 yX2_differences yX2_differences, Cond.code yX2_differences cX2_differences 5 (some .int), Cond.methodLink RX2 39 yX2_kindAfter, Cond.instanceMethod yX2_kindAfter, Cond.selects RX2 yX2_kindAfter yX2_kindAfter, Cond.code yX2_kindAfter cX2_kindAfter 4 (some .int), Cond.methodLink RX2 36 yX2_around, Cond.instanceMethod yX2_around, Cond.selects RX2 yX2_around yX2_around, Cond.code yX2_around cX2_around 2 (some .int), Cond.methodLink RX2 25 yX2_at, Cond.instanceMethod yX2_at, Cond.selects RX2 yX2_at yX2_at]
def wsX5_roll_r4 : List Cond := [Cond.code yX2_at cX2_at 2 (some .int), Cond.instanceMethod yX2_put, Cond.selects RX2 yX2_put yX2_put, Cond.code yX2_put cX2_put 3 none]
def wsX5_roll : List Cond := .code yX5_roll cX5_roll 4 (some .int) :: ((wsX5_roll_r1 ++ (wsX5_roll_r2 ++ (wsX5_roll_r3 ++ wsX5_roll_r4))) ++ wsX50 ++ wsX20 ++ wsX30 ++ wsX00 ++ wsX10)
def wsX5_turn_r1 : List Cond := [Cond.fieldLink RX5 10 "CharmBracelets" "now" "LCharmBracelets$State;", Cond.instanceMethod yX3_find, Cond.initialized RX3, Cond.selects RX3 yX3_find yX3_find, Cond.code yX3_find cX3_find 2 (some (.object "CharmBracelets$Ring")), Cond.fieldLink RX3 20 "CharmBracelets$State" "rings" "[LCharmBracelets$Ring;", Cond.methodLink RX5 102 yX5_changeAt, Cond.static yX5_changeAt, Cond.initialized RX5, Cond.code yX5_changeAt cX5_changeAt 3 (some .int), Cond.methodLink RX5 106 yX5_change, Cond.instanceMethod yX5_change, Cond.selects RX5 yX5_change yX5_change, Cond.code yX5_change cX5_change 5 (some .int), Cond.fieldLink RX5 33 "CharmBracelets" "trial" "LCharmBracelets$Ring;", Cond.methodLink RX5 41 yX5_record, Cond.instanceMethod yX5_record, Cond.selects RX5 yX5_record yX5_record, Cond.code yX5_record cX5_record 1 none, Cond.fieldLink RX5 231 "CharmBracelets" "recordedStates" "I", Cond.fieldLink RX5 19 "CharmBracelets" "recorded" "[LCharmBracelets$State;", Cond.methodLink RX5 241 yX5_discardOldest, Cond.instanceMethod yX5_discardOldest, Cond.selects RX5 yX5_discardOldest yX5_discardOldest]
def wsX5_turn_r2 : List Cond := [Cond.code yX5_discardOldest cX5_discardOldest 3 none, Cond.instanceMethod yX3_becomeLike, Cond.selects RX3 yX3_becomeLike yX3_becomeLike, Cond.code yX3_becomeLike cX3_becomeLike 3 none, Cond.fieldLink RX3 9 "CharmBracelets$State" "box" "[I", Cond.methodLink RX3 39 arraycopyName, Cond.native arraycopyName, Cond.static arraycopyName, Cond.initialized "java/lang/System", Cond.fieldLink RX3 15 "CharmBracelets$State" "weights" "[I", Cond.fieldLink RX3 27 "CharmBracelets$State" "motif" "LCharmBracelets$Motif;", Cond.fieldLink RX3 34 "CharmBracelets$State" "list" "LCharmBracelets$NotedList;", Cond.instanceMethod yX2_becomeLike, Cond.initialized RX2, Cond.selects RX2 yX2_becomeLike yX2_becomeLike, Cond.code yX2_becomeLike cX2_becomeLike 2 none, Cond.fieldLink RX2 15 "CharmBracelets$Ring" "size" "I", Cond.fieldLink RX2 9 "CharmBracelets$Ring" "kinds" "[I", Cond.methodLink RX2 19 arraycopyName, Cond.instanceMethod yX0_becomeLike, Cond.initialized RX0, Cond.selects RX0 yX0_becomeLike yX0_becomeLike, Cond.code yX0_becomeLike cX0_becomeLike 2 none, Cond.fieldLink RX0 15 "CharmBracelets$Motif" "length" "I"]
def wsX5_turn_r3 : List Cond := [Cond.fieldLink RX0 9 "CharmBracelets$Motif" "signs" "[I", Cond.methodLink RX0 19 arraycopyName, Cond.instanceMethod yX1_becomeLike, Cond.initialized RX1, Cond.selects RX1 yX1_becomeLike yX1_becomeLike, Cond.code yX1_becomeLike cX1_becomeLike 3 none, Cond.fieldLink RX1 22 "CharmBracelets$NotedList" "length" "I", Cond.fieldLink RX1 11 "CharmBracelets$NotedList" "firsts" "[LCharmBracelets$Ring;", Cond.fieldLink RX1 17 "CharmBracelets$NotedList" "times" "[I", Cond.methodLink RX1 30 arraycopyName, Cond.instanceMethod yX2_differences, Cond.selects RX2 yX2_differences yX2_differences, Cond.code yX2_differences cX2_differences 5 (some .int), Cond.methodLink RX2 39 yX2_kindAfter, Cond.instanceMethod yX2_kindAfter, Cond.selects RX2 yX2_kindAfter yX2_kindAfter, Cond.code yX2_kindAfter cX2_kindAfter 4 (some .int), Cond.methodLink RX2 36 yX2_around, Cond.instanceMethod yX2_around, Cond.selects RX2 yX2_around yX2_around, Cond.code yX2_around cX2_around 2 (some .int), Cond.methodLink RX2 25 yX2_at, Cond.instanceMethod yX2_at, Cond.selects RX2 yX2_at yX2_at]
def wsX5_turn_r4 : List Cond := [Cond.code yX2_at cX2_at 2 (some .int), Cond.instanceMethod yX2_put, Cond.selects RX2 yX2_put yX2_put, Cond.code yX2_put cX2_put 3 none]
def wsX5_turn : List Cond := .code yX5_turn cX5_turn 4 (some .int) :: ((wsX5_turn_r1 ++ (wsX5_turn_r2 ++ (wsX5_turn_r3 ++ wsX5_turn_r4))) ++ wsX50 ++ wsX20 ++ wsX30 ++ wsX00 ++ wsX10)
def wsX5_mirror_r1 : List Cond := [Cond.fieldLink RX5 10 "CharmBracelets" "now" "LCharmBracelets$State;", Cond.instanceMethod yX3_find, Cond.initialized RX3, Cond.selects RX3 yX3_find yX3_find, Cond.code yX3_find cX3_find 2 (some (.object "CharmBracelets$Ring")), Cond.fieldLink RX3 20 "CharmBracelets$State" "rings" "[LCharmBracelets$Ring;", Cond.methodLink RX5 106 yX5_change, Cond.instanceMethod yX5_change, Cond.selects RX5 yX5_change yX5_change, Cond.initialized RX5, Cond.code yX5_change cX5_change 5 (some .int), Cond.fieldLink RX5 33 "CharmBracelets" "trial" "LCharmBracelets$Ring;", Cond.methodLink RX5 41 yX5_record, Cond.instanceMethod yX5_record, Cond.selects RX5 yX5_record yX5_record, Cond.code yX5_record cX5_record 1 none, Cond.fieldLink RX5 231 "CharmBracelets" "recordedStates" "I", Cond.fieldLink RX5 19 "CharmBracelets" "recorded" "[LCharmBracelets$State;", Cond.methodLink RX5 241 yX5_discardOldest, Cond.instanceMethod yX5_discardOldest, Cond.selects RX5 yX5_discardOldest yX5_discardOldest, Cond.code yX5_discardOldest cX5_discardOldest 3 none, Cond.instanceMethod yX3_becomeLike, Cond.selects RX3 yX3_becomeLike yX3_becomeLike]
def wsX5_mirror_r2 : List Cond := [Cond.code yX3_becomeLike cX3_becomeLike 3 none, Cond.fieldLink RX3 9 "CharmBracelets$State" "box" "[I", Cond.methodLink RX3 39 arraycopyName, Cond.native arraycopyName, Cond.static arraycopyName, Cond.initialized "java/lang/System", Cond.fieldLink RX3 15 "CharmBracelets$State" "weights" "[I", Cond.fieldLink RX3 27 "CharmBracelets$State" "motif" "LCharmBracelets$Motif;", Cond.fieldLink RX3 34 "CharmBracelets$State" "list" "LCharmBracelets$NotedList;", Cond.instanceMethod yX2_becomeLike, Cond.initialized RX2, Cond.selects RX2 yX2_becomeLike yX2_becomeLike, Cond.code yX2_becomeLike cX2_becomeLike 2 none, Cond.fieldLink RX2 15 "CharmBracelets$Ring" "size" "I", Cond.fieldLink RX2 9 "CharmBracelets$Ring" "kinds" "[I", Cond.methodLink RX2 19 arraycopyName, Cond.instanceMethod yX0_becomeLike, Cond.initialized RX0, Cond.selects RX0 yX0_becomeLike yX0_becomeLike, Cond.code yX0_becomeLike cX0_becomeLike 2 none, Cond.fieldLink RX0 15 "CharmBracelets$Motif" "length" "I", Cond.fieldLink RX0 9 "CharmBracelets$Motif" "signs" "[I", Cond.methodLink RX0 19 arraycopyName, Cond.instanceMethod yX1_becomeLike]
def wsX5_mirror_r3 : List Cond := [Cond.initialized RX1, Cond.selects RX1 yX1_becomeLike yX1_becomeLike, Cond.code yX1_becomeLike cX1_becomeLike 3 none, Cond.fieldLink RX1 22 "CharmBracelets$NotedList" "length" "I", Cond.fieldLink RX1 11 "CharmBracelets$NotedList" "firsts" "[LCharmBracelets$Ring;", Cond.fieldLink RX1 17 "CharmBracelets$NotedList" "times" "[I", Cond.methodLink RX1 30 arraycopyName, Cond.instanceMethod yX2_differences, Cond.selects RX2 yX2_differences yX2_differences, Cond.code yX2_differences cX2_differences 5 (some .int), Cond.methodLink RX2 39 yX2_kindAfter, Cond.instanceMethod yX2_kindAfter, Cond.selects RX2 yX2_kindAfter yX2_kindAfter, Cond.code yX2_kindAfter cX2_kindAfter 4 (some .int), Cond.methodLink RX2 36 yX2_around, Cond.instanceMethod yX2_around, Cond.selects RX2 yX2_around yX2_around, Cond.code yX2_around cX2_around 2 (some .int), Cond.methodLink RX2 25 yX2_at, Cond.instanceMethod yX2_at, Cond.selects RX2 yX2_at yX2_at, Cond.code yX2_at cX2_at 2 (some .int), Cond.instanceMethod yX2_put, Cond.selects RX2 yX2_put yX2_put]
def wsX5_mirror_r4 : List Cond := [Cond.code yX2_put cX2_put 3 none]
def wsX5_mirror : List Cond := .code yX5_mirror cX5_mirror 3 (some .int) :: ((wsX5_mirror_r1 ++ (wsX5_mirror_r2 ++ (wsX5_mirror_r3 ++ wsX5_mirror_r4))) ++ wsX50 ++ wsX20 ++ wsX30 ++ wsX00 ++ wsX10)
def wsX5_bracelets : List Cond := .code yX5_bracelets cX5_bracelets 1 (some .int) :: ([.fieldLink RX5 10 "CharmBracelets" "now" "LCharmBracelets$State;", .instanceMethod yX3_ringSet, .initialized RX3, .selects RX3 yX3_ringSet yX3_ringSet, .code yX3_ringSet cX3_ringSet 3 (some .int), .fieldLink RX3 20 "CharmBracelets$State" "rings" "[LCharmBracelets$Ring;"] ++ wsX50 ++ wsX30 ++ wsX20)
def wsX5_bracelet_r1 : List Cond := [Cond.fieldLink RX5 10 "CharmBracelets" "now" "LCharmBracelets$State;", Cond.instanceMethod yX3_find, Cond.initialized RX3, Cond.selects RX3 yX3_find yX3_find, Cond.code yX3_find cX3_find 2 (some (.object "CharmBracelets$Ring")), Cond.fieldLink RX3 20 "CharmBracelets$State" "rings" "[LCharmBracelets$Ring;", Cond.instanceMethod yX2_charms, Cond.initialized RX2, Cond.selects RX2 yX2_charms yX2_charms, Cond.code yX2_charms cX2_charms 1 (some .int), Cond.fieldLink RX2 15 "CharmBracelets$Ring" "size" "I", Cond.methodLink RX2 33 yX2_charmsOf, Cond.instanceMethod yX2_charmsOf, Cond.selects RX2 yX2_charmsOf yX2_charmsOf, Cond.code yX2_charmsOf cX2_charmsOf 4 (some .int), Cond.methodLink RX2 25 yX2_at, Cond.instanceMethod yX2_at, Cond.selects RX2 yX2_at yX2_at, Cond.code yX2_at cX2_at 2 (some .int), Cond.fieldLink RX2 9 "CharmBracelets$Ring" "kinds" "[I", Cond.instanceMethod yX3_weight, Cond.selects RX3 yX3_weight yX3_weight, Cond.code yX3_weight cX3_weight 7 (some .int), Cond.fieldLink RX3 15 "CharmBracelets$State" "weights" "[I"]
def wsX5_bracelet_r2 : List Cond := [Cond.static yX5_isCharm, Cond.initialized RX5, Cond.code yX5_isCharm cX5_isCharm 1 (some .boolean), Cond.instanceMethod yX3_lean, Cond.selects RX3 yX3_lean yX3_lean, Cond.code yX3_lean cX3_lean 2 (some .int), Cond.methodLink RX3 86 Lib.Math.abs.name, Cond.static Lib.Math.abs.name, Cond.initialized "java/lang/Math", Cond.code Lib.Math.abs.name Lib.Math.abs.code 1 (some .int), Cond.methodLink RX3 82 yX3_quarterWeight, Cond.instanceMethod yX3_quarterWeight, Cond.selects RX3 yX3_quarterWeight yX3_quarterWeight, Cond.code yX3_quarterWeight cX3_quarterWeight 3 (some .int), Cond.methodLink RX3 78 yX3_weight]
def wsX5_bracelet : List Cond := .code yX5_bracelet cX5_bracelet 4 (some .int) :: ((wsX5_bracelet_r1 ++ wsX5_bracelet_r2) ++ wsX50 ++ wsX20 ++ wsX30)
def wsX5_slot : List Cond := .code yX5_slot cX5_slot 4 (some .int) :: ([.fieldLink RX5 10 "CharmBracelets" "now" "LCharmBracelets$State;", .instanceMethod yX3_find, .initialized RX3, .selects RX3 yX3_find yX3_find, .code yX3_find cX3_find 2 (some (.object "CharmBracelets$Ring")), .fieldLink RX3 20 "CharmBracelets$State" "rings" "[LCharmBracelets$Ring;", .instanceMethod yX2_hasSlot, .initialized RX2, .selects RX2 yX2_hasSlot yX2_hasSlot, .code yX2_hasSlot cX2_hasSlot 2 (some .boolean), .fieldLink RX2 15 "CharmBracelets$Ring" "size" "I", .instanceMethod yX2_at, .selects RX2 yX2_at yX2_at, .code yX2_at cX2_at 2 (some .int), .fieldLink RX2 9 "CharmBracelets$Ring" "kinds" "[I"] ++ wsX50 ++ wsX30 ++ wsX20)
def wsX5_quarter : List Cond := .code yX5_quarter cX5_quarter 4 (some .int) :: ([.fieldLink RX5 10 "CharmBracelets" "now" "LCharmBracelets$State;", .instanceMethod yX3_find, .initialized RX3, .selects RX3 yX3_find yX3_find, .code yX3_find cX3_find 2 (some (.object "CharmBracelets$Ring")), .fieldLink RX3 20 "CharmBracelets$State" "rings" "[LCharmBracelets$Ring;", .instanceMethod yX3_quarterWeight, .selects RX3 yX3_quarterWeight yX3_quarterWeight, .code yX3_quarterWeight cX3_quarterWeight 3 (some .int), .methodLink RX3 78 yX3_weight, .instanceMethod yX3_weight, .selects RX3 yX3_weight yX3_weight, .code yX3_weight cX3_weight 7 (some .int), .fieldLink RX3 15 "CharmBracelets$State" "weights" "[I", .instanceMethod yX2_at, .initialized RX2, .selects RX2 yX2_at yX2_at, .code yX2_at cX2_at 2 (some .int), .fieldLink RX2 9 "CharmBracelets$Ring" "kinds" "[I", .static yX5_isCharm, .initialized RX5, .code yX5_isCharm cX5_isCharm 1 (some .boolean)] ++ wsX50 ++ wsX30 ++ wsX20)
def wsX5_isLevel : List Cond := .code yX5_isLevel cX5_isLevel 1 (some .boolean) :: ([])
def wsX5_alike_r1 : List Cond := [Cond.fieldLink RX5 10 "CharmBracelets" "now" "LCharmBracelets$State;", Cond.instanceMethod yX3_find, Cond.initialized RX3, Cond.selects RX3 yX3_find yX3_find, Cond.code yX3_find cX3_find 2 (some (.object "CharmBracelets$Ring")), Cond.fieldLink RX3 20 "CharmBracelets$State" "rings" "[LCharmBracelets$Ring;", Cond.methodLink RX5 120 yX5_isLevel, Cond.static yX5_isLevel, Cond.initialized RX5, Cond.code yX5_isLevel cX5_isLevel 1 (some .boolean), Cond.instanceMethod yX2_isAlike, Cond.initialized RX2, Cond.selects RX2 yX2_isAlike yX2_isAlike, Cond.code yX2_isAlike cX2_isAlike 3 (some .boolean), Cond.fieldLink RX2 15 "CharmBracelets$Ring" "size" "I", Cond.methodLink RX2 59 yX2_leastDifferences, Cond.instanceMethod yX2_leastDifferences, Cond.selects RX2 yX2_leastDifferences yX2_leastDifferences, Cond.code yX2_leastDifferences cX2_leastDifferences 6 (some .int), Cond.methodLink RX2 54 Lib.Math.min.name, Cond.static Lib.Math.min.name, Cond.initialized "java/lang/Math", Cond.code Lib.Math.min.name Lib.Math.min.code 2 (some .int), Cond.static yX5_changeCount]
def wsX5_alike_r2 : List Cond := [Cond.code yX5_changeCount cX5_changeCount 2 (some .int), Cond.static yX5_changeAt, Cond.code yX5_changeAt cX5_changeAt 3 (some .int), Cond.methodLink RX2 50 yX2_differences, Cond.instanceMethod yX2_differences, Cond.selects RX2 yX2_differences yX2_differences, Cond.code yX2_differences cX2_differences 5 (some .int), Cond.methodLink RX2 39 yX2_kindAfter, Cond.instanceMethod yX2_kindAfter, Cond.selects RX2 yX2_kindAfter yX2_kindAfter, Cond.code yX2_kindAfter cX2_kindAfter 4 (some .int), Cond.methodLink RX2 36 yX2_around, Cond.instanceMethod yX2_around, Cond.selects RX2 yX2_around yX2_around, Cond.code yX2_around cX2_around 2 (some .int), Cond.methodLink RX2 25 yX2_at, Cond.instanceMethod yX2_at, Cond.selects RX2 yX2_at yX2_at, Cond.code yX2_at cX2_at 2 (some .int), Cond.fieldLink RX2 9 "CharmBracelets$Ring" "kinds" "[I"]
def wsX5_alike : List Cond := .code yX5_alike cX5_alike 6 (some .int) :: ((wsX5_alike_r1 ++ wsX5_alike_r2) ++ wsX50 ++ wsX30 ++ wsX20)
def wsX5_least_r1 : List Cond := [Cond.fieldLink RX5 10 "CharmBracelets" "now" "LCharmBracelets$State;", Cond.instanceMethod yX3_find, Cond.initialized RX3, Cond.selects RX3 yX3_find yX3_find, Cond.code yX3_find cX3_find 2 (some (.object "CharmBracelets$Ring")), Cond.fieldLink RX3 20 "CharmBracelets$State" "rings" "[LCharmBracelets$Ring;", Cond.instanceMethod yX2_hasSlot, Cond.initialized RX2, Cond.selects RX2 yX2_hasSlot yX2_hasSlot, Cond.code yX2_hasSlot cX2_hasSlot 2 (some .boolean), Cond.fieldLink RX2 15 "CharmBracelets$Ring" "size" "I", Cond.methodLink RX5 120 yX5_isLevel, Cond.static yX5_isLevel, Cond.initialized RX5, Cond.code yX5_isLevel cX5_isLevel 1 (some .boolean), Cond.instanceMethod yX2_leastChange, Cond.selects RX2 yX2_leastChange yX2_leastChange, Cond.code yX2_leastChange cX2_leastChange 6 (some .int), Cond.static yX5_changeCount, Cond.code yX5_changeCount cX5_changeCount 2 (some .int), Cond.static yX5_changeAt, Cond.code yX5_changeAt cX5_changeAt 3 (some .int), Cond.methodLink RX2 63 yX2_comesFirst, Cond.instanceMethod yX2_comesFirst]
def wsX5_least_r2 : List Cond := [Cond.selects RX2 yX2_comesFirst yX2_comesFirst, Cond.code yX2_comesFirst cX2_comesFirst 6 (some .boolean), Cond.methodLink RX2 39 yX2_kindAfter, Cond.instanceMethod yX2_kindAfter, Cond.selects RX2 yX2_kindAfter yX2_kindAfter, Cond.code yX2_kindAfter cX2_kindAfter 4 (some .int), Cond.methodLink RX2 36 yX2_around, Cond.instanceMethod yX2_around, Cond.selects RX2 yX2_around yX2_around, Cond.code yX2_around cX2_around 2 (some .int), Cond.methodLink RX2 25 yX2_at, Cond.instanceMethod yX2_at, Cond.selects RX2 yX2_at yX2_at, Cond.code yX2_at cX2_at 2 (some .int), Cond.fieldLink RX2 9 "CharmBracelets$Ring" "kinds" "[I"]
def wsX5_least : List Cond := .code yX5_least cX5_least 5 (some .int) :: ((wsX5_least_r1 ++ wsX5_least_r2) ++ wsX50 ++ wsX30 ++ wsX20)
def wsX5_orbit_r1 : List Cond := [Cond.fieldLink RX5 10 "CharmBracelets" "now" "LCharmBracelets$State;", Cond.instanceMethod yX3_find, Cond.initialized RX3, Cond.selects RX3 yX3_find yX3_find, Cond.code yX3_find cX3_find 2 (some (.object "CharmBracelets$Ring")), Cond.fieldLink RX3 20 "CharmBracelets$State" "rings" "[LCharmBracelets$Ring;", Cond.methodLink RX5 120 yX5_isLevel, Cond.static yX5_isLevel, Cond.initialized RX5, Cond.code yX5_isLevel cX5_isLevel 1 (some .boolean), Cond.instanceMethod yX2_differentRings, Cond.initialized RX2, Cond.selects RX2 yX2_differentRings yX2_differentRings, Cond.code yX2_differentRings cX2_differentRings 5 (some .int), Cond.fieldLink RX2 15 "CharmBracelets$Ring" "size" "I", Cond.static yX5_changeCount, Cond.code yX5_changeCount cX5_changeCount 2 (some .int), Cond.static yX5_changeAt, Cond.code yX5_changeAt cX5_changeAt 3 (some .int), Cond.methodLink RX2 50 yX2_differences, Cond.instanceMethod yX2_differences, Cond.selects RX2 yX2_differences yX2_differences, Cond.code yX2_differences cX2_differences 5 (some .int), Cond.methodLink RX2 39 yX2_kindAfter]
def wsX5_orbit_r2 : List Cond := [Cond.instanceMethod yX2_kindAfter, Cond.selects RX2 yX2_kindAfter yX2_kindAfter, Cond.code yX2_kindAfter cX2_kindAfter 4 (some .int), Cond.methodLink RX2 36 yX2_around, Cond.instanceMethod yX2_around, Cond.selects RX2 yX2_around yX2_around, Cond.code yX2_around cX2_around 2 (some .int), Cond.methodLink RX2 25 yX2_at, Cond.instanceMethod yX2_at, Cond.selects RX2 yX2_at yX2_at, Cond.code yX2_at cX2_at 2 (some .int), Cond.fieldLink RX2 9 "CharmBracelets$Ring" "kinds" "[I"]
def wsX5_orbit : List Cond := .code yX5_orbit cX5_orbit 4 (some .int) :: ((wsX5_orbit_r1 ++ wsX5_orbit_r2) ++ wsX50 ++ wsX30 ++ wsX20)
def wsX5_fixed_r1 : List Cond := [Cond.fieldLink RX5 10 "CharmBracelets" "now" "LCharmBracelets$State;", Cond.instanceMethod yX3_find, Cond.initialized RX3, Cond.selects RX3 yX3_find yX3_find, Cond.code yX3_find cX3_find 2 (some (.object "CharmBracelets$Ring")), Cond.fieldLink RX3 20 "CharmBracelets$State" "rings" "[LCharmBracelets$Ring;", Cond.methodLink RX5 102 yX5_changeAt, Cond.static yX5_changeAt, Cond.initialized RX5, Cond.code yX5_changeAt cX5_changeAt 3 (some .int), Cond.instanceMethod yX2_differences, Cond.initialized RX2, Cond.selects RX2 yX2_differences yX2_differences, Cond.code yX2_differences cX2_differences 5 (some .int), Cond.fieldLink RX2 15 "CharmBracelets$Ring" "size" "I", Cond.methodLink RX2 39 yX2_kindAfter, Cond.instanceMethod yX2_kindAfter, Cond.selects RX2 yX2_kindAfter yX2_kindAfter, Cond.code yX2_kindAfter cX2_kindAfter 4 (some .int), Cond.methodLink RX2 36 yX2_around, Cond.instanceMethod yX2_around, Cond.selects RX2 yX2_around yX2_around, Cond.code yX2_around cX2_around 2 (some .int), Cond.methodLink RX2 25 yX2_at]
def wsX5_fixed_r2 : List Cond := [Cond.instanceMethod yX2_at, Cond.selects RX2 yX2_at yX2_at, Cond.code yX2_at cX2_at 2 (some .int), Cond.fieldLink RX2 9 "CharmBracelets$Ring" "kinds" "[I"]
def wsX5_fixed : List Cond := .code yX5_fixed cX5_fixed 5 (some .int) :: ((wsX5_fixed_r1 ++ wsX5_fixed_r2) ++ wsX50 ++ wsX20 ++ wsX30)
def wsX5_distance_r1 : List Cond := [Cond.fieldLink RX5 10 "CharmBracelets" "now" "LCharmBracelets$State;", Cond.instanceMethod yX3_find, Cond.initialized RX3, Cond.selects RX3 yX3_find yX3_find, Cond.code yX3_find cX3_find 2 (some (.object "CharmBracelets$Ring")), Cond.fieldLink RX3 20 "CharmBracelets$State" "rings" "[LCharmBracelets$Ring;", Cond.instanceMethod yX2_leastDifferences, Cond.initialized RX2, Cond.selects RX2 yX2_leastDifferences yX2_leastDifferences, Cond.code yX2_leastDifferences cX2_leastDifferences 6 (some .int), Cond.fieldLink RX2 15 "CharmBracelets$Ring" "size" "I", Cond.methodLink RX2 54 Lib.Math.min.name, Cond.static Lib.Math.min.name, Cond.initialized "java/lang/Math", Cond.code Lib.Math.min.name Lib.Math.min.code 2 (some .int), Cond.static yX5_changeCount, Cond.initialized RX5, Cond.code yX5_changeCount cX5_changeCount 2 (some .int), Cond.static yX5_changeAt, Cond.code yX5_changeAt cX5_changeAt 3 (some .int), Cond.methodLink RX2 50 yX2_differences, Cond.instanceMethod yX2_differences, Cond.selects RX2 yX2_differences yX2_differences, Cond.code yX2_differences cX2_differences 5 (some .int)]
def wsX5_distance_r2 : List Cond := [Cond.methodLink RX2 39 yX2_kindAfter, Cond.instanceMethod yX2_kindAfter, Cond.selects RX2 yX2_kindAfter yX2_kindAfter, Cond.code yX2_kindAfter cX2_kindAfter 4 (some .int), Cond.methodLink RX2 36 yX2_around, Cond.instanceMethod yX2_around, Cond.selects RX2 yX2_around yX2_around, Cond.code yX2_around cX2_around 2 (some .int), Cond.methodLink RX2 25 yX2_at, Cond.instanceMethod yX2_at, Cond.selects RX2 yX2_at yX2_at, Cond.code yX2_at cX2_at 2 (some .int), Cond.fieldLink RX2 9 "CharmBracelets$Ring" "kinds" "[I"]
def wsX5_distance : List Cond := .code yX5_distance cX5_distance 5 (some .int) :: ((wsX5_distance_r1 ++ wsX5_distance_r2) ++ wsX50 ++ wsX20 ++ wsX30)
def wsJ6_bitCount_0f7a4 : List Cond := .code yJ6_bitCount_0f7a4 cJ6_bitCount_0f7a4 1 (some .int) :: ([.constant RJ6 265 (1431655765), .constant RJ6 266 (858993459), .constant RJ6 267 (252645135)])
def wsX5_setMotif_r1 : List Cond := [Cond.fieldLink RX5 10 "CharmBracelets" "now" "LCharmBracelets$State;", Cond.instanceMethod yX3_find, Cond.initialized RX3, Cond.selects RX3 yX3_find yX3_find, Cond.code yX3_find cX3_find 2 (some (.object "CharmBracelets$Ring")), Cond.fieldLink RX3 20 "CharmBracelets$State" "rings" "[LCharmBracelets$Ring;", Cond.instanceMethod yX2_hasSlot, Cond.initialized RX2, Cond.selects RX2 yX2_hasSlot yX2_hasSlot, Cond.code yX2_hasSlot cX2_hasSlot 2 (some .boolean), Cond.fieldLink RX2 15 "CharmBracelets$Ring" "size" "I", Cond.methodLink RX5 41 yX5_record, Cond.instanceMethod yX5_record, Cond.selects RX5 yX5_record yX5_record, Cond.initialized RX5, Cond.code yX5_record cX5_record 1 none, Cond.fieldLink RX5 231 "CharmBracelets" "recordedStates" "I", Cond.fieldLink RX5 19 "CharmBracelets" "recorded" "[LCharmBracelets$State;", Cond.methodLink RX5 241 yX5_discardOldest, Cond.instanceMethod yX5_discardOldest, Cond.selects RX5 yX5_discardOldest yX5_discardOldest, Cond.code yX5_discardOldest cX5_discardOldest 3 none, Cond.instanceMethod yX3_becomeLike, Cond.selects RX3 yX3_becomeLike yX3_becomeLike]
def wsX5_setMotif_r2 : List Cond := [Cond.code yX3_becomeLike cX3_becomeLike 3 none, Cond.fieldLink RX3 9 "CharmBracelets$State" "box" "[I", Cond.methodLink RX3 39 arraycopyName, Cond.native arraycopyName, Cond.static arraycopyName, Cond.initialized "java/lang/System", Cond.fieldLink RX3 15 "CharmBracelets$State" "weights" "[I", Cond.fieldLink RX3 27 "CharmBracelets$State" "motif" "LCharmBracelets$Motif;", Cond.fieldLink RX3 34 "CharmBracelets$State" "list" "LCharmBracelets$NotedList;", Cond.instanceMethod yX2_becomeLike, Cond.selects RX2 yX2_becomeLike yX2_becomeLike, Cond.code yX2_becomeLike cX2_becomeLike 2 none, Cond.fieldLink RX2 9 "CharmBracelets$Ring" "kinds" "[I", Cond.methodLink RX2 19 arraycopyName, Cond.instanceMethod yX0_becomeLike, Cond.initialized RX0, Cond.selects RX0 yX0_becomeLike yX0_becomeLike, Cond.code yX0_becomeLike cX0_becomeLike 2 none, Cond.fieldLink RX0 15 "CharmBracelets$Motif" "length" "I", Cond.fieldLink RX0 9 "CharmBracelets$Motif" "signs" "[I", Cond.methodLink RX0 19 arraycopyName, Cond.instanceMethod yX1_becomeLike, Cond.initialized RX1, Cond.selects RX1 yX1_becomeLike yX1_becomeLike]
def wsX5_setMotif_r3 : List Cond := [Cond.code yX1_becomeLike cX1_becomeLike 3 none, Cond.fieldLink RX1 22 "CharmBracelets$NotedList" "length" "I", Cond.fieldLink RX1 11 "CharmBracelets$NotedList" "firsts" "[LCharmBracelets$Ring;", Cond.fieldLink RX1 17 "CharmBracelets$NotedList" "times" "[I", Cond.methodLink RX1 30 arraycopyName, Cond.instanceMethod yX2_leastChange, Cond.selects RX2 yX2_leastChange yX2_leastChange, Cond.code yX2_leastChange cX2_leastChange 6 (some .int), Cond.static yX5_changeCount, Cond.code yX5_changeCount cX5_changeCount 2 (some .int), Cond.static yX5_changeAt, Cond.code yX5_changeAt cX5_changeAt 3 (some .int), Cond.methodLink RX2 63 yX2_comesFirst, Cond.instanceMethod yX2_comesFirst, Cond.selects RX2 yX2_comesFirst yX2_comesFirst, Cond.code yX2_comesFirst cX2_comesFirst 6 (some .boolean), Cond.methodLink RX2 39 yX2_kindAfter, Cond.instanceMethod yX2_kindAfter, Cond.selects RX2 yX2_kindAfter yX2_kindAfter, Cond.code yX2_kindAfter cX2_kindAfter 4 (some .int), Cond.methodLink RX2 36 yX2_around, Cond.instanceMethod yX2_around, Cond.selects RX2 yX2_around yX2_around, Cond.code yX2_around cX2_around 2 (some .int)]
def wsX5_setMotif_r4 : List Cond := [Cond.methodLink RX2 25 yX2_at, Cond.instanceMethod yX2_at, Cond.selects RX2 yX2_at yX2_at, Cond.code yX2_at cX2_at 2 (some .int), Cond.instanceMethod yX0_becomeNone, Cond.selects RX0 yX0_becomeNone yX0_becomeNone, Cond.code yX0_becomeNone cX0_becomeNone 1 none, Cond.instanceMethod yX0_addSign, Cond.selects RX0 yX0_addSign yX0_addSign, Cond.code yX0_addSign cX0_addSign 2 none, Cond.instanceMethod yX0_slotSet, Cond.selects RX0 yX0_slotSet yX0_slotSet, Cond.code yX0_slotSet cX0_slotSet 4 (some .int), Cond.methodLink RX0 30 yX0_isAt, Cond.instanceMethod yX0_isAt, Cond.selects RX0 yX0_isAt yX0_isAt, Cond.code yX0_isAt cX0_isAt 4 (some .boolean), Cond.methodLink RX5 174 yJ6_bitCount_0f7a4, Cond.static yJ6_bitCount_0f7a4, Cond.initialized RJ6, Cond.code yJ6_bitCount_0f7a4 cJ6_bitCount_0f7a4 1 (some .int), Cond.constant RJ6 265 (1431655765), Cond.constant RJ6 266 (858993459), Cond.constant RJ6 267 (252645135)]
def wsX5_setMotif : List Cond := .code yX5_setMotif cX5_setMotif 7 (some .int) :: ((wsX5_setMotif_r1 ++ (wsX5_setMotif_r2 ++ (wsX5_setMotif_r3 ++ wsX5_setMotif_r4))) ++ wsX50 ++ wsX20 ++ wsX30 ++ wsX00 ++ wsX10)
def wsX5_isKindOrEmpty : List Cond := .code yX5_isKindOrEmpty cX5_isKindOrEmpty 1 (some .boolean) :: ([.methodLink RX5 37 yX5_isCharm, .static yX5_isCharm, .initialized RX5, .code yX5_isCharm cX5_isCharm 1 (some .boolean)])
def wsX5_sign_r1 : List Cond := [Cond.fieldLink RX5 10 "CharmBracelets" "now" "LCharmBracelets$State;", Cond.methodLink RX5 182 yX5_isKindOrEmpty, Cond.static yX5_isKindOrEmpty, Cond.initialized RX5, Cond.code yX5_isKindOrEmpty cX5_isKindOrEmpty 1 (some .boolean), Cond.methodLink RX5 37 yX5_isCharm, Cond.static yX5_isCharm, Cond.code yX5_isCharm cX5_isCharm 1 (some .boolean), Cond.methodLink RX5 41 yX5_record, Cond.instanceMethod yX5_record, Cond.selects RX5 yX5_record yX5_record, Cond.code yX5_record cX5_record 1 none, Cond.fieldLink RX5 231 "CharmBracelets" "recordedStates" "I", Cond.fieldLink RX5 19 "CharmBracelets" "recorded" "[LCharmBracelets$State;", Cond.methodLink RX5 241 yX5_discardOldest, Cond.instanceMethod yX5_discardOldest, Cond.selects RX5 yX5_discardOldest yX5_discardOldest, Cond.code yX5_discardOldest cX5_discardOldest 3 none, Cond.instanceMethod yX3_becomeLike, Cond.initialized RX3, Cond.selects RX3 yX3_becomeLike yX3_becomeLike, Cond.code yX3_becomeLike cX3_becomeLike 3 none, Cond.fieldLink RX3 9 "CharmBracelets$State" "box" "[I", Cond.methodLink RX3 39 arraycopyName]
def wsX5_sign_r2 : List Cond := [Cond.native arraycopyName, Cond.static arraycopyName, Cond.initialized "java/lang/System", Cond.fieldLink RX3 15 "CharmBracelets$State" "weights" "[I", Cond.fieldLink RX3 20 "CharmBracelets$State" "rings" "[LCharmBracelets$Ring;", Cond.fieldLink RX3 27 "CharmBracelets$State" "motif" "LCharmBracelets$Motif;", Cond.fieldLink RX3 34 "CharmBracelets$State" "list" "LCharmBracelets$NotedList;", Cond.instanceMethod yX2_becomeLike, Cond.initialized RX2, Cond.selects RX2 yX2_becomeLike yX2_becomeLike, Cond.code yX2_becomeLike cX2_becomeLike 2 none, Cond.fieldLink RX2 15 "CharmBracelets$Ring" "size" "I", Cond.fieldLink RX2 9 "CharmBracelets$Ring" "kinds" "[I", Cond.methodLink RX2 19 arraycopyName, Cond.instanceMethod yX0_becomeLike, Cond.initialized RX0, Cond.selects RX0 yX0_becomeLike yX0_becomeLike, Cond.code yX0_becomeLike cX0_becomeLike 2 none, Cond.fieldLink RX0 15 "CharmBracelets$Motif" "length" "I", Cond.fieldLink RX0 9 "CharmBracelets$Motif" "signs" "[I", Cond.methodLink RX0 19 arraycopyName, Cond.instanceMethod yX1_becomeLike, Cond.initialized RX1, Cond.selects RX1 yX1_becomeLike yX1_becomeLike]
def wsX5_sign_r3 : List Cond := [Cond.code yX1_becomeLike cX1_becomeLike 3 none, Cond.fieldLink RX1 22 "CharmBracelets$NotedList" "length" "I", Cond.fieldLink RX1 11 "CharmBracelets$NotedList" "firsts" "[LCharmBracelets$Ring;", Cond.fieldLink RX1 17 "CharmBracelets$NotedList" "times" "[I", Cond.methodLink RX1 30 arraycopyName, Cond.instanceMethod yX0_addSign, Cond.selects RX0 yX0_addSign yX0_addSign, Cond.code yX0_addSign cX0_addSign 2 none]
def wsX5_sign : List Cond := .code yX5_sign cX5_sign 4 (some .int) :: ((wsX5_sign_r1 ++ (wsX5_sign_r2 ++ wsX5_sign_r3)) ++ wsX50 ++ wsX30 ++ wsX00 ++ wsX20 ++ wsX10)
def wsX5_cutMotif_r1 : List Cond := [Cond.fieldLink RX5 10 "CharmBracelets" "now" "LCharmBracelets$State;", Cond.methodLink RX5 41 yX5_record, Cond.instanceMethod yX5_record, Cond.selects RX5 yX5_record yX5_record, Cond.initialized RX5, Cond.code yX5_record cX5_record 1 none, Cond.fieldLink RX5 231 "CharmBracelets" "recordedStates" "I", Cond.fieldLink RX5 19 "CharmBracelets" "recorded" "[LCharmBracelets$State;", Cond.methodLink RX5 241 yX5_discardOldest, Cond.instanceMethod yX5_discardOldest, Cond.selects RX5 yX5_discardOldest yX5_discardOldest, Cond.code yX5_discardOldest cX5_discardOldest 3 none, Cond.instanceMethod yX3_becomeLike, Cond.initialized RX3, Cond.selects RX3 yX3_becomeLike yX3_becomeLike, Cond.code yX3_becomeLike cX3_becomeLike 3 none, Cond.fieldLink RX3 9 "CharmBracelets$State" "box" "[I", Cond.methodLink RX3 39 arraycopyName, Cond.native arraycopyName, Cond.static arraycopyName, Cond.initialized "java/lang/System", Cond.fieldLink RX3 15 "CharmBracelets$State" "weights" "[I", Cond.fieldLink RX3 20 "CharmBracelets$State" "rings" "[LCharmBracelets$Ring;", Cond.fieldLink RX3 27 "CharmBracelets$State" "motif" "LCharmBracelets$Motif;"]
def wsX5_cutMotif_r2 : List Cond := [Cond.fieldLink RX3 34 "CharmBracelets$State" "list" "LCharmBracelets$NotedList;", Cond.instanceMethod yX2_becomeLike, Cond.initialized RX2, Cond.selects RX2 yX2_becomeLike yX2_becomeLike, Cond.code yX2_becomeLike cX2_becomeLike 2 none, Cond.fieldLink RX2 15 "CharmBracelets$Ring" "size" "I", Cond.fieldLink RX2 9 "CharmBracelets$Ring" "kinds" "[I", Cond.methodLink RX2 19 arraycopyName, Cond.instanceMethod yX0_becomeLike, Cond.initialized RX0, Cond.selects RX0 yX0_becomeLike yX0_becomeLike, Cond.code yX0_becomeLike cX0_becomeLike 2 none, Cond.fieldLink RX0 15 "CharmBracelets$Motif" "length" "I", Cond.fieldLink RX0 9 "CharmBracelets$Motif" "signs" "[I", Cond.methodLink RX0 19 arraycopyName, Cond.instanceMethod yX1_becomeLike, Cond.initialized RX1, Cond.selects RX1 yX1_becomeLike yX1_becomeLike, Cond.code yX1_becomeLike cX1_becomeLike 3 none, Cond.fieldLink RX1 22 "CharmBracelets$NotedList" "length" "I", Cond.fieldLink RX1 11 "CharmBracelets$NotedList" "firsts" "[LCharmBracelets$Ring;", Cond.fieldLink RX1 17 "CharmBracelets$NotedList" "times" "[I", Cond.methodLink RX1 30 arraycopyName]
def wsX5_cutMotif : List Cond := .code yX5_cutMotif cX5_cutMotif 1 (some .int) :: ((wsX5_cutMotif_r1 ++ wsX5_cutMotif_r2) ++ wsX50 ++ wsX30 ++ wsX00 ++ wsX20 ++ wsX10)
def wsX5_motif : List Cond := .code yX5_motif cX5_motif 2 (some .int) :: ([.fieldLink RX5 10 "CharmBracelets" "now" "LCharmBracelets$State;"] ++ wsX50 ++ wsX30 ++ wsX00)
def wsX5_motifAt_r1 : List Cond := [Cond.fieldLink RX5 10 "CharmBracelets" "now" "LCharmBracelets$State;", Cond.instanceMethod yX3_find, Cond.initialized RX3, Cond.selects RX3 yX3_find yX3_find, Cond.code yX3_find cX3_find 2 (some (.object "CharmBracelets$Ring")), Cond.fieldLink RX3 20 "CharmBracelets$State" "rings" "[LCharmBracelets$Ring;", Cond.instanceMethod yX0_slotSet, Cond.initialized RX0, Cond.selects RX0 yX0_slotSet yX0_slotSet, Cond.code yX0_slotSet cX0_slotSet 4 (some .int), Cond.methodLink RX0 30 yX0_isAt, Cond.instanceMethod yX0_isAt, Cond.selects RX0 yX0_isAt yX0_isAt, Cond.code yX0_isAt cX0_isAt 4 (some .boolean), Cond.fieldLink RX0 15 "CharmBracelets$Motif" "length" "I", Cond.fieldLink RX0 9 "CharmBracelets$Motif" "signs" "[I", Cond.instanceMethod yX2_around, Cond.initialized RX2, Cond.selects RX2 yX2_around yX2_around, Cond.code yX2_around cX2_around 2 (some .int), Cond.fieldLink RX2 15 "CharmBracelets$Ring" "size" "I", Cond.instanceMethod yX2_at, Cond.selects RX2 yX2_at yX2_at, Cond.code yX2_at cX2_at 2 (some .int)]
def wsX5_motifAt_r2 : List Cond := [Cond.fieldLink RX2 9 "CharmBracelets$Ring" "kinds" "[I"]
def wsX5_motifAt : List Cond := .code yX5_motifAt cX5_motifAt 3 (some .int) :: ((wsX5_motifAt_r1 ++ wsX5_motifAt_r2) ++ wsX50 ++ wsX30 ++ wsX20 ++ wsX00)
def wsX5_staysAt_r1 : List Cond := [Cond.fieldLink RX5 10 "CharmBracelets" "now" "LCharmBracelets$State;", Cond.instanceMethod yX3_find, Cond.initialized RX3, Cond.selects RX3 yX3_find yX3_find, Cond.code yX3_find cX3_find 2 (some (.object "CharmBracelets$Ring")), Cond.fieldLink RX3 20 "CharmBracelets$State" "rings" "[LCharmBracelets$Ring;", Cond.instanceMethod yX0_slotSet, Cond.initialized RX0, Cond.selects RX0 yX0_slotSet yX0_slotSet, Cond.code yX0_slotSet cX0_slotSet 4 (some .int), Cond.methodLink RX0 30 yX0_isAt, Cond.instanceMethod yX0_isAt, Cond.selects RX0 yX0_isAt yX0_isAt, Cond.code yX0_isAt cX0_isAt 4 (some .boolean), Cond.fieldLink RX0 15 "CharmBracelets$Motif" "length" "I", Cond.fieldLink RX0 9 "CharmBracelets$Motif" "signs" "[I", Cond.instanceMethod yX2_around, Cond.initialized RX2, Cond.selects RX2 yX2_around yX2_around, Cond.code yX2_around cX2_around 2 (some .int), Cond.fieldLink RX2 15 "CharmBracelets$Ring" "size" "I", Cond.instanceMethod yX2_at, Cond.selects RX2 yX2_at yX2_at, Cond.code yX2_at cX2_at 2 (some .int)]
def wsX5_staysAt_r2 : List Cond := [Cond.fieldLink RX2 9 "CharmBracelets$Ring" "kinds" "[I", Cond.instanceMethod yX2_slotsTurnedInto, Cond.selects RX2 yX2_slotsTurnedInto yX2_slotsTurnedInto, Cond.code yX2_slotsTurnedInto cX2_slotsTurnedInto 6 (some .int), Cond.static yX5_changeAt, Cond.initialized RX5, Cond.code yX5_changeAt cX5_changeAt 3 (some .int), Cond.methodLink RX2 36 yX2_around]
def wsX5_staysAt : List Cond := .code yX5_staysAt cX5_staysAt 6 (some .int) :: ((wsX5_staysAt_r1 ++ wsX5_staysAt_r2) ++ wsX50 ++ wsX30 ++ wsX20 ++ wsX00)
def wsX5_note_r1 : List Cond := [Cond.fieldLink RX5 10 "CharmBracelets" "now" "LCharmBracelets$State;", Cond.instanceMethod yX3_find, Cond.initialized RX3, Cond.selects RX3 yX3_find yX3_find, Cond.code yX3_find cX3_find 2 (some (.object "CharmBracelets$Ring")), Cond.fieldLink RX3 20 "CharmBracelets$State" "rings" "[LCharmBracelets$Ring;", Cond.instanceMethod yX1_entryOf, Cond.initialized RX1, Cond.selects RX1 yX1_entryOf yX1_entryOf, Cond.code yX1_entryOf cX1_entryOf 3 (some .int), Cond.fieldLink RX1 22 "CharmBracelets$NotedList" "length" "I", Cond.fieldLink RX1 11 "CharmBracelets$NotedList" "firsts" "[LCharmBracelets$Ring;", Cond.instanceMethod yX2_isAlike, Cond.initialized RX2, Cond.selects RX2 yX2_isAlike yX2_isAlike, Cond.code yX2_isAlike cX2_isAlike 3 (some .boolean), Cond.fieldLink RX2 15 "CharmBracelets$Ring" "size" "I", Cond.methodLink RX2 59 yX2_leastDifferences, Cond.instanceMethod yX2_leastDifferences, Cond.selects RX2 yX2_leastDifferences yX2_leastDifferences, Cond.code yX2_leastDifferences cX2_leastDifferences 6 (some .int), Cond.methodLink RX2 54 Lib.Math.min.name, Cond.static Lib.Math.min.name, Cond.initialized "java/lang/Math"]
def wsX5_note_r2 : List Cond := [Cond.code Lib.Math.min.name Lib.Math.min.code 2 (some .int), Cond.static yX5_changeCount, Cond.initialized RX5, Cond.code yX5_changeCount cX5_changeCount 2 (some .int), Cond.static yX5_changeAt, Cond.code yX5_changeAt cX5_changeAt 3 (some .int), Cond.methodLink RX2 50 yX2_differences, Cond.instanceMethod yX2_differences, Cond.selects RX2 yX2_differences yX2_differences, Cond.code yX2_differences cX2_differences 5 (some .int), Cond.methodLink RX2 39 yX2_kindAfter, Cond.instanceMethod yX2_kindAfter, Cond.selects RX2 yX2_kindAfter yX2_kindAfter, Cond.code yX2_kindAfter cX2_kindAfter 4 (some .int), Cond.methodLink RX2 36 yX2_around, Cond.instanceMethod yX2_around, Cond.selects RX2 yX2_around yX2_around, Cond.code yX2_around cX2_around 2 (some .int), Cond.methodLink RX2 25 yX2_at, Cond.instanceMethod yX2_at, Cond.selects RX2 yX2_at yX2_at, Cond.code yX2_at cX2_at 2 (some .int), Cond.fieldLink RX2 9 "CharmBracelets$Ring" "kinds" "[I", Cond.methodLink RX5 41 yX5_record]
def wsX5_note_r3 : List Cond := [Cond.instanceMethod yX5_record, Cond.selects RX5 yX5_record yX5_record, Cond.code yX5_record cX5_record 1 none, Cond.fieldLink RX5 231 "CharmBracelets" "recordedStates" "I", Cond.fieldLink RX5 19 "CharmBracelets" "recorded" "[LCharmBracelets$State;", Cond.methodLink RX5 241 yX5_discardOldest, Cond.instanceMethod yX5_discardOldest, Cond.selects RX5 yX5_discardOldest yX5_discardOldest, Cond.code yX5_discardOldest cX5_discardOldest 3 none, Cond.instanceMethod yX3_becomeLike, Cond.selects RX3 yX3_becomeLike yX3_becomeLike, Cond.code yX3_becomeLike cX3_becomeLike 3 none, Cond.fieldLink RX3 9 "CharmBracelets$State" "box" "[I", Cond.methodLink RX3 39 arraycopyName, Cond.native arraycopyName, Cond.static arraycopyName, Cond.initialized "java/lang/System", Cond.fieldLink RX3 15 "CharmBracelets$State" "weights" "[I", Cond.fieldLink RX3 27 "CharmBracelets$State" "motif" "LCharmBracelets$Motif;", Cond.fieldLink RX3 34 "CharmBracelets$State" "list" "LCharmBracelets$NotedList;", Cond.instanceMethod yX2_becomeLike, Cond.selects RX2 yX2_becomeLike yX2_becomeLike, Cond.code yX2_becomeLike cX2_becomeLike 2 none, Cond.methodLink RX2 19 arraycopyName]
def wsX5_note_r4 : List Cond := [Cond.instanceMethod yX0_becomeLike, Cond.initialized RX0, Cond.selects RX0 yX0_becomeLike yX0_becomeLike, Cond.code yX0_becomeLike cX0_becomeLike 2 none, Cond.fieldLink RX0 15 "CharmBracelets$Motif" "length" "I", Cond.fieldLink RX0 9 "CharmBracelets$Motif" "signs" "[I", Cond.methodLink RX0 19 arraycopyName, Cond.instanceMethod yX1_becomeLike, Cond.selects RX1 yX1_becomeLike yX1_becomeLike, Cond.code yX1_becomeLike cX1_becomeLike 3 none, Cond.fieldLink RX1 17 "CharmBracelets$NotedList" "times" "[I", Cond.methodLink RX1 30 arraycopyName, Cond.instanceMethod yX1_count, Cond.selects RX1 yX1_count yX1_count, Cond.code yX1_count cX1_count 3 none]
def wsX5_note : List Cond := .code yX5_note cX5_note 4 (some .int) :: ((wsX5_note_r1 ++ (wsX5_note_r2 ++ (wsX5_note_r3 ++ wsX5_note_r4))) ++ wsX50 ++ wsX30 ++ wsX20 ++ wsX10 ++ wsX00)
def wsX5_entries : List Cond := .code yX5_entries cX5_entries 1 (some .int) :: ([.fieldLink RX5 10 "CharmBracelets" "now" "LCharmBracelets$State;"] ++ wsX50 ++ wsX30 ++ wsX10)
def wsX5_entry_r1 : List Cond := [Cond.fieldLink RX5 10 "CharmBracelets" "now" "LCharmBracelets$State;", Cond.instanceMethod yX3_ringsAlike, Cond.initialized RX3, Cond.selects RX3 yX3_ringsAlike yX3_ringsAlike, Cond.code yX3_ringsAlike cX3_ringsAlike 5 (some .int), Cond.fieldLink RX3 20 "CharmBracelets$State" "rings" "[LCharmBracelets$Ring;", Cond.instanceMethod yX2_isAlike, Cond.initialized RX2, Cond.selects RX2 yX2_isAlike yX2_isAlike, Cond.code yX2_isAlike cX2_isAlike 3 (some .boolean), Cond.fieldLink RX2 15 "CharmBracelets$Ring" "size" "I", Cond.methodLink RX2 59 yX2_leastDifferences, Cond.instanceMethod yX2_leastDifferences, Cond.selects RX2 yX2_leastDifferences yX2_leastDifferences, Cond.code yX2_leastDifferences cX2_leastDifferences 6 (some .int), Cond.methodLink RX2 54 Lib.Math.min.name, Cond.static Lib.Math.min.name, Cond.initialized "java/lang/Math", Cond.code Lib.Math.min.name Lib.Math.min.code 2 (some .int), Cond.static yX5_changeCount, Cond.initialized RX5, Cond.code yX5_changeCount cX5_changeCount 2 (some .int), Cond.static yX5_changeAt, Cond.code yX5_changeAt cX5_changeAt 3 (some .int)]
def wsX5_entry_r2 : List Cond := [Cond.methodLink RX2 50 yX2_differences, Cond.instanceMethod yX2_differences, Cond.selects RX2 yX2_differences yX2_differences, Cond.code yX2_differences cX2_differences 5 (some .int), Cond.methodLink RX2 39 yX2_kindAfter, Cond.instanceMethod yX2_kindAfter, Cond.selects RX2 yX2_kindAfter yX2_kindAfter, Cond.code yX2_kindAfter cX2_kindAfter 4 (some .int), Cond.methodLink RX2 36 yX2_around, Cond.instanceMethod yX2_around, Cond.selects RX2 yX2_around yX2_around, Cond.code yX2_around cX2_around 2 (some .int), Cond.methodLink RX2 25 yX2_at, Cond.instanceMethod yX2_at, Cond.selects RX2 yX2_at yX2_at, Cond.code yX2_at cX2_at 2 (some .int), Cond.fieldLink RX2 9 "CharmBracelets$Ring" "kinds" "[I"]
def wsX5_entry : List Cond := .code yX5_entry cX5_entry 4 (some .int) :: ((wsX5_entry_r1 ++ wsX5_entry_r2) ++ wsX50 ++ wsX30 ++ wsX10 ++ wsX20)
def wsX5_ifHung_r1 : List Cond := [Cond.fieldLink RX5 10 "CharmBracelets" "now" "LCharmBracelets$State;", Cond.fieldLink RX5 33 "CharmBracelets" "trial" "LCharmBracelets$Ring;", Cond.instanceMethod yX3_find, Cond.initialized RX3, Cond.selects RX3 yX3_find yX3_find, Cond.code yX3_find cX3_find 2 (some (.object "CharmBracelets$Ring")), Cond.fieldLink RX3 20 "CharmBracelets$State" "rings" "[LCharmBracelets$Ring;", Cond.instanceMethod yX2_hasSlot, Cond.initialized RX2, Cond.selects RX2 yX2_hasSlot yX2_hasSlot, Cond.code yX2_hasSlot cX2_hasSlot 2 (some .boolean), Cond.fieldLink RX2 15 "CharmBracelets$Ring" "size" "I", Cond.methodLink RX5 182 yX5_isKindOrEmpty, Cond.static yX5_isKindOrEmpty, Cond.initialized RX5, Cond.code yX5_isKindOrEmpty cX5_isKindOrEmpty 1 (some .boolean), Cond.methodLink RX5 37 yX5_isCharm, Cond.static yX5_isCharm, Cond.code yX5_isCharm cX5_isCharm 1 (some .boolean), Cond.instanceMethod yX2_becomeLike, Cond.selects RX2 yX2_becomeLike yX2_becomeLike, Cond.code yX2_becomeLike cX2_becomeLike 2 none, Cond.fieldLink RX2 9 "CharmBracelets$Ring" "kinds" "[I", Cond.methodLink RX2 19 arraycopyName]
def wsX5_ifHung_r2 : List Cond := [Cond.native arraycopyName, Cond.static arraycopyName, Cond.initialized "java/lang/System", Cond.instanceMethod yX2_put, Cond.selects RX2 yX2_put yX2_put, Cond.code yX2_put cX2_put 3 none, Cond.instanceMethod yX0_slotSet, Cond.initialized RX0, Cond.selects RX0 yX0_slotSet yX0_slotSet, Cond.code yX0_slotSet cX0_slotSet 4 (some .int), Cond.methodLink RX0 30 yX0_isAt, Cond.instanceMethod yX0_isAt, Cond.selects RX0 yX0_isAt yX0_isAt, Cond.code yX0_isAt cX0_isAt 4 (some .boolean), Cond.fieldLink RX0 15 "CharmBracelets$Motif" "length" "I", Cond.fieldLink RX0 9 "CharmBracelets$Motif" "signs" "[I", Cond.instanceMethod yX2_around, Cond.selects RX2 yX2_around yX2_around, Cond.code yX2_around cX2_around 2 (some .int), Cond.instanceMethod yX2_at, Cond.selects RX2 yX2_at yX2_at, Cond.code yX2_at cX2_at 2 (some .int), Cond.methodLink RX5 174 yJ6_bitCount_0f7a4, Cond.static yJ6_bitCount_0f7a4]
def wsX5_ifHung_r3 : List Cond := [Cond.initialized RJ6, Cond.code yJ6_bitCount_0f7a4 cJ6_bitCount_0f7a4 1 (some .int), Cond.constant RJ6 265 (1431655765), Cond.constant RJ6 266 (858993459), Cond.constant RJ6 267 (252645135)]
def wsX5_ifHung : List Cond := .code yX5_ifHung cX5_ifHung 5 (some .int) :: ((wsX5_ifHung_r1 ++ (wsX5_ifHung_r2 ++ wsX5_ifHung_r3)) ++ wsX50 ++ wsX30 ++ wsX20 ++ wsX00)
def wsX5_leanAfterSwap_r1 : List Cond := [Cond.fieldLink RX5 10 "CharmBracelets" "now" "LCharmBracelets$State;", Cond.instanceMethod yX2_exchange, Cond.initialized RX2, Cond.selects RX2 yX2_exchange yX2_exchange, Cond.code yX2_exchange cX2_exchange 4 none, Cond.methodLink RX2 25 yX2_at, Cond.instanceMethod yX2_at, Cond.selects RX2 yX2_at yX2_at, Cond.code yX2_at cX2_at 2 (some .int), Cond.fieldLink RX2 9 "CharmBracelets$Ring" "kinds" "[I", Cond.methodLink RX2 29 yX2_put, Cond.instanceMethod yX2_put, Cond.selects RX2 yX2_put yX2_put, Cond.code yX2_put cX2_put 3 none, Cond.instanceMethod yX3_lean, Cond.initialized RX3, Cond.selects RX3 yX3_lean yX3_lean, Cond.code yX3_lean cX3_lean 2 (some .int), Cond.methodLink RX3 86 Lib.Math.abs.name, Cond.static Lib.Math.abs.name, Cond.initialized "java/lang/Math", Cond.code Lib.Math.abs.name Lib.Math.abs.code 1 (some .int), Cond.methodLink RX3 82 yX3_quarterWeight, Cond.instanceMethod yX3_quarterWeight]
def wsX5_leanAfterSwap_r2 : List Cond := [Cond.selects RX3 yX3_quarterWeight yX3_quarterWeight, Cond.code yX3_quarterWeight cX3_quarterWeight 3 (some .int), Cond.methodLink RX3 78 yX3_weight, Cond.instanceMethod yX3_weight, Cond.selects RX3 yX3_weight yX3_weight, Cond.code yX3_weight cX3_weight 7 (some .int), Cond.fieldLink RX3 15 "CharmBracelets$State" "weights" "[I", Cond.static yX5_isCharm, Cond.initialized RX5, Cond.code yX5_isCharm cX5_isCharm 1 (some .boolean)]
def wsX5_leanAfterSwap : List Cond := .code yX5_leanAfterSwap cX5_leanAfterSwap 5 (some .int) :: ((wsX5_leanAfterSwap_r1 ++ wsX5_leanAfterSwap_r2) ++ wsX50 ++ wsX20 ++ wsX30)
def wsX5_bestSwap_r1 : List Cond := [Cond.fieldLink RX5 10 "CharmBracelets" "now" "LCharmBracelets$State;", Cond.fieldLink RX5 33 "CharmBracelets" "trial" "LCharmBracelets$Ring;", Cond.instanceMethod yX3_find, Cond.initialized RX3, Cond.selects RX3 yX3_find yX3_find, Cond.code yX3_find cX3_find 2 (some (.object "CharmBracelets$Ring")), Cond.fieldLink RX3 20 "CharmBracelets$State" "rings" "[LCharmBracelets$Ring;", Cond.instanceMethod yX2_becomeLike, Cond.initialized RX2, Cond.selects RX2 yX2_becomeLike yX2_becomeLike, Cond.code yX2_becomeLike cX2_becomeLike 2 none, Cond.fieldLink RX2 15 "CharmBracelets$Ring" "size" "I", Cond.fieldLink RX2 9 "CharmBracelets$Ring" "kinds" "[I", Cond.methodLink RX2 19 arraycopyName, Cond.native arraycopyName, Cond.static arraycopyName, Cond.initialized "java/lang/System", Cond.instanceMethod yX3_lean, Cond.selects RX3 yX3_lean yX3_lean, Cond.code yX3_lean cX3_lean 2 (some .int), Cond.methodLink RX3 86 Lib.Math.abs.name, Cond.static Lib.Math.abs.name, Cond.initialized "java/lang/Math", Cond.code Lib.Math.abs.name Lib.Math.abs.code 1 (some .int)]
def wsX5_bestSwap_r2 : List Cond := [Cond.methodLink RX3 82 yX3_quarterWeight, Cond.instanceMethod yX3_quarterWeight, Cond.selects RX3 yX3_quarterWeight yX3_quarterWeight, Cond.code yX3_quarterWeight cX3_quarterWeight 3 (some .int), Cond.methodLink RX3 78 yX3_weight, Cond.instanceMethod yX3_weight, Cond.selects RX3 yX3_weight yX3_weight, Cond.code yX3_weight cX3_weight 7 (some .int), Cond.fieldLink RX3 15 "CharmBracelets$State" "weights" "[I", Cond.instanceMethod yX2_at, Cond.selects RX2 yX2_at yX2_at, Cond.code yX2_at cX2_at 2 (some .int), Cond.static yX5_isCharm, Cond.initialized RX5, Cond.code yX5_isCharm cX5_isCharm 1 (some .boolean), Cond.methodLink RX5 218 yX5_leanAfterSwap, Cond.instanceMethod yX5_leanAfterSwap, Cond.selects RX5 yX5_leanAfterSwap yX5_leanAfterSwap, Cond.code yX5_leanAfterSwap cX5_leanAfterSwap 5 (some .int), Cond.instanceMethod yX2_exchange, Cond.selects RX2 yX2_exchange yX2_exchange, Cond.code yX2_exchange cX2_exchange 4 none, Cond.methodLink RX2 25 yX2_at, Cond.methodLink RX2 29 yX2_put]
def wsX5_bestSwap_r3 : List Cond := [Cond.instanceMethod yX2_put, Cond.selects RX2 yX2_put yX2_put, Cond.code yX2_put cX2_put 3 none]
def wsX5_bestSwap : List Cond := .code yX5_bestSwap cX5_bestSwap 8 (some .int) :: ((wsX5_bestSwap_r1 ++ (wsX5_bestSwap_r2 ++ wsX5_bestSwap_r3)) ++ wsX50 ++ wsX20 ++ wsX30)
def wsJ9_abs_0f7a4 : List Cond := .code yJ9_abs_0f7a4 cJ9_abs_0f7a4 1 (some .int) :: ([])
def wsJ9_min_7cf53 : List Cond := .code yJ9_min_7cf53 cJ9_min_7cf53 2 (some .int) :: ([])
theorem dX0_init_0 : decode cX0_init 0 = .ok (.aload_n 0, 1) := by decide +kernel
theorem dX0_init_1 : decode cX0_init 1 = .ok (.invokespecial 3, 3) := by decide +kernel
theorem dX0_init_4 : decode cX0_init 4 = .ok (.aload_n 0, 1) := by decide +kernel
theorem dX0_init_5 : decode cX0_init 5 = .ok (.bipush 6, 2) := by decide +kernel
theorem dX0_init_7 : decode cX0_init 7 = .ok (.newarray .int, 2) := by decide +kernel
theorem dX0_init_9 : decode cX0_init 9 = .ok (.putfield 9, 3) := by decide +kernel
theorem dX0_init_12 : decode cX0_init 12 = .ok (.return_, 1) := by decide +kernel
theorem dX0_becomeNone_0 : decode cX0_becomeNone 0 = .ok (.aload_n 0, 1) := by decide +kernel
theorem dX0_becomeNone_1 : decode cX0_becomeNone 1 = .ok (.iconst 0, 1) := by decide +kernel
theorem dX0_becomeNone_2 : decode cX0_becomeNone 2 = .ok (.putfield 15, 3) := by decide +kernel
theorem dX0_becomeNone_5 : decode cX0_becomeNone 5 = .ok (.return_, 1) := by decide +kernel
theorem dX0_becomeLike_0 : decode cX0_becomeLike 0 = .ok (.aload_n 0, 1) := by decide +kernel
theorem dX0_becomeLike_1 : decode cX0_becomeLike 1 = .ok (.aload_n 1, 1) := by decide +kernel
theorem dX0_becomeLike_2 : decode cX0_becomeLike 2 = .ok (.getfield 15, 3) := by decide +kernel
theorem dX0_becomeLike_5 : decode cX0_becomeLike 5 = .ok (.putfield 15, 3) := by decide +kernel
theorem dX0_becomeLike_8 : decode cX0_becomeLike 8 = .ok (.aload_n 1, 1) := by decide +kernel
theorem dX0_becomeLike_9 : decode cX0_becomeLike 9 = .ok (.getfield 9, 3) := by decide +kernel
theorem dX0_becomeLike_12 : decode cX0_becomeLike 12 = .ok (.iconst 0, 1) := by decide +kernel
theorem dX0_becomeLike_13 : decode cX0_becomeLike 13 = .ok (.aload_n 0, 1) := by decide +kernel
theorem dX0_becomeLike_14 : decode cX0_becomeLike 14 = .ok (.getfield 9, 3) := by decide +kernel
theorem dX0_becomeLike_17 : decode cX0_becomeLike 17 = .ok (.iconst 0, 1) := by decide +kernel
theorem dX0_becomeLike_18 : decode cX0_becomeLike 18 = .ok (.bipush 6, 2) := by decide +kernel
theorem dX0_becomeLike_20 : decode cX0_becomeLike 20 = .ok (.invokestatic 19, 3) := by decide +kernel
theorem dX0_becomeLike_23 : decode cX0_becomeLike 23 = .ok (.return_, 1) := by decide +kernel
theorem dX0_addSign_0 : decode cX0_addSign 0 = .ok (.aload_n 0, 1) := by decide +kernel
theorem dX0_addSign_1 : decode cX0_addSign 1 = .ok (.getfield 15, 3) := by decide +kernel
theorem dX0_addSign_4 : decode cX0_addSign 4 = .ok (.aload_n 0, 1) := by decide +kernel
theorem dX0_addSign_5 : decode cX0_addSign 5 = .ok (.getfield 9, 3) := by decide +kernel
theorem dX0_addSign_8 : decode cX0_addSign 8 = .ok (.arraylength, 1) := by decide +kernel
theorem dX0_addSign_9 : decode cX0_addSign 9 = .ok (.if_icmp .ge 23, 3) := by decide +kernel
theorem dX0_addSign_12 : decode cX0_addSign 12 = .ok (.aload_n 0, 1) := by decide +kernel
theorem dX0_addSign_13 : decode cX0_addSign 13 = .ok (.getfield 9, 3) := by decide +kernel
theorem dX0_addSign_16 : decode cX0_addSign 16 = .ok (.aload_n 0, 1) := by decide +kernel
theorem dX0_addSign_17 : decode cX0_addSign 17 = .ok (.getfield 15, 3) := by decide +kernel
theorem dX0_addSign_20 : decode cX0_addSign 20 = .ok (.iload_n 1, 1) := by decide +kernel
theorem dX0_addSign_21 : decode cX0_addSign 21 = .ok (.iastore, 1) := by decide +kernel
theorem dX0_addSign_22 : decode cX0_addSign 22 = .ok (.aload_n 0, 1) := by decide +kernel
theorem dX0_addSign_23 : decode cX0_addSign 23 = .ok (.dup, 1) := by decide +kernel
theorem dX0_addSign_24 : decode cX0_addSign 24 = .ok (.getfield 15, 3) := by decide +kernel
theorem dX0_addSign_27 : decode cX0_addSign 27 = .ok (.iconst 1, 1) := by decide +kernel
theorem dX0_addSign_28 : decode cX0_addSign 28 = .ok (.iadd, 1) := by decide +kernel
theorem dX0_addSign_29 : decode cX0_addSign 29 = .ok (.putfield 15, 3) := by decide +kernel
theorem dX0_addSign_32 : decode cX0_addSign 32 = .ok (.return_, 1) := by decide +kernel
set_option maxRecDepth 20000 in
theorem ggX0_slotSet_X0_isAt : GoodIn wsX0_slotSet wsX0_isAt := goodIn_r _ [5, 6, 7, 8, 9, 10, 11, 12, 13, 14, 15, 16, 19, 20, 17, 18] (by decide +kernel) (by decide +kernel)
set_option maxRecDepth 20000 in
theorem gX0_slotSet_X0_isAt : GoodIn wsX0_slotSet (wsV RX0 30 RX0 yX0_isAt wsX0_isAt) := goodIn_app (goodIn_of _ (by decide +kernel)) ggX0_slotSet_X0_isAt
theorem dX0_slotSet_0 : decode cX0_slotSet 0 = .ok (.iconst 0, 1) := by decide +kernel
theorem dX0_slotSet_1 : decode cX0_slotSet 1 = .ok (.istore_n 2, 1) := by decide +kernel
theorem dX0_slotSet_2 : decode cX0_slotSet 2 = .ok (.iconst 0, 1) := by decide +kernel
theorem dX0_slotSet_3 : decode cX0_slotSet 3 = .ok (.istore_n 3, 1) := by decide +kernel
theorem dX0_slotSet_4 : decode cX0_slotSet 4 = .ok (.iload_n 3, 1) := by decide +kernel
theorem dX0_slotSet_5 : decode cX0_slotSet 5 = .ok (.aload_n 1, 1) := by decide +kernel
theorem dX0_slotSet_6 : decode cX0_slotSet 6 = .ok (.getfield 25, 3) := by decide +kernel
theorem dX0_slotSet_9 : decode cX0_slotSet 9 = .ok (.if_icmp .ge 24, 3) := by decide +kernel
theorem dX0_slotSet_12 : decode cX0_slotSet 12 = .ok (.aload_n 0, 1) := by decide +kernel
theorem dX0_slotSet_13 : decode cX0_slotSet 13 = .ok (.aload_n 1, 1) := by decide +kernel
theorem dX0_slotSet_14 : decode cX0_slotSet 14 = .ok (.iload_n 3, 1) := by decide +kernel
theorem dX0_slotSet_15 : decode cX0_slotSet 15 = .ok (.invokevirtual 30, 3) := by decide +kernel
theorem dX0_slotSet_18 : decode cX0_slotSet 18 = .ok (.ifCond .eq 9, 3) := by decide +kernel
theorem dX0_slotSet_21 : decode cX0_slotSet 21 = .ok (.iload_n 2, 1) := by decide +kernel
theorem dX0_slotSet_22 : decode cX0_slotSet 22 = .ok (.iconst 1, 1) := by decide +kernel
theorem dX0_slotSet_23 : decode cX0_slotSet 23 = .ok (.iload_n 3, 1) := by decide +kernel
theorem dX0_slotSet_24 : decode cX0_slotSet 24 = .ok (.ishl, 1) := by decide +kernel
theorem dX0_slotSet_25 : decode cX0_slotSet 25 = .ok (.ior, 1) := by decide +kernel
theorem dX0_slotSet_26 : decode cX0_slotSet 26 = .ok (.istore_n 2, 1) := by decide +kernel
theorem dX0_slotSet_27 : decode cX0_slotSet 27 = .ok (.iinc 3 1, 3) := by decide +kernel
theorem dX0_slotSet_30 : decode cX0_slotSet 30 = .ok (.goto (-26), 3) := by decide +kernel
theorem dX0_slotSet_33 : decode cX0_slotSet 33 = .ok (.iload_n 2, 1) := by decide +kernel
theorem dX0_slotSet_34 : decode cX0_slotSet 34 = .ok (.ireturn, 1) := by decide +kernel
set_option maxRecDepth 20000 in
theorem ggX0_isAt_X2_around : GoodIn wsX0_isAt wsX2_around := goodIn_r _ [6, 7, 14, 15] (by decide +kernel) (by decide +kernel)
set_option maxRecDepth 20000 in
theorem gX0_isAt_X2_around_n34 : GoodIn wsX0_isAt (wsX2_around) := ggX0_isAt_X2_around
set_option maxRecDepth 20000 in
theorem ggX0_isAt_X2_at : GoodIn wsX0_isAt wsX2_at := goodIn_r _ [10, 11, 14, 15] (by decide +kernel) (by decide +kernel)
set_option maxRecDepth 20000 in
theorem gX0_isAt_X2_at_n38 : GoodIn wsX0_isAt (wsX2_at) := ggX0_isAt_X2_at
theorem dX0_isAt_0 : decode cX0_isAt 0 = .ok (.aload_n 0, 1) := by decide +kernel
theorem dX0_isAt_1 : decode cX0_isAt 1 = .ok (.getfield 15, 3) := by decide +kernel
theorem dX0_isAt_4 : decode cX0_isAt 4 = .ok (.iconst 1, 1) := by decide +kernel
theorem dX0_isAt_5 : decode cX0_isAt 5 = .ok (.if_icmp .lt 14, 3) := by decide +kernel
theorem dX0_isAt_8 : decode cX0_isAt 8 = .ok (.aload_n 0, 1) := by decide +kernel
theorem dX0_isAt_9 : decode cX0_isAt 9 = .ok (.getfield 15, 3) := by decide +kernel
theorem dX0_isAt_12 : decode cX0_isAt 12 = .ok (.aload_n 1, 1) := by decide +kernel
theorem dX0_isAt_13 : decode cX0_isAt 13 = .ok (.getfield 25, 3) := by decide +kernel
theorem dX0_isAt_16 : decode cX0_isAt 16 = .ok (.if_icmp .le 5, 3) := by decide +kernel
theorem dX0_isAt_19 : decode cX0_isAt 19 = .ok (.iconst 0, 1) := by decide +kernel
theorem dX0_isAt_20 : decode cX0_isAt 20 = .ok (.ireturn, 1) := by decide +kernel
theorem dX0_isAt_21 : decode cX0_isAt 21 = .ok (.iconst 0, 1) := by decide +kernel
theorem dX0_isAt_22 : decode cX0_isAt 22 = .ok (.istore_n 3, 1) := by decide +kernel
theorem dX0_isAt_23 : decode cX0_isAt 23 = .ok (.iload_n 3, 1) := by decide +kernel
theorem dX0_isAt_24 : decode cX0_isAt 24 = .ok (.aload_n 0, 1) := by decide +kernel
theorem dX0_isAt_25 : decode cX0_isAt 25 = .ok (.getfield 15, 3) := by decide +kernel
theorem dX0_isAt_28 : decode cX0_isAt 28 = .ok (.if_icmp .ge 51, 3) := by decide +kernel
theorem dX0_isAt_31 : decode cX0_isAt 31 = .ok (.iload_n 3, 1) := by decide +kernel
theorem dX0_isAt_32 : decode cX0_isAt 32 = .ok (.aload_n 0, 1) := by decide +kernel
theorem dX0_isAt_33 : decode cX0_isAt 33 = .ok (.getfield 9, 3) := by decide +kernel
theorem dX0_isAt_36 : decode cX0_isAt 36 = .ok (.arraylength, 1) := by decide +kernel
theorem dX0_isAt_37 : decode cX0_isAt 37 = .ok (.if_icmp .ge 42, 3) := by decide +kernel
theorem dX0_isAt_40 : decode cX0_isAt 40 = .ok (.aload_n 0, 1) := by decide +kernel
theorem dX0_isAt_41 : decode cX0_isAt 41 = .ok (.getfield 9, 3) := by decide +kernel
theorem dX0_isAt_44 : decode cX0_isAt 44 = .ok (.iload_n 3, 1) := by decide +kernel
theorem dX0_isAt_45 : decode cX0_isAt 45 = .ok (.iaload, 1) := by decide +kernel
theorem dX0_isAt_46 : decode cX0_isAt 46 = .ok (.bipush 9, 2) := by decide +kernel
theorem dX0_isAt_48 : decode cX0_isAt 48 = .ok (.if_icmp .eq 25, 3) := by decide +kernel
theorem dX0_isAt_51 : decode cX0_isAt 51 = .ok (.aload_n 0, 1) := by decide +kernel
theorem dX0_isAt_52 : decode cX0_isAt 52 = .ok (.getfield 9, 3) := by decide +kernel
theorem dX0_isAt_55 : decode cX0_isAt 55 = .ok (.iload_n 3, 1) := by decide +kernel
theorem dX0_isAt_56 : decode cX0_isAt 56 = .ok (.iaload, 1) := by decide +kernel
theorem dX0_isAt_57 : decode cX0_isAt 57 = .ok (.aload_n 1, 1) := by decide +kernel
theorem dX0_isAt_58 : decode cX0_isAt 58 = .ok (.aload_n 1, 1) := by decide +kernel
theorem dX0_isAt_59 : decode cX0_isAt 59 = .ok (.iload_n 2, 1) := by decide +kernel
theorem dX0_isAt_60 : decode cX0_isAt 60 = .ok (.iload_n 3, 1) := by decide +kernel
theorem dX0_isAt_61 : decode cX0_isAt 61 = .ok (.iadd, 1) := by decide +kernel
theorem dX0_isAt_62 : decode cX0_isAt 62 = .ok (.invokevirtual 34, 3) := by decide +kernel
theorem dX0_isAt_65 : decode cX0_isAt 65 = .ok (.invokevirtual 38, 3) := by decide +kernel
theorem dX0_isAt_68 : decode cX0_isAt 68 = .ok (.if_icmp .eq 5, 3) := by decide +kernel
theorem dX0_isAt_71 : decode cX0_isAt 71 = .ok (.iconst 0, 1) := by decide +kernel
theorem dX0_isAt_72 : decode cX0_isAt 72 = .ok (.ireturn, 1) := by decide +kernel
theorem dX0_isAt_73 : decode cX0_isAt 73 = .ok (.iinc 3 1, 3) := by decide +kernel
theorem dX0_isAt_76 : decode cX0_isAt 76 = .ok (.goto (-53), 3) := by decide +kernel
theorem dX0_isAt_79 : decode cX0_isAt 79 = .ok (.iconst 1, 1) := by decide +kernel
theorem dX0_isAt_80 : decode cX0_isAt 80 = .ok (.ireturn, 1) := by decide +kernel
set_option maxRecDepth 20000 in
theorem ggX1_init_X2_init : GoodIn wsX1_init wsX2_init := goodIn_r _ [11, 12, 2, 3, 6, 13, 17, 18] (by decide +kernel) (by decide +kernel)
set_option maxRecDepth 20000 in
theorem gX1_init_X2_init_n21 : GoodIn wsX1_init (wsX2_init) := ggX1_init_X2_init
theorem dX1_init_0 : decode cX1_init 0 = .ok (.aload_n 0, 1) := by decide +kernel
theorem dX1_init_1 : decode cX1_init 1 = .ok (.invokespecial 3, 3) := by decide +kernel
theorem dX1_init_4 : decode cX1_init 4 = .ok (.aload_n 0, 1) := by decide +kernel
theorem dX1_init_5 : decode cX1_init 5 = .ok (.bipush 10, 2) := by decide +kernel
theorem dX1_init_7 : decode cX1_init 7 = .ok (.anewarray 9, 3) := by decide +kernel
theorem dX1_init_10 : decode cX1_init 10 = .ok (.putfield 11, 3) := by decide +kernel
theorem dX1_init_13 : decode cX1_init 13 = .ok (.aload_n 0, 1) := by decide +kernel
theorem dX1_init_14 : decode cX1_init 14 = .ok (.bipush 10, 2) := by decide +kernel
theorem dX1_init_16 : decode cX1_init 16 = .ok (.newarray .int, 2) := by decide +kernel
theorem dX1_init_18 : decode cX1_init 18 = .ok (.putfield 17, 3) := by decide +kernel
theorem dX1_init_21 : decode cX1_init 21 = .ok (.iconst 0, 1) := by decide +kernel
theorem dX1_init_22 : decode cX1_init 22 = .ok (.istore_n 1, 1) := by decide +kernel
theorem dX1_init_23 : decode cX1_init 23 = .ok (.iload_n 1, 1) := by decide +kernel
theorem dX1_init_24 : decode cX1_init 24 = .ok (.aload_n 0, 1) := by decide +kernel
theorem dX1_init_25 : decode cX1_init 25 = .ok (.getfield 11, 3) := by decide +kernel
theorem dX1_init_28 : decode cX1_init 28 = .ok (.arraylength, 1) := by decide +kernel
theorem dX1_init_29 : decode cX1_init 29 = .ok (.if_icmp .ge 22, 3) := by decide +kernel
theorem dX1_init_32 : decode cX1_init 32 = .ok (.aload_n 0, 1) := by decide +kernel
theorem dX1_init_33 : decode cX1_init 33 = .ok (.getfield 11, 3) := by decide +kernel
theorem dX1_init_36 : decode cX1_init 36 = .ok (.iload_n 1, 1) := by decide +kernel
theorem dX1_init_37 : decode cX1_init 37 = .ok (.new 9, 3) := by decide +kernel
theorem dX1_init_40 : decode cX1_init 40 = .ok (.dup, 1) := by decide +kernel
theorem dX1_init_41 : decode cX1_init 41 = .ok (.invokespecial 21, 3) := by decide +kernel
theorem dX1_init_44 : decode cX1_init 44 = .ok (.aastore, 1) := by decide +kernel
theorem dX1_init_45 : decode cX1_init 45 = .ok (.iinc 1 1, 3) := by decide +kernel
theorem dX1_init_48 : decode cX1_init 48 = .ok (.goto (-25), 3) := by decide +kernel
theorem dX1_init_51 : decode cX1_init 51 = .ok (.return_, 1) := by decide +kernel
set_option maxRecDepth 20000 in
theorem ggX1_becomeLike_X2_becomeLike : GoodIn wsX1_becomeLike wsX2_becomeLike := goodIn_r _ [11, 12, 13, 14, 5, 6, 7, 18, 19] (by decide +kernel) (by decide +kernel)
set_option maxRecDepth 20000 in
theorem gX1_becomeLike_X2_becomeLike_n26 : GoodIn wsX1_becomeLike (wsX2_becomeLike) := ggX1_becomeLike_X2_becomeLike
theorem dX1_becomeLike_0 : decode cX1_becomeLike 0 = .ok (.aload_n 0, 1) := by decide +kernel
theorem dX1_becomeLike_1 : decode cX1_becomeLike 1 = .ok (.aload_n 1, 1) := by decide +kernel
theorem dX1_becomeLike_2 : decode cX1_becomeLike 2 = .ok (.getfield 22, 3) := by decide +kernel
theorem dX1_becomeLike_5 : decode cX1_becomeLike 5 = .ok (.putfield 22, 3) := by decide +kernel
theorem dX1_becomeLike_8 : decode cX1_becomeLike 8 = .ok (.iconst 0, 1) := by decide +kernel
theorem dX1_becomeLike_9 : decode cX1_becomeLike 9 = .ok (.istore_n 2, 1) := by decide +kernel
theorem dX1_becomeLike_10 : decode cX1_becomeLike 10 = .ok (.iload_n 2, 1) := by decide +kernel
theorem dX1_becomeLike_11 : decode cX1_becomeLike 11 = .ok (.aload_n 0, 1) := by decide +kernel
theorem dX1_becomeLike_12 : decode cX1_becomeLike 12 = .ok (.getfield 11, 3) := by decide +kernel
theorem dX1_becomeLike_15 : decode cX1_becomeLike 15 = .ok (.arraylength, 1) := by decide +kernel
theorem dX1_becomeLike_16 : decode cX1_becomeLike 16 = .ok (.if_icmp .ge 24, 3) := by decide +kernel
theorem dX1_becomeLike_19 : decode cX1_becomeLike 19 = .ok (.aload_n 0, 1) := by decide +kernel
theorem dX1_becomeLike_20 : decode cX1_becomeLike 20 = .ok (.getfield 11, 3) := by decide +kernel
theorem dX1_becomeLike_23 : decode cX1_becomeLike 23 = .ok (.iload_n 2, 1) := by decide +kernel
theorem dX1_becomeLike_24 : decode cX1_becomeLike 24 = .ok (.aaload, 1) := by decide +kernel
theorem dX1_becomeLike_25 : decode cX1_becomeLike 25 = .ok (.aload_n 1, 1) := by decide +kernel
theorem dX1_becomeLike_26 : decode cX1_becomeLike 26 = .ok (.getfield 11, 3) := by decide +kernel
theorem dX1_becomeLike_29 : decode cX1_becomeLike 29 = .ok (.iload_n 2, 1) := by decide +kernel
theorem dX1_becomeLike_30 : decode cX1_becomeLike 30 = .ok (.aaload, 1) := by decide +kernel
theorem dX1_becomeLike_31 : decode cX1_becomeLike 31 = .ok (.invokevirtual 26, 3) := by decide +kernel
theorem dX1_becomeLike_34 : decode cX1_becomeLike 34 = .ok (.iinc 2 1, 3) := by decide +kernel
theorem dX1_becomeLike_37 : decode cX1_becomeLike 37 = .ok (.goto (-27), 3) := by decide +kernel
theorem dX1_becomeLike_40 : decode cX1_becomeLike 40 = .ok (.aload_n 1, 1) := by decide +kernel
theorem dX1_becomeLike_41 : decode cX1_becomeLike 41 = .ok (.getfield 17, 3) := by decide +kernel
theorem dX1_becomeLike_44 : decode cX1_becomeLike 44 = .ok (.iconst 0, 1) := by decide +kernel
theorem dX1_becomeLike_45 : decode cX1_becomeLike 45 = .ok (.aload_n 0, 1) := by decide +kernel
theorem dX1_becomeLike_46 : decode cX1_becomeLike 46 = .ok (.getfield 17, 3) := by decide +kernel
theorem dX1_becomeLike_49 : decode cX1_becomeLike 49 = .ok (.iconst 0, 1) := by decide +kernel
theorem dX1_becomeLike_50 : decode cX1_becomeLike 50 = .ok (.bipush 10, 2) := by decide +kernel
theorem dX1_becomeLike_52 : decode cX1_becomeLike 52 = .ok (.invokestatic 30, 3) := by decide +kernel
theorem dX1_becomeLike_55 : decode cX1_becomeLike 55 = .ok (.return_, 1) := by decide +kernel
set_option maxRecDepth 20000 in
theorem ggX1_entryOf_X2_isAlike : GoodIn wsX1_entryOf wsX2_isAlike := goodIn_r _ [6, 7, 8, 9, 10, 4, 11, 12, 13, 14, 15, 16, 17, 18, 19, 20, 21, 22, 23, 24, 25, 26, 27, 28, 29, 30, 31, 32, 33, 34, 35, 36, 37, 41, 42] (by decide +kernel) (by decide +kernel)
set_option maxRecDepth 20000 in
theorem gX1_entryOf_X2_isAlike_n36 : GoodIn wsX1_entryOf (wsX2_isAlike) := ggX1_entryOf_X2_isAlike
theorem dX1_entryOf_0 : decode cX1_entryOf 0 = .ok (.iconst 0, 1) := by decide +kernel
theorem dX1_entryOf_1 : decode cX1_entryOf 1 = .ok (.istore_n 2, 1) := by decide +kernel
theorem dX1_entryOf_2 : decode cX1_entryOf 2 = .ok (.iload_n 2, 1) := by decide +kernel
theorem dX1_entryOf_3 : decode cX1_entryOf 3 = .ok (.aload_n 0, 1) := by decide +kernel
theorem dX1_entryOf_4 : decode cX1_entryOf 4 = .ok (.getfield 22, 3) := by decide +kernel
theorem dX1_entryOf_7 : decode cX1_entryOf 7 = .ok (.if_icmp .ge 34, 3) := by decide +kernel
theorem dX1_entryOf_10 : decode cX1_entryOf 10 = .ok (.iload_n 2, 1) := by decide +kernel
theorem dX1_entryOf_11 : decode cX1_entryOf 11 = .ok (.aload_n 0, 1) := by decide +kernel
theorem dX1_entryOf_12 : decode cX1_entryOf 12 = .ok (.getfield 11, 3) := by decide +kernel
theorem dX1_entryOf_15 : decode cX1_entryOf 15 = .ok (.arraylength, 1) := by decide +kernel
theorem dX1_entryOf_16 : decode cX1_entryOf 16 = .ok (.if_icmp .ge 25, 3) := by decide +kernel
theorem dX1_entryOf_19 : decode cX1_entryOf 19 = .ok (.aload_n 0, 1) := by decide +kernel
theorem dX1_entryOf_20 : decode cX1_entryOf 20 = .ok (.getfield 11, 3) := by decide +kernel
theorem dX1_entryOf_23 : decode cX1_entryOf 23 = .ok (.iload_n 2, 1) := by decide +kernel
theorem dX1_entryOf_24 : decode cX1_entryOf 24 = .ok (.aaload, 1) := by decide +kernel
theorem dX1_entryOf_25 : decode cX1_entryOf 25 = .ok (.aload_n 1, 1) := by decide +kernel
theorem dX1_entryOf_26 : decode cX1_entryOf 26 = .ok (.iconst 1, 1) := by decide +kernel
theorem dX1_entryOf_27 : decode cX1_entryOf 27 = .ok (.invokevirtual 36, 3) := by decide +kernel
theorem dX1_entryOf_30 : decode cX1_entryOf 30 = .ok (.ifCond .eq 5, 3) := by decide +kernel
theorem dX1_entryOf_33 : decode cX1_entryOf 33 = .ok (.iload_n 2, 1) := by decide +kernel
theorem dX1_entryOf_34 : decode cX1_entryOf 34 = .ok (.ireturn, 1) := by decide +kernel
theorem dX1_entryOf_35 : decode cX1_entryOf 35 = .ok (.iinc 2 1, 3) := by decide +kernel
theorem dX1_entryOf_38 : decode cX1_entryOf 38 = .ok (.goto (-36), 3) := by decide +kernel
theorem dX1_entryOf_41 : decode cX1_entryOf 41 = .ok (.aload_n 0, 1) := by decide +kernel
theorem dX1_entryOf_42 : decode cX1_entryOf 42 = .ok (.getfield 22, 3) := by decide +kernel
theorem dX1_entryOf_45 : decode cX1_entryOf 45 = .ok (.ireturn, 1) := by decide +kernel
set_option maxRecDepth 20000 in
theorem ggX1_count_X2_becomeLike : GoodIn wsX1_count wsX2_becomeLike := goodIn_r _ [7, 8, 9, 10, 11, 12, 13, 17, 18] (by decide +kernel) (by decide +kernel)
set_option maxRecDepth 20000 in
theorem gX1_count_X2_becomeLike_n26 : GoodIn wsX1_count (wsX2_becomeLike) := ggX1_count_X2_becomeLike
theorem dX1_count_0 : decode cX1_count 0 = .ok (.iload_n 1, 1) := by decide +kernel
theorem dX1_count_1 : decode cX1_count 1 = .ok (.ifCond .lt 12, 3) := by decide +kernel
theorem dX1_count_4 : decode cX1_count 4 = .ok (.iload_n 1, 1) := by decide +kernel
theorem dX1_count_5 : decode cX1_count 5 = .ok (.aload_n 0, 1) := by decide +kernel
theorem dX1_count_6 : decode cX1_count 6 = .ok (.getfield 11, 3) := by decide +kernel
theorem dX1_count_9 : decode cX1_count 9 = .ok (.arraylength, 1) := by decide +kernel
theorem dX1_count_10 : decode cX1_count 10 = .ok (.if_icmp .lt 4, 3) := by decide +kernel
theorem dX1_count_13 : decode cX1_count 13 = .ok (.return_, 1) := by decide +kernel
theorem dX1_count_14 : decode cX1_count 14 = .ok (.iload_n 1, 1) := by decide +kernel
theorem dX1_count_15 : decode cX1_count 15 = .ok (.aload_n 0, 1) := by decide +kernel
theorem dX1_count_16 : decode cX1_count 16 = .ok (.getfield 22, 3) := by decide +kernel
theorem dX1_count_19 : decode cX1_count 19 = .ok (.if_icmp .ne 30, 3) := by decide +kernel
theorem dX1_count_22 : decode cX1_count 22 = .ok (.aload_n 0, 1) := by decide +kernel
theorem dX1_count_23 : decode cX1_count 23 = .ok (.getfield 11, 3) := by decide +kernel
theorem dX1_count_26 : decode cX1_count 26 = .ok (.iload_n 1, 1) := by decide +kernel
theorem dX1_count_27 : decode cX1_count 27 = .ok (.aaload, 1) := by decide +kernel
theorem dX1_count_28 : decode cX1_count 28 = .ok (.aload_n 2, 1) := by decide +kernel
theorem dX1_count_29 : decode cX1_count 29 = .ok (.invokevirtual 26, 3) := by decide +kernel
theorem dX1_count_32 : decode cX1_count 32 = .ok (.aload_n 0, 1) := by decide +kernel
theorem dX1_count_33 : decode cX1_count 33 = .ok (.getfield 17, 3) := by decide +kernel
theorem dX1_count_36 : decode cX1_count 36 = .ok (.iload_n 1, 1) := by decide +kernel
theorem dX1_count_37 : decode cX1_count 37 = .ok (.iconst 0, 1) := by decide +kernel
theorem dX1_count_38 : decode cX1_count 38 = .ok (.iastore, 1) := by decide +kernel
theorem dX1_count_39 : decode cX1_count 39 = .ok (.aload_n 0, 1) := by decide +kernel
theorem dX1_count_40 : decode cX1_count 40 = .ok (.dup, 1) := by decide +kernel
theorem dX1_count_41 : decode cX1_count 41 = .ok (.getfield 22, 3) := by decide +kernel
theorem dX1_count_44 : decode cX1_count 44 = .ok (.iconst 1, 1) := by decide +kernel
theorem dX1_count_45 : decode cX1_count 45 = .ok (.iadd, 1) := by decide +kernel
theorem dX1_count_46 : decode cX1_count 46 = .ok (.putfield 22, 3) := by decide +kernel
theorem dX1_count_49 : decode cX1_count 49 = .ok (.aload_n 0, 1) := by decide +kernel
theorem dX1_count_50 : decode cX1_count 50 = .ok (.getfield 17, 3) := by decide +kernel
theorem dX1_count_53 : decode cX1_count 53 = .ok (.iload_n 1, 1) := by decide +kernel
theorem dX1_count_54 : decode cX1_count 54 = .ok (.dup2, 1) := by decide +kernel
theorem dX1_count_55 : decode cX1_count 55 = .ok (.iaload, 1) := by decide +kernel
theorem dX1_count_56 : decode cX1_count 56 = .ok (.iconst 1, 1) := by decide +kernel
theorem dX1_count_57 : decode cX1_count 57 = .ok (.iadd, 1) := by decide +kernel
theorem dX1_count_58 : decode cX1_count 58 = .ok (.iastore, 1) := by decide +kernel
theorem dX1_count_59 : decode cX1_count 59 = .ok (.return_, 1) := by decide +kernel
theorem dX2_init_0 : decode cX2_init 0 = .ok (.aload_n 0, 1) := by decide +kernel
theorem dX2_init_1 : decode cX2_init 1 = .ok (.invokespecial 3, 3) := by decide +kernel
theorem dX2_init_4 : decode cX2_init 4 = .ok (.aload_n 0, 1) := by decide +kernel
theorem dX2_init_5 : decode cX2_init 5 = .ok (.bipush 16, 2) := by decide +kernel
theorem dX2_init_7 : decode cX2_init 7 = .ok (.newarray .int, 2) := by decide +kernel
theorem dX2_init_9 : decode cX2_init 9 = .ok (.putfield 9, 3) := by decide +kernel
theorem dX2_init_12 : decode cX2_init 12 = .ok (.return_, 1) := by decide +kernel
theorem dX2_becomeEmpty_0 : decode cX2_becomeEmpty 0 = .ok (.aload_n 0, 1) := by decide +kernel
theorem dX2_becomeEmpty_1 : decode cX2_becomeEmpty 1 = .ok (.iload_n 1, 1) := by decide +kernel
theorem dX2_becomeEmpty_2 : decode cX2_becomeEmpty 2 = .ok (.putfield 15, 3) := by decide +kernel
theorem dX2_becomeEmpty_5 : decode cX2_becomeEmpty 5 = .ok (.iconst 0, 1) := by decide +kernel
theorem dX2_becomeEmpty_6 : decode cX2_becomeEmpty 6 = .ok (.istore_n 2, 1) := by decide +kernel
theorem dX2_becomeEmpty_7 : decode cX2_becomeEmpty 7 = .ok (.iload_n 2, 1) := by decide +kernel
theorem dX2_becomeEmpty_8 : decode cX2_becomeEmpty 8 = .ok (.aload_n 0, 1) := by decide +kernel
theorem dX2_becomeEmpty_9 : decode cX2_becomeEmpty 9 = .ok (.getfield 9, 3) := by decide +kernel
theorem dX2_becomeEmpty_12 : decode cX2_becomeEmpty 12 = .ok (.arraylength, 1) := by decide +kernel
theorem dX2_becomeEmpty_13 : decode cX2_becomeEmpty 13 = .ok (.if_icmp .ge 16, 3) := by decide +kernel
theorem dX2_becomeEmpty_16 : decode cX2_becomeEmpty 16 = .ok (.aload_n 0, 1) := by decide +kernel
theorem dX2_becomeEmpty_17 : decode cX2_becomeEmpty 17 = .ok (.getfield 9, 3) := by decide +kernel
theorem dX2_becomeEmpty_20 : decode cX2_becomeEmpty 20 = .ok (.iload_n 2, 1) := by decide +kernel
theorem dX2_becomeEmpty_21 : decode cX2_becomeEmpty 21 = .ok (.iconst 0, 1) := by decide +kernel
theorem dX2_becomeEmpty_22 : decode cX2_becomeEmpty 22 = .ok (.iastore, 1) := by decide +kernel
theorem dX2_becomeEmpty_23 : decode cX2_becomeEmpty 23 = .ok (.iinc 2 1, 3) := by decide +kernel
theorem dX2_becomeEmpty_26 : decode cX2_becomeEmpty 26 = .ok (.goto (-19), 3) := by decide +kernel
theorem dX2_becomeEmpty_29 : decode cX2_becomeEmpty 29 = .ok (.return_, 1) := by decide +kernel
theorem dX2_becomeLike_0 : decode cX2_becomeLike 0 = .ok (.aload_n 0, 1) := by decide +kernel
theorem dX2_becomeLike_1 : decode cX2_becomeLike 1 = .ok (.aload_n 1, 1) := by decide +kernel
theorem dX2_becomeLike_2 : decode cX2_becomeLike 2 = .ok (.getfield 15, 3) := by decide +kernel
theorem dX2_becomeLike_5 : decode cX2_becomeLike 5 = .ok (.putfield 15, 3) := by decide +kernel
theorem dX2_becomeLike_8 : decode cX2_becomeLike 8 = .ok (.aload_n 1, 1) := by decide +kernel
theorem dX2_becomeLike_9 : decode cX2_becomeLike 9 = .ok (.getfield 9, 3) := by decide +kernel
theorem dX2_becomeLike_12 : decode cX2_becomeLike 12 = .ok (.iconst 0, 1) := by decide +kernel
theorem dX2_becomeLike_13 : decode cX2_becomeLike 13 = .ok (.aload_n 0, 1) := by decide +kernel
theorem dX2_becomeLike_14 : decode cX2_becomeLike 14 = .ok (.getfield 9, 3) := by decide +kernel
theorem dX2_becomeLike_17 : decode cX2_becomeLike 17 = .ok (.iconst 0, 1) := by decide +kernel
theorem dX2_becomeLike_18 : decode cX2_becomeLike 18 = .ok (.bipush 16, 2) := by decide +kernel
theorem dX2_becomeLike_20 : decode cX2_becomeLike 20 = .ok (.invokestatic 19, 3) := by decide +kernel
theorem dX2_becomeLike_23 : decode cX2_becomeLike 23 = .ok (.return_, 1) := by decide +kernel
theorem dX2_hasSlot_0 : decode cX2_hasSlot 0 = .ok (.iload_n 1, 1) := by decide +kernel
theorem dX2_hasSlot_1 : decode cX2_hasSlot 1 = .ok (.ifCond .lt 15, 3) := by decide +kernel
theorem dX2_hasSlot_4 : decode cX2_hasSlot 4 = .ok (.iload_n 1, 1) := by decide +kernel
theorem dX2_hasSlot_5 : decode cX2_hasSlot 5 = .ok (.aload_n 0, 1) := by decide +kernel
theorem dX2_hasSlot_6 : decode cX2_hasSlot 6 = .ok (.getfield 15, 3) := by decide +kernel
theorem dX2_hasSlot_9 : decode cX2_hasSlot 9 = .ok (.if_icmp .ge 7, 3) := by decide +kernel
theorem dX2_hasSlot_12 : decode cX2_hasSlot 12 = .ok (.iconst 1, 1) := by decide +kernel
theorem dX2_hasSlot_13 : decode cX2_hasSlot 13 = .ok (.goto 4, 3) := by decide +kernel
theorem dX2_hasSlot_16 : decode cX2_hasSlot 16 = .ok (.iconst 0, 1) := by decide +kernel
theorem dX2_hasSlot_17 : decode cX2_hasSlot 17 = .ok (.ireturn, 1) := by decide +kernel
theorem dX2_at_0 : decode cX2_at 0 = .ok (.iload_n 1, 1) := by decide +kernel
theorem dX2_at_1 : decode cX2_at 1 = .ok (.ifCond .lt 21, 3) := by decide +kernel
theorem dX2_at_4 : decode cX2_at 4 = .ok (.iload_n 1, 1) := by decide +kernel
theorem dX2_at_5 : decode cX2_at 5 = .ok (.aload_n 0, 1) := by decide +kernel
theorem dX2_at_6 : decode cX2_at 6 = .ok (.getfield 9, 3) := by decide +kernel
theorem dX2_at_9 : decode cX2_at 9 = .ok (.arraylength, 1) := by decide +kernel
theorem dX2_at_10 : decode cX2_at 10 = .ok (.if_icmp .ge 12, 3) := by decide +kernel
theorem dX2_at_13 : decode cX2_at 13 = .ok (.aload_n 0, 1) := by decide +kernel
theorem dX2_at_14 : decode cX2_at 14 = .ok (.getfield 9, 3) := by decide +kernel
theorem dX2_at_17 : decode cX2_at 17 = .ok (.iload_n 1, 1) := by decide +kernel
theorem dX2_at_18 : decode cX2_at 18 = .ok (.iaload, 1) := by decide +kernel
theorem dX2_at_19 : decode cX2_at 19 = .ok (.goto 4, 3) := by decide +kernel
theorem dX2_at_22 : decode cX2_at 22 = .ok (.iconst 0, 1) := by decide +kernel
theorem dX2_at_23 : decode cX2_at 23 = .ok (.ireturn, 1) := by decide +kernel
theorem dX2_put_0 : decode cX2_put 0 = .ok (.iload_n 1, 1) := by decide +kernel
theorem dX2_put_1 : decode cX2_put 1 = .ok (.ifCond .lt 19, 3) := by decide +kernel
theorem dX2_put_4 : decode cX2_put 4 = .ok (.iload_n 1, 1) := by decide +kernel
theorem dX2_put_5 : decode cX2_put 5 = .ok (.aload_n 0, 1) := by decide +kernel
theorem dX2_put_6 : decode cX2_put 6 = .ok (.getfield 9, 3) := by decide +kernel
theorem dX2_put_9 : decode cX2_put 9 = .ok (.arraylength, 1) := by decide +kernel
theorem dX2_put_10 : decode cX2_put 10 = .ok (.if_icmp .ge 10, 3) := by decide +kernel
theorem dX2_put_13 : decode cX2_put 13 = .ok (.aload_n 0, 1) := by decide +kernel
theorem dX2_put_14 : decode cX2_put 14 = .ok (.getfield 9, 3) := by decide +kernel
theorem dX2_put_17 : decode cX2_put 17 = .ok (.iload_n 1, 1) := by decide +kernel
theorem dX2_put_18 : decode cX2_put 18 = .ok (.iload_n 2, 1) := by decide +kernel
theorem dX2_put_19 : decode cX2_put 19 = .ok (.iastore, 1) := by decide +kernel
theorem dX2_put_20 : decode cX2_put 20 = .ok (.return_, 1) := by decide +kernel
set_option maxRecDepth 20000 in
theorem ggX2_exchange_X2_at : GoodIn wsX2_exchange wsX2_at := goodIn_r _ [5, 6, 11, 12] (by decide +kernel) (by decide +kernel)
set_option maxRecDepth 20000 in
theorem gX2_exchange_X2_at : GoodIn wsX2_exchange (wsV RX2 25 RX2 yX2_at wsX2_at) := goodIn_app (goodIn_of _ (by decide +kernel)) ggX2_exchange_X2_at
set_option maxRecDepth 20000 in
theorem ggX2_exchange_X2_put : GoodIn wsX2_exchange wsX2_put := goodIn_r _ [10, 6, 11, 12] (by decide +kernel) (by decide +kernel)
set_option maxRecDepth 20000 in
theorem gX2_exchange_X2_put : GoodIn wsX2_exchange (wsV RX2 29 RX2 yX2_put wsX2_put) := goodIn_app (goodIn_of _ (by decide +kernel)) ggX2_exchange_X2_put
theorem dX2_exchange_0 : decode cX2_exchange 0 = .ok (.aload_n 0, 1) := by decide +kernel
theorem dX2_exchange_1 : decode cX2_exchange 1 = .ok (.iload_n 1, 1) := by decide +kernel
theorem dX2_exchange_2 : decode cX2_exchange 2 = .ok (.invokevirtual 25, 3) := by decide +kernel
theorem dX2_exchange_5 : decode cX2_exchange 5 = .ok (.istore_n 3, 1) := by decide +kernel
theorem dX2_exchange_6 : decode cX2_exchange 6 = .ok (.aload_n 0, 1) := by decide +kernel
theorem dX2_exchange_7 : decode cX2_exchange 7 = .ok (.iload_n 1, 1) := by decide +kernel
theorem dX2_exchange_8 : decode cX2_exchange 8 = .ok (.aload_n 0, 1) := by decide +kernel
theorem dX2_exchange_9 : decode cX2_exchange 9 = .ok (.iload_n 2, 1) := by decide +kernel
theorem dX2_exchange_10 : decode cX2_exchange 10 = .ok (.invokevirtual 25, 3) := by decide +kernel
theorem dX2_exchange_13 : decode cX2_exchange 13 = .ok (.invokevirtual 29, 3) := by decide +kernel
theorem dX2_exchange_16 : decode cX2_exchange 16 = .ok (.aload_n 0, 1) := by decide +kernel
theorem dX2_exchange_17 : decode cX2_exchange 17 = .ok (.iload_n 2, 1) := by decide +kernel
theorem dX2_exchange_18 : decode cX2_exchange 18 = .ok (.iload_n 3, 1) := by decide +kernel
theorem dX2_exchange_19 : decode cX2_exchange 19 = .ok (.invokevirtual 29, 3) := by decide +kernel
theorem dX2_exchange_22 : decode cX2_exchange 22 = .ok (.return_, 1) := by decide +kernel
theorem dX2_around_0 : decode cX2_around 0 = .ok (.iload_n 1, 1) := by decide +kernel
theorem dX2_around_1 : decode cX2_around 1 = .ok (.ifCond .ge 10, 3) := by decide +kernel
theorem dX2_around_4 : decode cX2_around 4 = .ok (.iload_n 1, 1) := by decide +kernel
theorem dX2_around_5 : decode cX2_around 5 = .ok (.aload_n 0, 1) := by decide +kernel
theorem dX2_around_6 : decode cX2_around 6 = .ok (.getfield 15, 3) := by decide +kernel
theorem dX2_around_9 : decode cX2_around 9 = .ok (.iadd, 1) := by decide +kernel
theorem dX2_around_10 : decode cX2_around 10 = .ok (.ireturn, 1) := by decide +kernel
theorem dX2_around_11 : decode cX2_around 11 = .ok (.iload_n 1, 1) := by decide +kernel
theorem dX2_around_12 : decode cX2_around 12 = .ok (.aload_n 0, 1) := by decide +kernel
theorem dX2_around_13 : decode cX2_around 13 = .ok (.getfield 15, 3) := by decide +kernel
theorem dX2_around_16 : decode cX2_around 16 = .ok (.if_icmp .ge 7, 3) := by decide +kernel
theorem dX2_around_19 : decode cX2_around 19 = .ok (.iload_n 1, 1) := by decide +kernel
theorem dX2_around_20 : decode cX2_around 20 = .ok (.goto 9, 3) := by decide +kernel
theorem dX2_around_23 : decode cX2_around 23 = .ok (.iload_n 1, 1) := by decide +kernel
theorem dX2_around_24 : decode cX2_around 24 = .ok (.aload_n 0, 1) := by decide +kernel
theorem dX2_around_25 : decode cX2_around 25 = .ok (.getfield 15, 3) := by decide +kernel
theorem dX2_around_28 : decode cX2_around 28 = .ok (.isub, 1) := by decide +kernel
theorem dX2_around_29 : decode cX2_around 29 = .ok (.ireturn, 1) := by decide +kernel
set_option maxRecDepth 20000 in
theorem ggX2_charms_X2_charmsOf : GoodIn wsX2_charms wsX2_charmsOf := goodIn_r _ [6, 1, 7, 8, 9, 5, 10, 11, 12, 13] (by decide +kernel) (by decide +kernel)
set_option maxRecDepth 20000 in
theorem gX2_charms_X2_charmsOf : GoodIn wsX2_charms (wsV RX2 33 RX2 yX2_charmsOf wsX2_charmsOf) := goodIn_app (goodIn_of _ (by decide +kernel)) ggX2_charms_X2_charmsOf
theorem dX2_charms_0 : decode cX2_charms 0 = .ok (.aload_n 0, 1) := by decide +kernel
theorem dX2_charms_1 : decode cX2_charms 1 = .ok (.getfield 15, 3) := by decide +kernel
theorem dX2_charms_4 : decode cX2_charms 4 = .ok (.aload_n 0, 1) := by decide +kernel
theorem dX2_charms_5 : decode cX2_charms 5 = .ok (.iconst 0, 1) := by decide +kernel
theorem dX2_charms_6 : decode cX2_charms 6 = .ok (.invokevirtual 33, 3) := by decide +kernel
theorem dX2_charms_9 : decode cX2_charms 9 = .ok (.isub, 1) := by decide +kernel
theorem dX2_charms_10 : decode cX2_charms 10 = .ok (.ireturn, 1) := by decide +kernel
set_option maxRecDepth 20000 in
theorem ggX2_charmsOf_X2_at : GoodIn wsX2_charmsOf wsX2_at := goodIn_r _ [6, 7, 8, 9] (by decide +kernel) (by decide +kernel)
set_option maxRecDepth 20000 in
theorem gX2_charmsOf_X2_at : GoodIn wsX2_charmsOf (wsV RX2 25 RX2 yX2_at wsX2_at) := goodIn_app (goodIn_of _ (by decide +kernel)) ggX2_charmsOf_X2_at
theorem dX2_charmsOf_0 : decode cX2_charmsOf 0 = .ok (.iconst 0, 1) := by decide +kernel
theorem dX2_charmsOf_1 : decode cX2_charmsOf 1 = .ok (.istore_n 2, 1) := by decide +kernel
theorem dX2_charmsOf_2 : decode cX2_charmsOf 2 = .ok (.iconst 0, 1) := by decide +kernel
theorem dX2_charmsOf_3 : decode cX2_charmsOf 3 = .ok (.istore_n 3, 1) := by decide +kernel
theorem dX2_charmsOf_4 : decode cX2_charmsOf 4 = .ok (.iload_n 3, 1) := by decide +kernel
theorem dX2_charmsOf_5 : decode cX2_charmsOf 5 = .ok (.aload_n 0, 1) := by decide +kernel
theorem dX2_charmsOf_6 : decode cX2_charmsOf 6 = .ok (.getfield 15, 3) := by decide +kernel
theorem dX2_charmsOf_9 : decode cX2_charmsOf 9 = .ok (.if_icmp .ge 21, 3) := by decide +kernel
theorem dX2_charmsOf_12 : decode cX2_charmsOf 12 = .ok (.aload_n 0, 1) := by decide +kernel
theorem dX2_charmsOf_13 : decode cX2_charmsOf 13 = .ok (.iload_n 3, 1) := by decide +kernel
theorem dX2_charmsOf_14 : decode cX2_charmsOf 14 = .ok (.invokevirtual 25, 3) := by decide +kernel
theorem dX2_charmsOf_17 : decode cX2_charmsOf 17 = .ok (.iload_n 1, 1) := by decide +kernel
theorem dX2_charmsOf_18 : decode cX2_charmsOf 18 = .ok (.if_icmp .ne 6, 3) := by decide +kernel
theorem dX2_charmsOf_21 : decode cX2_charmsOf 21 = .ok (.iinc 2 1, 3) := by decide +kernel
theorem dX2_charmsOf_24 : decode cX2_charmsOf 24 = .ok (.iinc 3 1, 3) := by decide +kernel
theorem dX2_charmsOf_27 : decode cX2_charmsOf 27 = .ok (.goto (-23), 3) := by decide +kernel
theorem dX2_charmsOf_30 : decode cX2_charmsOf 30 = .ok (.iload_n 2, 1) := by decide +kernel
theorem dX2_charmsOf_31 : decode cX2_charmsOf 31 = .ok (.ireturn, 1) := by decide +kernel
set_option maxRecDepth 20000 in
theorem ggX2_kindAfter_X2_around : GoodIn wsX2_kindAfter wsX2_around := goodIn_r _ [6, 1, 12, 13] (by decide +kernel) (by decide +kernel)
set_option maxRecDepth 20000 in
theorem gX2_kindAfter_X2_around : GoodIn wsX2_kindAfter (wsV RX2 36 RX2 yX2_around wsX2_around) := goodIn_app (goodIn_of _ (by decide +kernel)) ggX2_kindAfter_X2_around
set_option maxRecDepth 20000 in
theorem ggX2_kindAfter_X2_at : GoodIn wsX2_kindAfter wsX2_at := goodIn_r _ [10, 11, 12, 13] (by decide +kernel) (by decide +kernel)
set_option maxRecDepth 20000 in
theorem gX2_kindAfter_X2_at : GoodIn wsX2_kindAfter (wsV RX2 25 RX2 yX2_at wsX2_at) := goodIn_app (goodIn_of _ (by decide +kernel)) ggX2_kindAfter_X2_at
theorem dX2_kindAfter_0 : decode cX2_kindAfter 0 = .ok (.iload_n 1, 1) := by decide +kernel
theorem dX2_kindAfter_1 : decode cX2_kindAfter 1 = .ok (.aload_n 0, 1) := by decide +kernel
theorem dX2_kindAfter_2 : decode cX2_kindAfter 2 = .ok (.getfield 15, 3) := by decide +kernel
theorem dX2_kindAfter_5 : decode cX2_kindAfter 5 = .ok (.if_icmp .ge 9, 3) := by decide +kernel
theorem dX2_kindAfter_8 : decode cX2_kindAfter 8 = .ok (.iload_n 2, 1) := by decide +kernel
theorem dX2_kindAfter_9 : decode cX2_kindAfter 9 = .ok (.iload_n 1, 1) := by decide +kernel
theorem dX2_kindAfter_10 : decode cX2_kindAfter 10 = .ok (.isub, 1) := by decide +kernel
theorem dX2_kindAfter_11 : decode cX2_kindAfter 11 = .ok (.goto 11, 3) := by decide +kernel
theorem dX2_kindAfter_14 : decode cX2_kindAfter 14 = .ok (.iload_n 1, 1) := by decide +kernel
theorem dX2_kindAfter_15 : decode cX2_kindAfter 15 = .ok (.aload_n 0, 1) := by decide +kernel
theorem dX2_kindAfter_16 : decode cX2_kindAfter 16 = .ok (.getfield 15, 3) := by decide +kernel
theorem dX2_kindAfter_19 : decode cX2_kindAfter 19 = .ok (.isub, 1) := by decide +kernel
theorem dX2_kindAfter_20 : decode cX2_kindAfter 20 = .ok (.iload_n 2, 1) := by decide +kernel
theorem dX2_kindAfter_21 : decode cX2_kindAfter 21 = .ok (.isub, 1) := by decide +kernel
theorem dX2_kindAfter_22 : decode cX2_kindAfter 22 = .ok (.istore_n 3, 1) := by decide +kernel
theorem dX2_kindAfter_23 : decode cX2_kindAfter 23 = .ok (.aload_n 0, 1) := by decide +kernel
theorem dX2_kindAfter_24 : decode cX2_kindAfter 24 = .ok (.aload_n 0, 1) := by decide +kernel
theorem dX2_kindAfter_25 : decode cX2_kindAfter 25 = .ok (.iload_n 3, 1) := by decide +kernel
theorem dX2_kindAfter_26 : decode cX2_kindAfter 26 = .ok (.invokevirtual 36, 3) := by decide +kernel
theorem dX2_kindAfter_29 : decode cX2_kindAfter 29 = .ok (.invokevirtual 25, 3) := by decide +kernel
theorem dX2_kindAfter_32 : decode cX2_kindAfter 32 = .ok (.ireturn, 1) := by decide +kernel
set_option maxRecDepth 20000 in
theorem ggX2_differences_X2_kindAfter : GoodIn wsX2_differences wsX2_kindAfter := goodIn_r _ [6, 1, 7, 8, 9, 5, 10, 11, 12, 13, 14, 15, 16, 17] (by decide +kernel) (by decide +kernel)
set_option maxRecDepth 20000 in
theorem gX2_differences_X2_kindAfter : GoodIn wsX2_differences (wsV RX2 39 RX2 yX2_kindAfter wsX2_kindAfter) := goodIn_app (goodIn_of _ (by decide +kernel)) ggX2_differences_X2_kindAfter
set_option maxRecDepth 20000 in
theorem ggX2_differences_X2_at : GoodIn wsX2_differences wsX2_at := goodIn_r _ [14, 15, 16, 17] (by decide +kernel) (by decide +kernel)
set_option maxRecDepth 20000 in
theorem gX2_differences_X2_at : GoodIn wsX2_differences (wsV RX2 25 RX2 yX2_at wsX2_at) := goodIn_app (goodIn_of _ (by decide +kernel)) ggX2_differences_X2_at
theorem dX2_differences_0 : decode cX2_differences 0 = .ok (.iconst 0, 1) := by decide +kernel
theorem dX2_differences_1 : decode cX2_differences 1 = .ok (.istore_n 3, 1) := by decide +kernel
theorem dX2_differences_2 : decode cX2_differences 2 = .ok (.iconst 0, 1) := by decide +kernel
theorem dX2_differences_3 : decode cX2_differences 3 = .ok (.istore 4, 2) := by decide +kernel
theorem dX2_differences_5 : decode cX2_differences 5 = .ok (.iload 4, 2) := by decide +kernel
theorem dX2_differences_7 : decode cX2_differences 7 = .ok (.aload_n 0, 1) := by decide +kernel
theorem dX2_differences_8 : decode cX2_differences 8 = .ok (.getfield 15, 3) := by decide +kernel
theorem dX2_differences_11 : decode cX2_differences 11 = .ok (.if_icmp .ge 28, 3) := by decide +kernel
theorem dX2_differences_14 : decode cX2_differences 14 = .ok (.aload_n 0, 1) := by decide +kernel
theorem dX2_differences_15 : decode cX2_differences 15 = .ok (.iload_n 1, 1) := by decide +kernel
theorem dX2_differences_16 : decode cX2_differences 16 = .ok (.iload 4, 2) := by decide +kernel
theorem dX2_differences_18 : decode cX2_differences 18 = .ok (.invokevirtual 39, 3) := by decide +kernel
theorem dX2_differences_21 : decode cX2_differences 21 = .ok (.aload_n 2, 1) := by decide +kernel
theorem dX2_differences_22 : decode cX2_differences 22 = .ok (.iload 4, 2) := by decide +kernel
theorem dX2_differences_24 : decode cX2_differences 24 = .ok (.invokevirtual 25, 3) := by decide +kernel
theorem dX2_differences_27 : decode cX2_differences 27 = .ok (.if_icmp .eq 6, 3) := by decide +kernel
theorem dX2_differences_30 : decode cX2_differences 30 = .ok (.iinc 3 1, 3) := by decide +kernel
theorem dX2_differences_33 : decode cX2_differences 33 = .ok (.iinc 4 1, 3) := by decide +kernel
theorem dX2_differences_36 : decode cX2_differences 36 = .ok (.goto (-31), 3) := by decide +kernel
theorem dX2_differences_39 : decode cX2_differences 39 = .ok (.iload_n 3, 1) := by decide +kernel
theorem dX2_differences_40 : decode cX2_differences 40 = .ok (.ireturn, 1) := by decide +kernel
set_option maxRecDepth 20000 in
theorem ggX2_leastDifferences_X5_changeCount : GoodIn wsX2_leastDifferences wsX5_changeCount := goodIn_r _ [8] (by decide +kernel) (by decide +kernel)
set_option maxRecDepth 20000 in
theorem gX2_leastDifferences_X5_changeCount_n43 : GoodIn wsX2_leastDifferences (wsX5_changeCount) := ggX2_leastDifferences_X5_changeCount
set_option maxRecDepth 20000 in
theorem ggX2_leastDifferences_X5_changeAt : GoodIn wsX2_leastDifferences wsX5_changeAt := goodIn_r _ [10] (by decide +kernel) (by decide +kernel)
set_option maxRecDepth 20000 in
theorem gX2_leastDifferences_X5_changeAt_n46 : GoodIn wsX2_leastDifferences (wsX5_changeAt) := ggX2_leastDifferences_X5_changeAt
set_option maxRecDepth 20000 in
theorem ggX2_leastDifferences_X2_differences : GoodIn wsX2_leastDifferences wsX2_differences := goodIn_r _ [15, 1, 16, 17, 18, 14, 19, 20, 21, 22, 23, 24, 25, 26, 27, 28, 29, 30] (by decide +kernel) (by decide +kernel)
set_option maxRecDepth 20000 in
theorem gX2_leastDifferences_X2_differences : GoodIn wsX2_leastDifferences (wsV RX2 50 RX2 yX2_differences wsX2_differences) := goodIn_app (goodIn_of _ (by decide +kernel)) ggX2_leastDifferences_X2_differences
theorem dX2_leastDifferences_0 : decode cX2_leastDifferences 0 = .ok (.aload_n 0, 1) := by decide +kernel
theorem dX2_leastDifferences_1 : decode cX2_leastDifferences 1 = .ok (.getfield 15, 3) := by decide +kernel
theorem dX2_leastDifferences_4 : decode cX2_leastDifferences 4 = .ok (.istore_n 3, 1) := by decide +kernel
theorem dX2_leastDifferences_5 : decode cX2_leastDifferences 5 = .ok (.iload_n 2, 1) := by decide +kernel
theorem dX2_leastDifferences_6 : decode cX2_leastDifferences 6 = .ok (.aload_n 0, 1) := by decide +kernel
theorem dX2_leastDifferences_7 : decode cX2_leastDifferences 7 = .ok (.getfield 15, 3) := by decide +kernel
theorem dX2_leastDifferences_10 : decode cX2_leastDifferences 10 = .ok (.invokestatic 43, 3) := by decide +kernel
theorem dX2_leastDifferences_13 : decode cX2_leastDifferences 13 = .ok (.istore 4, 2) := by decide +kernel
theorem dX2_leastDifferences_15 : decode cX2_leastDifferences 15 = .ok (.iconst 0, 1) := by decide +kernel
theorem dX2_leastDifferences_16 : decode cX2_leastDifferences 16 = .ok (.istore 5, 2) := by decide +kernel
theorem dX2_leastDifferences_18 : decode cX2_leastDifferences 18 = .ok (.iload 5, 2) := by decide +kernel
theorem dX2_leastDifferences_20 : decode cX2_leastDifferences 20 = .ok (.iload 4, 2) := by decide +kernel
theorem dX2_leastDifferences_22 : decode cX2_leastDifferences 22 = .ok (.if_icmp .ge 29, 3) := by decide +kernel
theorem dX2_leastDifferences_25 : decode cX2_leastDifferences 25 = .ok (.iload_n 3, 1) := by decide +kernel
theorem dX2_leastDifferences_26 : decode cX2_leastDifferences 26 = .ok (.aload_n 0, 1) := by decide +kernel
theorem dX2_leastDifferences_27 : decode cX2_leastDifferences 27 = .ok (.iload_n 2, 1) := by decide +kernel
theorem dX2_leastDifferences_28 : decode cX2_leastDifferences 28 = .ok (.iload 5, 2) := by decide +kernel
theorem dX2_leastDifferences_30 : decode cX2_leastDifferences 30 = .ok (.aload_n 0, 1) := by decide +kernel
theorem dX2_leastDifferences_31 : decode cX2_leastDifferences 31 = .ok (.getfield 15, 3) := by decide +kernel
theorem dX2_leastDifferences_34 : decode cX2_leastDifferences 34 = .ok (.invokestatic 46, 3) := by decide +kernel
theorem dX2_leastDifferences_37 : decode cX2_leastDifferences 37 = .ok (.aload_n 1, 1) := by decide +kernel
theorem dX2_leastDifferences_38 : decode cX2_leastDifferences 38 = .ok (.invokevirtual 50, 3) := by decide +kernel
theorem dX2_leastDifferences_41 : decode cX2_leastDifferences 41 = .ok (.invokestatic 54, 3) := by decide +kernel
theorem dX2_leastDifferences_44 : decode cX2_leastDifferences 44 = .ok (.istore_n 3, 1) := by decide +kernel
theorem dX2_leastDifferences_45 : decode cX2_leastDifferences 45 = .ok (.iinc 5 1, 3) := by decide +kernel
theorem dX2_leastDifferences_48 : decode cX2_leastDifferences 48 = .ok (.goto (-30), 3) := by decide +kernel
theorem dX2_leastDifferences_51 : decode cX2_leastDifferences 51 = .ok (.iload_n 3, 1) := by decide +kernel
theorem dX2_leastDifferences_52 : decode cX2_leastDifferences 52 = .ok (.ireturn, 1) := by decide +kernel
set_option maxRecDepth 20000 in
theorem ggX2_isAlike_X2_leastDifferences : GoodIn wsX2_isAlike wsX2_leastDifferences := goodIn_r _ [6, 1, 7, 8, 9, 10, 11, 12, 13, 14, 15, 16, 17, 18, 5, 19, 20, 21, 22, 23, 24, 25, 26, 27, 28, 29, 30, 31, 32, 33, 34] (by decide +kernel) (by decide +kernel)
set_option maxRecDepth 20000 in
theorem gX2_isAlike_X2_leastDifferences : GoodIn wsX2_isAlike (wsV RX2 59 RX2 yX2_leastDifferences wsX2_leastDifferences) := goodIn_app (goodIn_of _ (by decide +kernel)) ggX2_isAlike_X2_leastDifferences
theorem dX2_isAlike_0 : decode cX2_isAlike 0 = .ok (.aload_n 0, 1) := by decide +kernel
theorem dX2_isAlike_1 : decode cX2_isAlike 1 = .ok (.getfield 15, 3) := by decide +kernel
theorem dX2_isAlike_4 : decode cX2_isAlike 4 = .ok (.aload_n 1, 1) := by decide +kernel
theorem dX2_isAlike_5 : decode cX2_isAlike 5 = .ok (.getfield 15, 3) := by decide +kernel
theorem dX2_isAlike_8 : decode cX2_isAlike 8 = .ok (.if_icmp .ne 16, 3) := by decide +kernel
theorem dX2_isAlike_11 : decode cX2_isAlike 11 = .ok (.aload_n 0, 1) := by decide +kernel
theorem dX2_isAlike_12 : decode cX2_isAlike 12 = .ok (.aload_n 1, 1) := by decide +kernel
theorem dX2_isAlike_13 : decode cX2_isAlike 13 = .ok (.iload_n 2, 1) := by decide +kernel
theorem dX2_isAlike_14 : decode cX2_isAlike 14 = .ok (.invokevirtual 59, 3) := by decide +kernel
theorem dX2_isAlike_17 : decode cX2_isAlike 17 = .ok (.ifCond .ne 7, 3) := by decide +kernel
theorem dX2_isAlike_20 : decode cX2_isAlike 20 = .ok (.iconst 1, 1) := by decide +kernel
theorem dX2_isAlike_21 : decode cX2_isAlike 21 = .ok (.goto 4, 3) := by decide +kernel
theorem dX2_isAlike_24 : decode cX2_isAlike 24 = .ok (.iconst 0, 1) := by decide +kernel
theorem dX2_isAlike_25 : decode cX2_isAlike 25 = .ok (.ireturn, 1) := by decide +kernel
set_option maxRecDepth 20000 in
theorem ggX2_leastChange_X5_changeCount : GoodIn wsX2_leastChange wsX5_changeCount := goodIn_r _ [4] (by decide +kernel) (by decide +kernel)
set_option maxRecDepth 20000 in
theorem gX2_leastChange_X5_changeCount_n43 : GoodIn wsX2_leastChange (wsX5_changeCount) := ggX2_leastChange_X5_changeCount
set_option maxRecDepth 20000 in
theorem ggX2_leastChange_X5_changeAt : GoodIn wsX2_leastChange wsX5_changeAt := goodIn_r _ [6] (by decide +kernel) (by decide +kernel)
set_option maxRecDepth 20000 in
theorem gX2_leastChange_X5_changeAt_n46 : GoodIn wsX2_leastChange (wsX5_changeAt) := ggX2_leastChange_X5_changeAt
set_option maxRecDepth 20000 in
theorem ggX2_leastChange_X2_comesFirst : GoodIn wsX2_leastChange wsX2_comesFirst := goodIn_r _ [11, 1, 12, 13, 14, 10, 15, 16, 17, 18, 19, 20, 21, 22, 23, 24, 25, 26] (by decide +kernel) (by decide +kernel)
set_option maxRecDepth 20000 in
theorem gX2_leastChange_X2_comesFirst : GoodIn wsX2_leastChange (wsV RX2 63 RX2 yX2_comesFirst wsX2_comesFirst) := goodIn_app (goodIn_of _ (by decide +kernel)) ggX2_leastChange_X2_comesFirst
theorem dX2_leastChange_0 : decode cX2_leastChange 0 = .ok (.iconst 0, 1) := by decide +kernel
theorem dX2_leastChange_1 : decode cX2_leastChange 1 = .ok (.istore_n 2, 1) := by decide +kernel
theorem dX2_leastChange_2 : decode cX2_leastChange 2 = .ok (.iload_n 1, 1) := by decide +kernel
theorem dX2_leastChange_3 : decode cX2_leastChange 3 = .ok (.aload_n 0, 1) := by decide +kernel
theorem dX2_leastChange_4 : decode cX2_leastChange 4 = .ok (.getfield 15, 3) := by decide +kernel
theorem dX2_leastChange_7 : decode cX2_leastChange 7 = .ok (.invokestatic 43, 3) := by decide +kernel
theorem dX2_leastChange_10 : decode cX2_leastChange 10 = .ok (.istore_n 3, 1) := by decide +kernel
theorem dX2_leastChange_11 : decode cX2_leastChange 11 = .ok (.iconst 1, 1) := by decide +kernel
theorem dX2_leastChange_12 : decode cX2_leastChange 12 = .ok (.istore 4, 2) := by decide +kernel
theorem dX2_leastChange_14 : decode cX2_leastChange 14 = .ok (.iload 4, 2) := by decide +kernel
theorem dX2_leastChange_16 : decode cX2_leastChange 16 = .ok (.iload_n 3, 1) := by decide +kernel
theorem dX2_leastChange_17 : decode cX2_leastChange 17 = .ok (.if_icmp .ge 34, 3) := by decide +kernel
theorem dX2_leastChange_20 : decode cX2_leastChange 20 = .ok (.iload_n 1, 1) := by decide +kernel
theorem dX2_leastChange_21 : decode cX2_leastChange 21 = .ok (.iload 4, 2) := by decide +kernel
theorem dX2_leastChange_23 : decode cX2_leastChange 23 = .ok (.aload_n 0, 1) := by decide +kernel
theorem dX2_leastChange_24 : decode cX2_leastChange 24 = .ok (.getfield 15, 3) := by decide +kernel
theorem dX2_leastChange_27 : decode cX2_leastChange 27 = .ok (.invokestatic 46, 3) := by decide +kernel
theorem dX2_leastChange_30 : decode cX2_leastChange 30 = .ok (.istore 5, 2) := by decide +kernel
theorem dX2_leastChange_32 : decode cX2_leastChange 32 = .ok (.aload_n 0, 1) := by decide +kernel
theorem dX2_leastChange_33 : decode cX2_leastChange 33 = .ok (.iload 5, 2) := by decide +kernel
theorem dX2_leastChange_35 : decode cX2_leastChange 35 = .ok (.iload_n 2, 1) := by decide +kernel
theorem dX2_leastChange_36 : decode cX2_leastChange 36 = .ok (.invokevirtual 63, 3) := by decide +kernel
theorem dX2_leastChange_39 : decode cX2_leastChange 39 = .ok (.ifCond .eq 6, 3) := by decide +kernel
theorem dX2_leastChange_42 : decode cX2_leastChange 42 = .ok (.iload 5, 2) := by decide +kernel
theorem dX2_leastChange_44 : decode cX2_leastChange 44 = .ok (.istore_n 2, 1) := by decide +kernel
theorem dX2_leastChange_45 : decode cX2_leastChange 45 = .ok (.iinc 4 1, 3) := by decide +kernel
theorem dX2_leastChange_48 : decode cX2_leastChange 48 = .ok (.goto (-34), 3) := by decide +kernel
theorem dX2_leastChange_51 : decode cX2_leastChange 51 = .ok (.iload_n 2, 1) := by decide +kernel
theorem dX2_leastChange_52 : decode cX2_leastChange 52 = .ok (.ireturn, 1) := by decide +kernel
set_option maxRecDepth 20000 in
theorem ggX2_comesFirst_X2_kindAfter : GoodIn wsX2_comesFirst wsX2_kindAfter := goodIn_r _ [6, 1, 7, 8, 9, 5, 10, 11, 12, 13, 14, 15, 16, 17] (by decide +kernel) (by decide +kernel)
set_option maxRecDepth 20000 in
theorem gX2_comesFirst_X2_kindAfter : GoodIn wsX2_comesFirst (wsV RX2 39 RX2 yX2_kindAfter wsX2_kindAfter) := goodIn_app (goodIn_of _ (by decide +kernel)) ggX2_comesFirst_X2_kindAfter
theorem dX2_comesFirst_0 : decode cX2_comesFirst 0 = .ok (.iconst 0, 1) := by decide +kernel
theorem dX2_comesFirst_1 : decode cX2_comesFirst 1 = .ok (.istore_n 3, 1) := by decide +kernel
theorem dX2_comesFirst_2 : decode cX2_comesFirst 2 = .ok (.iload_n 3, 1) := by decide +kernel
theorem dX2_comesFirst_3 : decode cX2_comesFirst 3 = .ok (.aload_n 0, 1) := by decide +kernel
theorem dX2_comesFirst_4 : decode cX2_comesFirst 4 = .ok (.getfield 15, 3) := by decide +kernel
theorem dX2_comesFirst_7 : decode cX2_comesFirst 7 = .ok (.if_icmp .ge 45, 3) := by decide +kernel
theorem dX2_comesFirst_10 : decode cX2_comesFirst 10 = .ok (.aload_n 0, 1) := by decide +kernel
theorem dX2_comesFirst_11 : decode cX2_comesFirst 11 = .ok (.iload_n 1, 1) := by decide +kernel
theorem dX2_comesFirst_12 : decode cX2_comesFirst 12 = .ok (.iload_n 3, 1) := by decide +kernel
theorem dX2_comesFirst_13 : decode cX2_comesFirst 13 = .ok (.invokevirtual 39, 3) := by decide +kernel
theorem dX2_comesFirst_16 : decode cX2_comesFirst 16 = .ok (.istore 4, 2) := by decide +kernel
theorem dX2_comesFirst_18 : decode cX2_comesFirst 18 = .ok (.aload_n 0, 1) := by decide +kernel
theorem dX2_comesFirst_19 : decode cX2_comesFirst 19 = .ok (.iload_n 2, 1) := by decide +kernel
theorem dX2_comesFirst_20 : decode cX2_comesFirst 20 = .ok (.iload_n 3, 1) := by decide +kernel
theorem dX2_comesFirst_21 : decode cX2_comesFirst 21 = .ok (.invokevirtual 39, 3) := by decide +kernel
theorem dX2_comesFirst_24 : decode cX2_comesFirst 24 = .ok (.istore 5, 2) := by decide +kernel
theorem dX2_comesFirst_26 : decode cX2_comesFirst 26 = .ok (.iload 4, 2) := by decide +kernel
theorem dX2_comesFirst_28 : decode cX2_comesFirst 28 = .ok (.iload 5, 2) := by decide +kernel
theorem dX2_comesFirst_30 : decode cX2_comesFirst 30 = .ok (.if_icmp .eq 16, 3) := by decide +kernel
theorem dX2_comesFirst_33 : decode cX2_comesFirst 33 = .ok (.iload 4, 2) := by decide +kernel
theorem dX2_comesFirst_35 : decode cX2_comesFirst 35 = .ok (.iload 5, 2) := by decide +kernel
theorem dX2_comesFirst_37 : decode cX2_comesFirst 37 = .ok (.if_icmp .ge 7, 3) := by decide +kernel
theorem dX2_comesFirst_40 : decode cX2_comesFirst 40 = .ok (.iconst 1, 1) := by decide +kernel
theorem dX2_comesFirst_41 : decode cX2_comesFirst 41 = .ok (.goto 4, 3) := by decide +kernel
theorem dX2_comesFirst_44 : decode cX2_comesFirst 44 = .ok (.iconst 0, 1) := by decide +kernel
theorem dX2_comesFirst_45 : decode cX2_comesFirst 45 = .ok (.ireturn, 1) := by decide +kernel
theorem dX2_comesFirst_46 : decode cX2_comesFirst 46 = .ok (.iinc 3 1, 3) := by decide +kernel
theorem dX2_comesFirst_49 : decode cX2_comesFirst 49 = .ok (.goto (-47), 3) := by decide +kernel
theorem dX2_comesFirst_52 : decode cX2_comesFirst 52 = .ok (.iconst 0, 1) := by decide +kernel
theorem dX2_comesFirst_53 : decode cX2_comesFirst 53 = .ok (.ireturn, 1) := by decide +kernel
set_option maxRecDepth 20000 in
theorem ggX2_differentRings_X5_changeCount : GoodIn wsX2_differentRings wsX5_changeCount := goodIn_r _ [4] (by decide +kernel) (by decide +kernel)
set_option maxRecDepth 20000 in
theorem gX2_differentRings_X5_changeCount_n43 : GoodIn wsX2_differentRings (wsX5_changeCount) := ggX2_differentRings_X5_changeCount
set_option maxRecDepth 20000 in
theorem ggX2_differentRings_X5_changeAt : GoodIn wsX2_differentRings wsX5_changeAt := goodIn_r _ [6] (by decide +kernel) (by decide +kernel)
set_option maxRecDepth 20000 in
theorem gX2_differentRings_X5_changeAt_n46 : GoodIn wsX2_differentRings (wsX5_changeAt) := ggX2_differentRings_X5_changeAt
set_option maxRecDepth 20000 in
theorem ggX2_differentRings_X2_differences : GoodIn wsX2_differentRings wsX2_differences := goodIn_r _ [11, 1, 12, 13, 14, 10, 15, 16, 17, 18, 19, 20, 21, 22, 23, 24, 25, 26] (by decide +kernel) (by decide +kernel)
set_option maxRecDepth 20000 in
theorem gX2_differentRings_X2_differences : GoodIn wsX2_differentRings (wsV RX2 50 RX2 yX2_differences wsX2_differences) := goodIn_app (goodIn_of _ (by decide +kernel)) ggX2_differentRings_X2_differences
theorem dX2_differentRings_0 : decode cX2_differentRings 0 = .ok (.iconst 0, 1) := by decide +kernel
theorem dX2_differentRings_1 : decode cX2_differentRings 1 = .ok (.istore_n 2, 1) := by decide +kernel
theorem dX2_differentRings_2 : decode cX2_differentRings 2 = .ok (.iload_n 1, 1) := by decide +kernel
theorem dX2_differentRings_3 : decode cX2_differentRings 3 = .ok (.aload_n 0, 1) := by decide +kernel
theorem dX2_differentRings_4 : decode cX2_differentRings 4 = .ok (.getfield 15, 3) := by decide +kernel
theorem dX2_differentRings_7 : decode cX2_differentRings 7 = .ok (.invokestatic 43, 3) := by decide +kernel
theorem dX2_differentRings_10 : decode cX2_differentRings 10 = .ok (.istore_n 3, 1) := by decide +kernel
theorem dX2_differentRings_11 : decode cX2_differentRings 11 = .ok (.iconst 0, 1) := by decide +kernel
theorem dX2_differentRings_12 : decode cX2_differentRings 12 = .ok (.istore 4, 2) := by decide +kernel
theorem dX2_differentRings_14 : decode cX2_differentRings 14 = .ok (.iload 4, 2) := by decide +kernel
theorem dX2_differentRings_16 : decode cX2_differentRings 16 = .ok (.iload_n 3, 1) := by decide +kernel
theorem dX2_differentRings_17 : decode cX2_differentRings 17 = .ok (.if_icmp .ge 30, 3) := by decide +kernel
theorem dX2_differentRings_20 : decode cX2_differentRings 20 = .ok (.aload_n 0, 1) := by decide +kernel
theorem dX2_differentRings_21 : decode cX2_differentRings 21 = .ok (.iload_n 1, 1) := by decide +kernel
theorem dX2_differentRings_22 : decode cX2_differentRings 22 = .ok (.iload 4, 2) := by decide +kernel
theorem dX2_differentRings_24 : decode cX2_differentRings 24 = .ok (.aload_n 0, 1) := by decide +kernel
theorem dX2_differentRings_25 : decode cX2_differentRings 25 = .ok (.getfield 15, 3) := by decide +kernel
theorem dX2_differentRings_28 : decode cX2_differentRings 28 = .ok (.invokestatic 46, 3) := by decide +kernel
theorem dX2_differentRings_31 : decode cX2_differentRings 31 = .ok (.aload_n 0, 1) := by decide +kernel
theorem dX2_differentRings_32 : decode cX2_differentRings 32 = .ok (.invokevirtual 50, 3) := by decide +kernel
theorem dX2_differentRings_35 : decode cX2_differentRings 35 = .ok (.ifCond .ne 6, 3) := by decide +kernel
theorem dX2_differentRings_38 : decode cX2_differentRings 38 = .ok (.iinc 2 1, 3) := by decide +kernel
theorem dX2_differentRings_41 : decode cX2_differentRings 41 = .ok (.iinc 4 1, 3) := by decide +kernel
theorem dX2_differentRings_44 : decode cX2_differentRings 44 = .ok (.goto (-30), 3) := by decide +kernel
theorem dX2_differentRings_47 : decode cX2_differentRings 47 = .ok (.iload_n 2, 1) := by decide +kernel
theorem dX2_differentRings_48 : decode cX2_differentRings 48 = .ok (.iconst 1, 1) := by decide +kernel
theorem dX2_differentRings_49 : decode cX2_differentRings 49 = .ok (.if_icmp .ge 7, 3) := by decide +kernel
theorem dX2_differentRings_52 : decode cX2_differentRings 52 = .ok (.iload_n 3, 1) := by decide +kernel
theorem dX2_differentRings_53 : decode cX2_differentRings 53 = .ok (.goto 6, 3) := by decide +kernel
theorem dX2_differentRings_56 : decode cX2_differentRings 56 = .ok (.iload_n 3, 1) := by decide +kernel
theorem dX2_differentRings_57 : decode cX2_differentRings 57 = .ok (.iload_n 2, 1) := by decide +kernel
theorem dX2_differentRings_58 : decode cX2_differentRings 58 = .ok (.idiv, 1) := by decide +kernel
theorem dX2_differentRings_59 : decode cX2_differentRings 59 = .ok (.ireturn, 1) := by decide +kernel
set_option maxRecDepth 20000 in
theorem ggX2_slotsTurnedInto_X5_changeAt : GoodIn wsX2_slotsTurnedInto wsX5_changeAt := goodIn_r _ [4] (by decide +kernel) (by decide +kernel)
set_option maxRecDepth 20000 in
theorem gX2_slotsTurnedInto_X5_changeAt_n46 : GoodIn wsX2_slotsTurnedInto (wsX5_changeAt) := ggX2_slotsTurnedInto_X5_changeAt
set_option maxRecDepth 20000 in
theorem ggX2_slotsTurnedInto_X2_around : GoodIn wsX2_slotsTurnedInto wsX2_around := goodIn_r _ [9, 1, 10, 11] (by decide +kernel) (by decide +kernel)
set_option maxRecDepth 20000 in
theorem gX2_slotsTurnedInto_X2_around : GoodIn wsX2_slotsTurnedInto (wsV RX2 36 RX2 yX2_around wsX2_around) := goodIn_app (goodIn_of _ (by decide +kernel)) ggX2_slotsTurnedInto_X2_around
theorem dX2_slotsTurnedInto_0 : decode cX2_slotsTurnedInto 0 = .ok (.iconst 0, 1) := by decide +kernel
theorem dX2_slotsTurnedInto_1 : decode cX2_slotsTurnedInto 1 = .ok (.istore_n 3, 1) := by decide +kernel
theorem dX2_slotsTurnedInto_2 : decode cX2_slotsTurnedInto 2 = .ok (.iconst 0, 1) := by decide +kernel
theorem dX2_slotsTurnedInto_3 : decode cX2_slotsTurnedInto 3 = .ok (.istore 4, 2) := by decide +kernel
theorem dX2_slotsTurnedInto_5 : decode cX2_slotsTurnedInto 5 = .ok (.iload 4, 2) := by decide +kernel
theorem dX2_slotsTurnedInto_7 : decode cX2_slotsTurnedInto 7 = .ok (.aload_n 0, 1) := by decide +kernel
theorem dX2_slotsTurnedInto_8 : decode cX2_slotsTurnedInto 8 = .ok (.getfield 15, 3) := by decide +kernel
theorem dX2_slotsTurnedInto_11 : decode cX2_slotsTurnedInto 11 = .ok (.if_icmp .ge 43, 3) := by decide +kernel
theorem dX2_slotsTurnedInto_14 : decode cX2_slotsTurnedInto 14 = .ok (.aload_n 0, 1) := by decide +kernel
theorem dX2_slotsTurnedInto_15 : decode cX2_slotsTurnedInto 15 = .ok (.iload 4, 2) := by decide +kernel
theorem dX2_slotsTurnedInto_17 : decode cX2_slotsTurnedInto 17 = .ok (.iconst 0, 1) := by decide +kernel
theorem dX2_slotsTurnedInto_18 : decode cX2_slotsTurnedInto 18 = .ok (.iload_n 2, 1) := by decide +kernel
theorem dX2_slotsTurnedInto_19 : decode cX2_slotsTurnedInto 19 = .ok (.aload_n 0, 1) := by decide +kernel
theorem dX2_slotsTurnedInto_20 : decode cX2_slotsTurnedInto 20 = .ok (.getfield 15, 3) := by decide +kernel
theorem dX2_slotsTurnedInto_23 : decode cX2_slotsTurnedInto 23 = .ok (.invokestatic 46, 3) := by decide +kernel
theorem dX2_slotsTurnedInto_26 : decode cX2_slotsTurnedInto 26 = .ok (.iadd, 1) := by decide +kernel
theorem dX2_slotsTurnedInto_27 : decode cX2_slotsTurnedInto 27 = .ok (.invokevirtual 36, 3) := by decide +kernel
theorem dX2_slotsTurnedInto_30 : decode cX2_slotsTurnedInto 30 = .ok (.istore 5, 2) := by decide +kernel
theorem dX2_slotsTurnedInto_32 : decode cX2_slotsTurnedInto 32 = .ok (.iload_n 1, 1) := by decide +kernel
theorem dX2_slotsTurnedInto_33 : decode cX2_slotsTurnedInto 33 = .ok (.iload 5, 2) := by decide +kernel
theorem dX2_slotsTurnedInto_35 : decode cX2_slotsTurnedInto 35 = .ok (.ishr, 1) := by decide +kernel
theorem dX2_slotsTurnedInto_36 : decode cX2_slotsTurnedInto 36 = .ok (.iconst 1, 1) := by decide +kernel
theorem dX2_slotsTurnedInto_37 : decode cX2_slotsTurnedInto 37 = .ok (.iand, 1) := by decide +kernel
theorem dX2_slotsTurnedInto_38 : decode cX2_slotsTurnedInto 38 = .ok (.ifCond .eq 10, 3) := by decide +kernel
theorem dX2_slotsTurnedInto_41 : decode cX2_slotsTurnedInto 41 = .ok (.iload_n 3, 1) := by decide +kernel
theorem dX2_slotsTurnedInto_42 : decode cX2_slotsTurnedInto 42 = .ok (.iconst 1, 1) := by decide +kernel
theorem dX2_slotsTurnedInto_43 : decode cX2_slotsTurnedInto 43 = .ok (.iload 4, 2) := by decide +kernel
theorem dX2_slotsTurnedInto_45 : decode cX2_slotsTurnedInto 45 = .ok (.ishl, 1) := by decide +kernel
theorem dX2_slotsTurnedInto_46 : decode cX2_slotsTurnedInto 46 = .ok (.ior, 1) := by decide +kernel
theorem dX2_slotsTurnedInto_47 : decode cX2_slotsTurnedInto 47 = .ok (.istore_n 3, 1) := by decide +kernel
theorem dX2_slotsTurnedInto_48 : decode cX2_slotsTurnedInto 48 = .ok (.iinc 4 1, 3) := by decide +kernel
theorem dX2_slotsTurnedInto_51 : decode cX2_slotsTurnedInto 51 = .ok (.goto (-46), 3) := by decide +kernel
theorem dX2_slotsTurnedInto_54 : decode cX2_slotsTurnedInto 54 = .ok (.iload_n 3, 1) := by decide +kernel
theorem dX2_slotsTurnedInto_55 : decode cX2_slotsTurnedInto 55 = .ok (.ireturn, 1) := by decide +kernel
set_option maxRecDepth 20000 in
theorem ggX3_init_X0_init : GoodIn wsX3_init wsX0_init := goodIn_r _ [20, 21, 2, 3, 4, 22, 38, 39] (by decide +kernel) (by decide +kernel)
set_option maxRecDepth 20000 in
theorem gX3_init_X0_init_n26 : GoodIn wsX3_init (wsX0_init) := ggX3_init_X0_init
set_option maxRecDepth 20000 in
theorem ggX3_init_X1_init : GoodIn wsX3_init wsX1_init := goodIn_r _ [24, 25, 2, 3, 26, 27, 4, 28, 17, 18, 29, 30, 31, 32, 40, 41, 42, 43, 44] (by decide +kernel) (by decide +kernel)
set_option maxRecDepth 20000 in
theorem gX3_init_X1_init_n33 : GoodIn wsX3_init (wsX1_init) := ggX3_init_X1_init
set_option maxRecDepth 20000 in
theorem ggX3_init_X2_init : GoodIn wsX3_init wsX2_init := goodIn_r _ [30, 31, 2, 3, 4, 32, 43, 44] (by decide +kernel) (by decide +kernel)
set_option maxRecDepth 20000 in
theorem gX3_init_X2_init_n38 : GoodIn wsX3_init (wsX2_init) := ggX3_init_X2_init
theorem dX3_init_0 : decode cX3_init 0 = .ok (.aload_n 0, 1) := by decide +kernel
theorem dX3_init_1 : decode cX3_init 1 = .ok (.invokespecial 3, 3) := by decide +kernel
theorem dX3_init_4 : decode cX3_init 4 = .ok (.aload_n 0, 1) := by decide +kernel
theorem dX3_init_5 : decode cX3_init 5 = .ok (.bipush 6, 2) := by decide +kernel
theorem dX3_init_7 : decode cX3_init 7 = .ok (.newarray .int, 2) := by decide +kernel
theorem dX3_init_9 : decode cX3_init 9 = .ok (.putfield 9, 3) := by decide +kernel
theorem dX3_init_12 : decode cX3_init 12 = .ok (.aload_n 0, 1) := by decide +kernel
theorem dX3_init_13 : decode cX3_init 13 = .ok (.bipush 6, 2) := by decide +kernel
theorem dX3_init_15 : decode cX3_init 15 = .ok (.newarray .int, 2) := by decide +kernel
theorem dX3_init_17 : decode cX3_init 17 = .ok (.putfield 15, 3) := by decide +kernel
theorem dX3_init_20 : decode cX3_init 20 = .ok (.aload_n 0, 1) := by decide +kernel
theorem dX3_init_21 : decode cX3_init 21 = .ok (.bipush 6, 2) := by decide +kernel
theorem dX3_init_23 : decode cX3_init 23 = .ok (.anewarray 18, 3) := by decide +kernel
theorem dX3_init_26 : decode cX3_init 26 = .ok (.putfield 20, 3) := by decide +kernel
theorem dX3_init_29 : decode cX3_init 29 = .ok (.aload_n 0, 1) := by decide +kernel
theorem dX3_init_30 : decode cX3_init 30 = .ok (.new 24, 3) := by decide +kernel
theorem dX3_init_33 : decode cX3_init 33 = .ok (.dup, 1) := by decide +kernel
theorem dX3_init_34 : decode cX3_init 34 = .ok (.invokespecial 26, 3) := by decide +kernel
theorem dX3_init_37 : decode cX3_init 37 = .ok (.putfield 27, 3) := by decide +kernel
theorem dX3_init_40 : decode cX3_init 40 = .ok (.aload_n 0, 1) := by decide +kernel
theorem dX3_init_41 : decode cX3_init 41 = .ok (.new 31, 3) := by decide +kernel
theorem dX3_init_44 : decode cX3_init 44 = .ok (.dup, 1) := by decide +kernel
theorem dX3_init_45 : decode cX3_init 45 = .ok (.invokespecial 33, 3) := by decide +kernel
theorem dX3_init_48 : decode cX3_init 48 = .ok (.putfield 34, 3) := by decide +kernel
theorem dX3_init_51 : decode cX3_init 51 = .ok (.iconst 1, 1) := by decide +kernel
theorem dX3_init_52 : decode cX3_init 52 = .ok (.istore_n 1, 1) := by decide +kernel
theorem dX3_init_53 : decode cX3_init 53 = .ok (.iload_n 1, 1) := by decide +kernel
theorem dX3_init_54 : decode cX3_init 54 = .ok (.iconst 5, 1) := by decide +kernel
theorem dX3_init_55 : decode cX3_init 55 = .ok (.if_icmp .gt 26, 3) := by decide +kernel
theorem dX3_init_58 : decode cX3_init 58 = .ok (.aload_n 0, 1) := by decide +kernel
theorem dX3_init_59 : decode cX3_init 59 = .ok (.getfield 9, 3) := by decide +kernel
theorem dX3_init_62 : decode cX3_init 62 = .ok (.iload_n 1, 1) := by decide +kernel
theorem dX3_init_63 : decode cX3_init 63 = .ok (.bipush 12, 2) := by decide +kernel
theorem dX3_init_65 : decode cX3_init 65 = .ok (.iastore, 1) := by decide +kernel
theorem dX3_init_66 : decode cX3_init 66 = .ok (.aload_n 0, 1) := by decide +kernel
theorem dX3_init_67 : decode cX3_init 67 = .ok (.getfield 15, 3) := by decide +kernel
theorem dX3_init_70 : decode cX3_init 70 = .ok (.iload_n 1, 1) := by decide +kernel
theorem dX3_init_71 : decode cX3_init 71 = .ok (.iconst 2, 1) := by decide +kernel
theorem dX3_init_72 : decode cX3_init 72 = .ok (.iload_n 1, 1) := by decide +kernel
theorem dX3_init_73 : decode cX3_init 73 = .ok (.imul, 1) := by decide +kernel
theorem dX3_init_74 : decode cX3_init 74 = .ok (.iastore, 1) := by decide +kernel
theorem dX3_init_75 : decode cX3_init 75 = .ok (.iinc 1 1, 3) := by decide +kernel
theorem dX3_init_78 : decode cX3_init 78 = .ok (.goto (-25), 3) := by decide +kernel
theorem dX3_init_81 : decode cX3_init 81 = .ok (.iconst 0, 1) := by decide +kernel
theorem dX3_init_82 : decode cX3_init 82 = .ok (.istore_n 1, 1) := by decide +kernel
theorem dX3_init_83 : decode cX3_init 83 = .ok (.iload_n 1, 1) := by decide +kernel
theorem dX3_init_84 : decode cX3_init 84 = .ok (.aload_n 0, 1) := by decide +kernel
theorem dX3_init_85 : decode cX3_init 85 = .ok (.getfield 20, 3) := by decide +kernel
theorem dX3_init_88 : decode cX3_init 88 = .ok (.arraylength, 1) := by decide +kernel
theorem dX3_init_89 : decode cX3_init 89 = .ok (.if_icmp .ge 22, 3) := by decide +kernel
theorem dX3_init_92 : decode cX3_init 92 = .ok (.aload_n 0, 1) := by decide +kernel
theorem dX3_init_93 : decode cX3_init 93 = .ok (.getfield 20, 3) := by decide +kernel
theorem dX3_init_96 : decode cX3_init 96 = .ok (.iload_n 1, 1) := by decide +kernel
theorem dX3_init_97 : decode cX3_init 97 = .ok (.new 18, 3) := by decide +kernel
theorem dX3_init_100 : decode cX3_init 100 = .ok (.dup, 1) := by decide +kernel
theorem dX3_init_101 : decode cX3_init 101 = .ok (.invokespecial 38, 3) := by decide +kernel
theorem dX3_init_104 : decode cX3_init 104 = .ok (.aastore, 1) := by decide +kernel
theorem dX3_init_105 : decode cX3_init 105 = .ok (.iinc 1 1, 3) := by decide +kernel
theorem dX3_init_108 : decode cX3_init 108 = .ok (.goto (-25), 3) := by decide +kernel
theorem dX3_init_111 : decode cX3_init 111 = .ok (.return_, 1) := by decide +kernel
set_option maxRecDepth 20000 in
theorem ggX3_becomeLike_X2_becomeLike : GoodIn wsX3_becomeLike wsX2_becomeLike := goodIn_r _ [13, 14, 15, 16, 3, 4, 5, 37, 38] (by decide +kernel) (by decide +kernel)
set_option maxRecDepth 20000 in
theorem gX3_becomeLike_X2_becomeLike_n45 : GoodIn wsX3_becomeLike (wsX2_becomeLike) := ggX3_becomeLike_X2_becomeLike
set_option maxRecDepth 20000 in
theorem ggX3_becomeLike_X0_becomeLike : GoodIn wsX3_becomeLike wsX0_becomeLike := goodIn_r _ [20, 21, 22, 23, 3, 4, 5, 39, 40] (by decide +kernel) (by decide +kernel)
set_option maxRecDepth 20000 in
theorem gX3_becomeLike_X0_becomeLike_n49 : GoodIn wsX3_becomeLike (wsX0_becomeLike) := ggX3_becomeLike_X0_becomeLike
set_option maxRecDepth 20000 in
theorem ggX3_becomeLike_X1_becomeLike : GoodIn wsX3_becomeLike wsX1_becomeLike := goodIn_r _ [27, 28, 29, 30, 31, 3, 4, 5, 10, 11, 12, 13, 14, 15, 16, 41, 42, 43, 37, 38] (by decide +kernel) (by decide +kernel)
set_option maxRecDepth 20000 in
theorem gX3_becomeLike_X1_becomeLike_n52 : GoodIn wsX3_becomeLike (wsX1_becomeLike) := ggX3_becomeLike_X1_becomeLike
theorem dX3_becomeLike_0 : decode cX3_becomeLike 0 = .ok (.aload_n 1, 1) := by decide +kernel
theorem dX3_becomeLike_1 : decode cX3_becomeLike 1 = .ok (.getfield 9, 3) := by decide +kernel
theorem dX3_becomeLike_4 : decode cX3_becomeLike 4 = .ok (.iconst 0, 1) := by decide +kernel
theorem dX3_becomeLike_5 : decode cX3_becomeLike 5 = .ok (.aload_n 0, 1) := by decide +kernel
theorem dX3_becomeLike_6 : decode cX3_becomeLike 6 = .ok (.getfield 9, 3) := by decide +kernel
theorem dX3_becomeLike_9 : decode cX3_becomeLike 9 = .ok (.iconst 0, 1) := by decide +kernel
theorem dX3_becomeLike_10 : decode cX3_becomeLike 10 = .ok (.bipush 6, 2) := by decide +kernel
theorem dX3_becomeLike_12 : decode cX3_becomeLike 12 = .ok (.invokestatic 39, 3) := by decide +kernel
theorem dX3_becomeLike_15 : decode cX3_becomeLike 15 = .ok (.aload_n 1, 1) := by decide +kernel
theorem dX3_becomeLike_16 : decode cX3_becomeLike 16 = .ok (.getfield 15, 3) := by decide +kernel
theorem dX3_becomeLike_19 : decode cX3_becomeLike 19 = .ok (.iconst 0, 1) := by decide +kernel
theorem dX3_becomeLike_20 : decode cX3_becomeLike 20 = .ok (.aload_n 0, 1) := by decide +kernel
theorem dX3_becomeLike_21 : decode cX3_becomeLike 21 = .ok (.getfield 15, 3) := by decide +kernel
theorem dX3_becomeLike_24 : decode cX3_becomeLike 24 = .ok (.iconst 0, 1) := by decide +kernel
theorem dX3_becomeLike_25 : decode cX3_becomeLike 25 = .ok (.bipush 6, 2) := by decide +kernel
theorem dX3_becomeLike_27 : decode cX3_becomeLike 27 = .ok (.invokestatic 39, 3) := by decide +kernel
theorem dX3_becomeLike_30 : decode cX3_becomeLike 30 = .ok (.iconst 0, 1) := by decide +kernel
theorem dX3_becomeLike_31 : decode cX3_becomeLike 31 = .ok (.istore_n 2, 1) := by decide +kernel
theorem dX3_becomeLike_32 : decode cX3_becomeLike 32 = .ok (.iload_n 2, 1) := by decide +kernel
theorem dX3_becomeLike_33 : decode cX3_becomeLike 33 = .ok (.aload_n 0, 1) := by decide +kernel
theorem dX3_becomeLike_34 : decode cX3_becomeLike 34 = .ok (.getfield 20, 3) := by decide +kernel
theorem dX3_becomeLike_37 : decode cX3_becomeLike 37 = .ok (.arraylength, 1) := by decide +kernel
theorem dX3_becomeLike_38 : decode cX3_becomeLike 38 = .ok (.if_icmp .ge 24, 3) := by decide +kernel
theorem dX3_becomeLike_41 : decode cX3_becomeLike 41 = .ok (.aload_n 0, 1) := by decide +kernel
theorem dX3_becomeLike_42 : decode cX3_becomeLike 42 = .ok (.getfield 20, 3) := by decide +kernel
theorem dX3_becomeLike_45 : decode cX3_becomeLike 45 = .ok (.iload_n 2, 1) := by decide +kernel
theorem dX3_becomeLike_46 : decode cX3_becomeLike 46 = .ok (.aaload, 1) := by decide +kernel
theorem dX3_becomeLike_47 : decode cX3_becomeLike 47 = .ok (.aload_n 1, 1) := by decide +kernel
theorem dX3_becomeLike_48 : decode cX3_becomeLike 48 = .ok (.getfield 20, 3) := by decide +kernel
theorem dX3_becomeLike_51 : decode cX3_becomeLike 51 = .ok (.iload_n 2, 1) := by decide +kernel
theorem dX3_becomeLike_52 : decode cX3_becomeLike 52 = .ok (.aaload, 1) := by decide +kernel
theorem dX3_becomeLike_53 : decode cX3_becomeLike 53 = .ok (.invokevirtual 45, 3) := by decide +kernel
theorem dX3_becomeLike_56 : decode cX3_becomeLike 56 = .ok (.iinc 2 1, 3) := by decide +kernel
theorem dX3_becomeLike_59 : decode cX3_becomeLike 59 = .ok (.goto (-27), 3) := by decide +kernel
theorem dX3_becomeLike_62 : decode cX3_becomeLike 62 = .ok (.aload_n 0, 1) := by decide +kernel
theorem dX3_becomeLike_63 : decode cX3_becomeLike 63 = .ok (.getfield 27, 3) := by decide +kernel
theorem dX3_becomeLike_66 : decode cX3_becomeLike 66 = .ok (.aload_n 1, 1) := by decide +kernel
theorem dX3_becomeLike_67 : decode cX3_becomeLike 67 = .ok (.getfield 27, 3) := by decide +kernel
theorem dX3_becomeLike_70 : decode cX3_becomeLike 70 = .ok (.invokevirtual 49, 3) := by decide +kernel
theorem dX3_becomeLike_73 : decode cX3_becomeLike 73 = .ok (.aload_n 0, 1) := by decide +kernel
theorem dX3_becomeLike_74 : decode cX3_becomeLike 74 = .ok (.getfield 34, 3) := by decide +kernel
theorem dX3_becomeLike_77 : decode cX3_becomeLike 77 = .ok (.aload_n 1, 1) := by decide +kernel
theorem dX3_becomeLike_78 : decode cX3_becomeLike 78 = .ok (.getfield 34, 3) := by decide +kernel
theorem dX3_becomeLike_81 : decode cX3_becomeLike 81 = .ok (.invokevirtual 52, 3) := by decide +kernel
theorem dX3_becomeLike_84 : decode cX3_becomeLike 84 = .ok (.return_, 1) := by decide +kernel
theorem dX3_find_0 : decode cX3_find 0 = .ok (.iload_n 1, 1) := by decide +kernel
theorem dX3_find_1 : decode cX3_find 1 = .ok (.ifCond .lt 24, 3) := by decide +kernel
theorem dX3_find_4 : decode cX3_find 4 = .ok (.iload_n 1, 1) := by decide +kernel
theorem dX3_find_5 : decode cX3_find 5 = .ok (.aload_n 0, 1) := by decide +kernel
theorem dX3_find_6 : decode cX3_find 6 = .ok (.getfield 20, 3) := by decide +kernel
theorem dX3_find_9 : decode cX3_find 9 = .ok (.arraylength, 1) := by decide +kernel
theorem dX3_find_10 : decode cX3_find 10 = .ok (.if_icmp .ge 15, 3) := by decide +kernel
theorem dX3_find_13 : decode cX3_find 13 = .ok (.aload_n 0, 1) := by decide +kernel
theorem dX3_find_14 : decode cX3_find 14 = .ok (.getfield 20, 3) := by decide +kernel
theorem dX3_find_17 : decode cX3_find 17 = .ok (.iload_n 1, 1) := by decide +kernel
theorem dX3_find_18 : decode cX3_find 18 = .ok (.aaload, 1) := by decide +kernel
theorem dX3_find_19 : decode cX3_find 19 = .ok (.getfield 55, 3) := by decide +kernel
theorem dX3_find_22 : decode cX3_find 22 = .ok (.ifCond .ne 5, 3) := by decide +kernel
theorem dX3_find_25 : decode cX3_find 25 = .ok (.aconst_null, 1) := by decide +kernel
theorem dX3_find_26 : decode cX3_find 26 = .ok (.areturn, 1) := by decide +kernel
theorem dX3_find_27 : decode cX3_find 27 = .ok (.aload_n 0, 1) := by decide +kernel
theorem dX3_find_28 : decode cX3_find 28 = .ok (.getfield 20, 3) := by decide +kernel
theorem dX3_find_31 : decode cX3_find 31 = .ok (.iload_n 1, 1) := by decide +kernel
theorem dX3_find_32 : decode cX3_find 32 = .ok (.aaload, 1) := by decide +kernel
theorem dX3_find_33 : decode cX3_find 33 = .ok (.areturn, 1) := by decide +kernel
theorem dX3_freeNumber_0 : decode cX3_freeNumber 0 = .ok (.iconst 0, 1) := by decide +kernel
theorem dX3_freeNumber_1 : decode cX3_freeNumber 1 = .ok (.istore_n 1, 1) := by decide +kernel
theorem dX3_freeNumber_2 : decode cX3_freeNumber 2 = .ok (.iload_n 1, 1) := by decide +kernel
theorem dX3_freeNumber_3 : decode cX3_freeNumber 3 = .ok (.aload_n 0, 1) := by decide +kernel
theorem dX3_freeNumber_4 : decode cX3_freeNumber 4 = .ok (.getfield 20, 3) := by decide +kernel
theorem dX3_freeNumber_7 : decode cX3_freeNumber 7 = .ok (.arraylength, 1) := by decide +kernel
theorem dX3_freeNumber_8 : decode cX3_freeNumber 8 = .ok (.if_icmp .ge 23, 3) := by decide +kernel
theorem dX3_freeNumber_11 : decode cX3_freeNumber 11 = .ok (.aload_n 0, 1) := by decide +kernel
theorem dX3_freeNumber_12 : decode cX3_freeNumber 12 = .ok (.getfield 20, 3) := by decide +kernel
theorem dX3_freeNumber_15 : decode cX3_freeNumber 15 = .ok (.iload_n 1, 1) := by decide +kernel
theorem dX3_freeNumber_16 : decode cX3_freeNumber 16 = .ok (.aaload, 1) := by decide +kernel
theorem dX3_freeNumber_17 : decode cX3_freeNumber 17 = .ok (.getfield 55, 3) := by decide +kernel
theorem dX3_freeNumber_20 : decode cX3_freeNumber 20 = .ok (.ifCond .ne 5, 3) := by decide +kernel
theorem dX3_freeNumber_23 : decode cX3_freeNumber 23 = .ok (.iload_n 1, 1) := by decide +kernel
theorem dX3_freeNumber_24 : decode cX3_freeNumber 24 = .ok (.ireturn, 1) := by decide +kernel
theorem dX3_freeNumber_25 : decode cX3_freeNumber 25 = .ok (.iinc 1 1, 3) := by decide +kernel
theorem dX3_freeNumber_28 : decode cX3_freeNumber 28 = .ok (.goto (-26), 3) := by decide +kernel
theorem dX3_freeNumber_31 : decode cX3_freeNumber 31 = .ok (.aload_n 0, 1) := by decide +kernel
theorem dX3_freeNumber_32 : decode cX3_freeNumber 32 = .ok (.getfield 20, 3) := by decide +kernel
theorem dX3_freeNumber_35 : decode cX3_freeNumber 35 = .ok (.arraylength, 1) := by decide +kernel
theorem dX3_freeNumber_36 : decode cX3_freeNumber 36 = .ok (.ireturn, 1) := by decide +kernel
theorem dX3_ringSet_0 : decode cX3_ringSet 0 = .ok (.iconst 0, 1) := by decide +kernel
theorem dX3_ringSet_1 : decode cX3_ringSet 1 = .ok (.istore_n 1, 1) := by decide +kernel
theorem dX3_ringSet_2 : decode cX3_ringSet 2 = .ok (.iconst 0, 1) := by decide +kernel
theorem dX3_ringSet_3 : decode cX3_ringSet 3 = .ok (.istore_n 2, 1) := by decide +kernel
theorem dX3_ringSet_4 : decode cX3_ringSet 4 = .ok (.iload_n 2, 1) := by decide +kernel
theorem dX3_ringSet_5 : decode cX3_ringSet 5 = .ok (.aload_n 0, 1) := by decide +kernel
theorem dX3_ringSet_6 : decode cX3_ringSet 6 = .ok (.getfield 20, 3) := by decide +kernel
theorem dX3_ringSet_9 : decode cX3_ringSet 9 = .ok (.arraylength, 1) := by decide +kernel
theorem dX3_ringSet_10 : decode cX3_ringSet 10 = .ok (.if_icmp .ge 27, 3) := by decide +kernel
theorem dX3_ringSet_13 : decode cX3_ringSet 13 = .ok (.aload_n 0, 1) := by decide +kernel
theorem dX3_ringSet_14 : decode cX3_ringSet 14 = .ok (.getfield 20, 3) := by decide +kernel
theorem dX3_ringSet_17 : decode cX3_ringSet 17 = .ok (.iload_n 2, 1) := by decide +kernel
theorem dX3_ringSet_18 : decode cX3_ringSet 18 = .ok (.aaload, 1) := by decide +kernel
theorem dX3_ringSet_19 : decode cX3_ringSet 19 = .ok (.getfield 55, 3) := by decide +kernel
theorem dX3_ringSet_22 : decode cX3_ringSet 22 = .ok (.ifCond .eq 9, 3) := by decide +kernel
theorem dX3_ringSet_25 : decode cX3_ringSet 25 = .ok (.iload_n 1, 1) := by decide +kernel
theorem dX3_ringSet_26 : decode cX3_ringSet 26 = .ok (.iconst 1, 1) := by decide +kernel
theorem dX3_ringSet_27 : decode cX3_ringSet 27 = .ok (.iload_n 2, 1) := by decide +kernel
theorem dX3_ringSet_28 : decode cX3_ringSet 28 = .ok (.ishl, 1) := by decide +kernel
theorem dX3_ringSet_29 : decode cX3_ringSet 29 = .ok (.ior, 1) := by decide +kernel
theorem dX3_ringSet_30 : decode cX3_ringSet 30 = .ok (.istore_n 1, 1) := by decide +kernel
theorem dX3_ringSet_31 : decode cX3_ringSet 31 = .ok (.iinc 2 1, 3) := by decide +kernel
theorem dX3_ringSet_34 : decode cX3_ringSet 34 = .ok (.goto (-30), 3) := by decide +kernel
theorem dX3_ringSet_37 : decode cX3_ringSet 37 = .ok (.iload_n 1, 1) := by decide +kernel
theorem dX3_ringSet_38 : decode cX3_ringSet 38 = .ok (.ireturn, 1) := by decide +kernel
set_option maxRecDepth 20000 in
theorem ggX3_ringsAlike_X2_isAlike : GoodIn wsX3_ringsAlike wsX2_isAlike := goodIn_r _ [5, 6, 7, 8, 9, 3, 10, 11, 12, 13, 14, 15, 16, 17, 18, 19, 20, 21, 22, 23, 24, 25, 26, 27, 28, 29, 30, 31, 32, 33, 34, 35, 36, 42, 43] (by decide +kernel) (by decide +kernel)
set_option maxRecDepth 20000 in
theorem gX3_ringsAlike_X2_isAlike_n59 : GoodIn wsX3_ringsAlike (wsX2_isAlike) := ggX3_ringsAlike_X2_isAlike
theorem dX3_ringsAlike_0 : decode cX3_ringsAlike 0 = .ok (.iconst 0, 1) := by decide +kernel
theorem dX3_ringsAlike_1 : decode cX3_ringsAlike 1 = .ok (.istore_n 3, 1) := by decide +kernel
theorem dX3_ringsAlike_2 : decode cX3_ringsAlike 2 = .ok (.iconst 0, 1) := by decide +kernel
theorem dX3_ringsAlike_3 : decode cX3_ringsAlike 3 = .ok (.istore 4, 2) := by decide +kernel
theorem dX3_ringsAlike_5 : decode cX3_ringsAlike 5 = .ok (.iload 4, 2) := by decide +kernel
theorem dX3_ringsAlike_7 : decode cX3_ringsAlike 7 = .ok (.aload_n 0, 1) := by decide +kernel
theorem dX3_ringsAlike_8 : decode cX3_ringsAlike 8 = .ok (.getfield 20, 3) := by decide +kernel
theorem dX3_ringsAlike_11 : decode cX3_ringsAlike 11 = .ok (.arraylength, 1) := by decide +kernel
theorem dX3_ringsAlike_12 : decode cX3_ringsAlike 12 = .ok (.if_icmp .ge 27, 3) := by decide +kernel
theorem dX3_ringsAlike_15 : decode cX3_ringsAlike 15 = .ok (.aload_n 0, 1) := by decide +kernel
theorem dX3_ringsAlike_16 : decode cX3_ringsAlike 16 = .ok (.getfield 20, 3) := by decide +kernel
theorem dX3_ringsAlike_19 : decode cX3_ringsAlike 19 = .ok (.iload 4, 2) := by decide +kernel
theorem dX3_ringsAlike_21 : decode cX3_ringsAlike 21 = .ok (.aaload, 1) := by decide +kernel
theorem dX3_ringsAlike_22 : decode cX3_ringsAlike 22 = .ok (.aload_n 1, 1) := by decide +kernel
theorem dX3_ringsAlike_23 : decode cX3_ringsAlike 23 = .ok (.iload_n 2, 1) := by decide +kernel
theorem dX3_ringsAlike_24 : decode cX3_ringsAlike 24 = .ok (.invokevirtual 59, 3) := by decide +kernel
theorem dX3_ringsAlike_27 : decode cX3_ringsAlike 27 = .ok (.ifCond .eq 6, 3) := by decide +kernel
theorem dX3_ringsAlike_30 : decode cX3_ringsAlike 30 = .ok (.iinc 3 1, 3) := by decide +kernel
theorem dX3_ringsAlike_33 : decode cX3_ringsAlike 33 = .ok (.iinc 4 1, 3) := by decide +kernel
theorem dX3_ringsAlike_36 : decode cX3_ringsAlike 36 = .ok (.goto (-31), 3) := by decide +kernel
theorem dX3_ringsAlike_39 : decode cX3_ringsAlike 39 = .ok (.iload_n 3, 1) := by decide +kernel
theorem dX3_ringsAlike_40 : decode cX3_ringsAlike 40 = .ok (.ireturn, 1) := by decide +kernel
set_option maxRecDepth 20000 in
theorem ggX3_charmsHung_X2_charmsOf : GoodIn wsX3_charmsHung wsX2_charmsOf := goodIn_r _ [5, 6, 7, 8, 9, 3, 10, 11, 17, 18] (by decide +kernel) (by decide +kernel)
set_option maxRecDepth 20000 in
theorem gX3_charmsHung_X2_charmsOf_n63 : GoodIn wsX3_charmsHung (wsX2_charmsOf) := ggX3_charmsHung_X2_charmsOf
theorem dX3_charmsHung_0 : decode cX3_charmsHung 0 = .ok (.iconst 0, 1) := by decide +kernel
theorem dX3_charmsHung_1 : decode cX3_charmsHung 1 = .ok (.istore_n 2, 1) := by decide +kernel
theorem dX3_charmsHung_2 : decode cX3_charmsHung 2 = .ok (.iconst 0, 1) := by decide +kernel
theorem dX3_charmsHung_3 : decode cX3_charmsHung 3 = .ok (.istore_n 3, 1) := by decide +kernel
theorem dX3_charmsHung_4 : decode cX3_charmsHung 4 = .ok (.iload_n 3, 1) := by decide +kernel
theorem dX3_charmsHung_5 : decode cX3_charmsHung 5 = .ok (.aload_n 0, 1) := by decide +kernel
theorem dX3_charmsHung_6 : decode cX3_charmsHung 6 = .ok (.getfield 20, 3) := by decide +kernel
theorem dX3_charmsHung_9 : decode cX3_charmsHung 9 = .ok (.arraylength, 1) := by decide +kernel
theorem dX3_charmsHung_10 : decode cX3_charmsHung 10 = .ok (.if_icmp .ge 22, 3) := by decide +kernel
theorem dX3_charmsHung_13 : decode cX3_charmsHung 13 = .ok (.iload_n 2, 1) := by decide +kernel
theorem dX3_charmsHung_14 : decode cX3_charmsHung 14 = .ok (.aload_n 0, 1) := by decide +kernel
theorem dX3_charmsHung_15 : decode cX3_charmsHung 15 = .ok (.getfield 20, 3) := by decide +kernel
theorem dX3_charmsHung_18 : decode cX3_charmsHung 18 = .ok (.iload_n 3, 1) := by decide +kernel
theorem dX3_charmsHung_19 : decode cX3_charmsHung 19 = .ok (.aaload, 1) := by decide +kernel
theorem dX3_charmsHung_20 : decode cX3_charmsHung 20 = .ok (.iload_n 1, 1) := by decide +kernel
theorem dX3_charmsHung_21 : decode cX3_charmsHung 21 = .ok (.invokevirtual 63, 3) := by decide +kernel
theorem dX3_charmsHung_24 : decode cX3_charmsHung 24 = .ok (.iadd, 1) := by decide +kernel
theorem dX3_charmsHung_25 : decode cX3_charmsHung 25 = .ok (.istore_n 2, 1) := by decide +kernel
theorem dX3_charmsHung_26 : decode cX3_charmsHung 26 = .ok (.iinc 3 1, 3) := by decide +kernel
theorem dX3_charmsHung_29 : decode cX3_charmsHung 29 = .ok (.goto (-25), 3) := by decide +kernel
theorem dX3_charmsHung_32 : decode cX3_charmsHung 32 = .ok (.iload_n 2, 1) := by decide +kernel
theorem dX3_charmsHung_33 : decode cX3_charmsHung 33 = .ok (.ireturn, 1) := by decide +kernel
set_option maxRecDepth 20000 in
theorem ggX3_boxHasCharmsFor_X2_charmsOf : GoodIn wsX3_boxHasCharmsFor wsX2_charmsOf := goodIn_r _ [5, 6, 7, 8, 9, 3, 10, 11, 17, 18] (by decide +kernel) (by decide +kernel)
set_option maxRecDepth 20000 in
theorem gX3_boxHasCharmsFor_X2_charmsOf_n63 : GoodIn wsX3_boxHasCharmsFor (wsX2_charmsOf) := ggX3_boxHasCharmsFor_X2_charmsOf
theorem dX3_boxHasCharmsFor_0 : decode cX3_boxHasCharmsFor 0 = .ok (.iconst 1, 1) := by decide +kernel
theorem dX3_boxHasCharmsFor_1 : decode cX3_boxHasCharmsFor 1 = .ok (.istore_n 2, 1) := by decide +kernel
theorem dX3_boxHasCharmsFor_2 : decode cX3_boxHasCharmsFor 2 = .ok (.iload_n 2, 1) := by decide +kernel
theorem dX3_boxHasCharmsFor_3 : decode cX3_boxHasCharmsFor 3 = .ok (.iconst 5, 1) := by decide +kernel
theorem dX3_boxHasCharmsFor_4 : decode cX3_boxHasCharmsFor 4 = .ok (.if_icmp .gt 25, 3) := by decide +kernel
theorem dX3_boxHasCharmsFor_7 : decode cX3_boxHasCharmsFor 7 = .ok (.aload_n 1, 1) := by decide +kernel
theorem dX3_boxHasCharmsFor_8 : decode cX3_boxHasCharmsFor 8 = .ok (.iload_n 2, 1) := by decide +kernel
theorem dX3_boxHasCharmsFor_9 : decode cX3_boxHasCharmsFor 9 = .ok (.invokevirtual 63, 3) := by decide +kernel
theorem dX3_boxHasCharmsFor_12 : decode cX3_boxHasCharmsFor 12 = .ok (.aload_n 0, 1) := by decide +kernel
theorem dX3_boxHasCharmsFor_13 : decode cX3_boxHasCharmsFor 13 = .ok (.getfield 9, 3) := by decide +kernel
theorem dX3_boxHasCharmsFor_16 : decode cX3_boxHasCharmsFor 16 = .ok (.iload_n 2, 1) := by decide +kernel
theorem dX3_boxHasCharmsFor_17 : decode cX3_boxHasCharmsFor 17 = .ok (.iaload, 1) := by decide +kernel
theorem dX3_boxHasCharmsFor_18 : decode cX3_boxHasCharmsFor 18 = .ok (.if_icmp .le 5, 3) := by decide +kernel
theorem dX3_boxHasCharmsFor_21 : decode cX3_boxHasCharmsFor 21 = .ok (.iconst 0, 1) := by decide +kernel
theorem dX3_boxHasCharmsFor_22 : decode cX3_boxHasCharmsFor 22 = .ok (.ireturn, 1) := by decide +kernel
theorem dX3_boxHasCharmsFor_23 : decode cX3_boxHasCharmsFor 23 = .ok (.iinc 2 1, 3) := by decide +kernel
theorem dX3_boxHasCharmsFor_26 : decode cX3_boxHasCharmsFor 26 = .ok (.goto (-24), 3) := by decide +kernel
theorem dX3_boxHasCharmsFor_29 : decode cX3_boxHasCharmsFor 29 = .ok (.iconst 1, 1) := by decide +kernel
theorem dX3_boxHasCharmsFor_30 : decode cX3_boxHasCharmsFor 30 = .ok (.ireturn, 1) := by decide +kernel
set_option maxRecDepth 20000 in
theorem ggX3_boxHasRoomFor_X2_charmsOf : GoodIn wsX3_boxHasRoomFor wsX2_charmsOf := goodIn_r _ [5, 6, 7, 8, 9, 3, 10, 11, 17, 18] (by decide +kernel) (by decide +kernel)
set_option maxRecDepth 20000 in
theorem gX3_boxHasRoomFor_X2_charmsOf_n63 : GoodIn wsX3_boxHasRoomFor (wsX2_charmsOf) := ggX3_boxHasRoomFor_X2_charmsOf
theorem dX3_boxHasRoomFor_0 : decode cX3_boxHasRoomFor 0 = .ok (.iconst 1, 1) := by decide +kernel
theorem dX3_boxHasRoomFor_1 : decode cX3_boxHasRoomFor 1 = .ok (.istore_n 2, 1) := by decide +kernel
theorem dX3_boxHasRoomFor_2 : decode cX3_boxHasRoomFor 2 = .ok (.iload_n 2, 1) := by decide +kernel
theorem dX3_boxHasRoomFor_3 : decode cX3_boxHasRoomFor 3 = .ok (.iconst 5, 1) := by decide +kernel
theorem dX3_boxHasRoomFor_4 : decode cX3_boxHasRoomFor 4 = .ok (.if_icmp .gt 28, 3) := by decide +kernel
theorem dX3_boxHasRoomFor_7 : decode cX3_boxHasRoomFor 7 = .ok (.aload_n 0, 1) := by decide +kernel
theorem dX3_boxHasRoomFor_8 : decode cX3_boxHasRoomFor 8 = .ok (.getfield 9, 3) := by decide +kernel
theorem dX3_boxHasRoomFor_11 : decode cX3_boxHasRoomFor 11 = .ok (.iload_n 2, 1) := by decide +kernel
theorem dX3_boxHasRoomFor_12 : decode cX3_boxHasRoomFor 12 = .ok (.iaload, 1) := by decide +kernel
theorem dX3_boxHasRoomFor_13 : decode cX3_boxHasRoomFor 13 = .ok (.aload_n 1, 1) := by decide +kernel
theorem dX3_boxHasRoomFor_14 : decode cX3_boxHasRoomFor 14 = .ok (.iload_n 2, 1) := by decide +kernel
theorem dX3_boxHasRoomFor_15 : decode cX3_boxHasRoomFor 15 = .ok (.invokevirtual 63, 3) := by decide +kernel
theorem dX3_boxHasRoomFor_18 : decode cX3_boxHasRoomFor 18 = .ok (.iadd, 1) := by decide +kernel
theorem dX3_boxHasRoomFor_19 : decode cX3_boxHasRoomFor 19 = .ok (.bipush 99, 2) := by decide +kernel
theorem dX3_boxHasRoomFor_21 : decode cX3_boxHasRoomFor 21 = .ok (.if_icmp .le 5, 3) := by decide +kernel
theorem dX3_boxHasRoomFor_24 : decode cX3_boxHasRoomFor 24 = .ok (.iconst 0, 1) := by decide +kernel
theorem dX3_boxHasRoomFor_25 : decode cX3_boxHasRoomFor 25 = .ok (.ireturn, 1) := by decide +kernel
theorem dX3_boxHasRoomFor_26 : decode cX3_boxHasRoomFor 26 = .ok (.iinc 2 1, 3) := by decide +kernel
theorem dX3_boxHasRoomFor_29 : decode cX3_boxHasRoomFor 29 = .ok (.goto (-27), 3) := by decide +kernel
theorem dX3_boxHasRoomFor_32 : decode cX3_boxHasRoomFor 32 = .ok (.iconst 1, 1) := by decide +kernel
theorem dX3_boxHasRoomFor_33 : decode cX3_boxHasRoomFor 33 = .ok (.ireturn, 1) := by decide +kernel
set_option maxRecDepth 20000 in
theorem ggX3_takeOut_X2_charmsOf : GoodIn wsX3_takeOut wsX2_charmsOf := goodIn_r _ [5, 6, 7, 8, 9, 3, 10, 11, 17, 18] (by decide +kernel) (by decide +kernel)
set_option maxRecDepth 20000 in
theorem gX3_takeOut_X2_charmsOf_n63 : GoodIn wsX3_takeOut (wsX2_charmsOf) := ggX3_takeOut_X2_charmsOf
theorem dX3_takeOut_0 : decode cX3_takeOut 0 = .ok (.iconst 1, 1) := by decide +kernel
theorem dX3_takeOut_1 : decode cX3_takeOut 1 = .ok (.istore_n 2, 1) := by decide +kernel
theorem dX3_takeOut_2 : decode cX3_takeOut 2 = .ok (.iload_n 2, 1) := by decide +kernel
theorem dX3_takeOut_3 : decode cX3_takeOut 3 = .ok (.iconst 5, 1) := by decide +kernel
theorem dX3_takeOut_4 : decode cX3_takeOut 4 = .ok (.if_icmp .gt 23, 3) := by decide +kernel
theorem dX3_takeOut_7 : decode cX3_takeOut 7 = .ok (.aload_n 0, 1) := by decide +kernel
theorem dX3_takeOut_8 : decode cX3_takeOut 8 = .ok (.getfield 9, 3) := by decide +kernel
theorem dX3_takeOut_11 : decode cX3_takeOut 11 = .ok (.iload_n 2, 1) := by decide +kernel
theorem dX3_takeOut_12 : decode cX3_takeOut 12 = .ok (.dup2, 1) := by decide +kernel
theorem dX3_takeOut_13 : decode cX3_takeOut 13 = .ok (.iaload, 1) := by decide +kernel
theorem dX3_takeOut_14 : decode cX3_takeOut 14 = .ok (.aload_n 1, 1) := by decide +kernel
theorem dX3_takeOut_15 : decode cX3_takeOut 15 = .ok (.iload_n 2, 1) := by decide +kernel
theorem dX3_takeOut_16 : decode cX3_takeOut 16 = .ok (.invokevirtual 63, 3) := by decide +kernel
theorem dX3_takeOut_19 : decode cX3_takeOut 19 = .ok (.isub, 1) := by decide +kernel
theorem dX3_takeOut_20 : decode cX3_takeOut 20 = .ok (.iastore, 1) := by decide +kernel
theorem dX3_takeOut_21 : decode cX3_takeOut 21 = .ok (.iinc 2 1, 3) := by decide +kernel
theorem dX3_takeOut_24 : decode cX3_takeOut 24 = .ok (.goto (-22), 3) := by decide +kernel
theorem dX3_takeOut_27 : decode cX3_takeOut 27 = .ok (.return_, 1) := by decide +kernel
set_option maxRecDepth 20000 in
theorem ggX3_putBack_X2_charmsOf : GoodIn wsX3_putBack wsX2_charmsOf := goodIn_r _ [5, 6, 7, 8, 9, 3, 10, 11, 20, 21] (by decide +kernel) (by decide +kernel)
set_option maxRecDepth 20000 in
theorem gX3_putBack_X2_charmsOf_n63 : GoodIn wsX3_putBack (wsX2_charmsOf) := ggX3_putBack_X2_charmsOf
set_option maxRecDepth 20000 in
theorem ggX3_putBack_X2_becomeEmpty : GoodIn wsX3_putBack wsX2_becomeEmpty := goodIn_r _ [14, 6, 11, 20, 21] (by decide +kernel) (by decide +kernel)
set_option maxRecDepth 20000 in
theorem gX3_putBack_X2_becomeEmpty_n67 : GoodIn wsX3_putBack (wsX2_becomeEmpty) := ggX3_putBack_X2_becomeEmpty
theorem dX3_putBack_0 : decode cX3_putBack 0 = .ok (.iconst 1, 1) := by decide +kernel
theorem dX3_putBack_1 : decode cX3_putBack 1 = .ok (.istore_n 2, 1) := by decide +kernel
theorem dX3_putBack_2 : decode cX3_putBack 2 = .ok (.iload_n 2, 1) := by decide +kernel
theorem dX3_putBack_3 : decode cX3_putBack 3 = .ok (.iconst 5, 1) := by decide +kernel
theorem dX3_putBack_4 : decode cX3_putBack 4 = .ok (.if_icmp .gt 23, 3) := by decide +kernel
theorem dX3_putBack_7 : decode cX3_putBack 7 = .ok (.aload_n 0, 1) := by decide +kernel
theorem dX3_putBack_8 : decode cX3_putBack 8 = .ok (.getfield 9, 3) := by decide +kernel
theorem dX3_putBack_11 : decode cX3_putBack 11 = .ok (.iload_n 2, 1) := by decide +kernel
theorem dX3_putBack_12 : decode cX3_putBack 12 = .ok (.dup2, 1) := by decide +kernel
theorem dX3_putBack_13 : decode cX3_putBack 13 = .ok (.iaload, 1) := by decide +kernel
theorem dX3_putBack_14 : decode cX3_putBack 14 = .ok (.aload_n 1, 1) := by decide +kernel
theorem dX3_putBack_15 : decode cX3_putBack 15 = .ok (.iload_n 2, 1) := by decide +kernel
theorem dX3_putBack_16 : decode cX3_putBack 16 = .ok (.invokevirtual 63, 3) := by decide +kernel
theorem dX3_putBack_19 : decode cX3_putBack 19 = .ok (.iadd, 1) := by decide +kernel
theorem dX3_putBack_20 : decode cX3_putBack 20 = .ok (.iastore, 1) := by decide +kernel
theorem dX3_putBack_21 : decode cX3_putBack 21 = .ok (.iinc 2 1, 3) := by decide +kernel
theorem dX3_putBack_24 : decode cX3_putBack 24 = .ok (.goto (-22), 3) := by decide +kernel
theorem dX3_putBack_27 : decode cX3_putBack 27 = .ok (.aload_n 1, 1) := by decide +kernel
theorem dX3_putBack_28 : decode cX3_putBack 28 = .ok (.iconst 0, 1) := by decide +kernel
theorem dX3_putBack_29 : decode cX3_putBack 29 = .ok (.invokevirtual 67, 3) := by decide +kernel
theorem dX3_putBack_32 : decode cX3_putBack 32 = .ok (.return_, 1) := by decide +kernel
set_option maxRecDepth 20000 in
theorem ggX3_weight_X2_at : GoodIn wsX3_weight wsX2_at := goodIn_r _ [5, 6, 15, 16] (by decide +kernel) (by decide +kernel)
set_option maxRecDepth 20000 in
theorem gX3_weight_X2_at_n71 : GoodIn wsX3_weight (wsX2_at) := ggX3_weight_X2_at
set_option maxRecDepth 20000 in
theorem ggX3_weight_X5_isCharm : GoodIn wsX3_weight wsX5_isCharm := goodIn_r _ [9] (by decide +kernel) (by decide +kernel)
set_option maxRecDepth 20000 in
theorem gX3_weight_X5_isCharm_n74 : GoodIn wsX3_weight (wsX5_isCharm) := ggX3_weight_X5_isCharm
theorem dX3_weight_0 : decode cX3_weight 0 = .ok (.iconst 0, 1) := by decide +kernel
theorem dX3_weight_1 : decode cX3_weight 1 = .ok (.istore 4, 2) := by decide +kernel
theorem dX3_weight_3 : decode cX3_weight 3 = .ok (.iload_n 2, 1) := by decide +kernel
theorem dX3_weight_4 : decode cX3_weight 4 = .ok (.istore 5, 2) := by decide +kernel
theorem dX3_weight_6 : decode cX3_weight 6 = .ok (.iload 5, 2) := by decide +kernel
theorem dX3_weight_8 : decode cX3_weight 8 = .ok (.iload_n 3, 1) := by decide +kernel
theorem dX3_weight_9 : decode cX3_weight 9 = .ok (.if_icmp .ge 37, 3) := by decide +kernel
theorem dX3_weight_12 : decode cX3_weight 12 = .ok (.aload_n 1, 1) := by decide +kernel
theorem dX3_weight_13 : decode cX3_weight 13 = .ok (.iload 5, 2) := by decide +kernel
theorem dX3_weight_15 : decode cX3_weight 15 = .ok (.invokevirtual 71, 3) := by decide +kernel
theorem dX3_weight_18 : decode cX3_weight 18 = .ok (.istore 6, 2) := by decide +kernel
theorem dX3_weight_20 : decode cX3_weight 20 = .ok (.iload 6, 2) := by decide +kernel
theorem dX3_weight_22 : decode cX3_weight 22 = .ok (.invokestatic 74, 3) := by decide +kernel
theorem dX3_weight_25 : decode cX3_weight 25 = .ok (.ifCond .eq 15, 3) := by decide +kernel
theorem dX3_weight_28 : decode cX3_weight 28 = .ok (.iload 4, 2) := by decide +kernel
theorem dX3_weight_30 : decode cX3_weight 30 = .ok (.aload_n 0, 1) := by decide +kernel
theorem dX3_weight_31 : decode cX3_weight 31 = .ok (.getfield 15, 3) := by decide +kernel
theorem dX3_weight_34 : decode cX3_weight 34 = .ok (.iload 6, 2) := by decide +kernel
theorem dX3_weight_36 : decode cX3_weight 36 = .ok (.iaload, 1) := by decide +kernel
theorem dX3_weight_37 : decode cX3_weight 37 = .ok (.iadd, 1) := by decide +kernel
theorem dX3_weight_38 : decode cX3_weight 38 = .ok (.istore 4, 2) := by decide +kernel
theorem dX3_weight_40 : decode cX3_weight 40 = .ok (.iinc 5 1, 3) := by decide +kernel
theorem dX3_weight_43 : decode cX3_weight 43 = .ok (.goto (-37), 3) := by decide +kernel
theorem dX3_weight_46 : decode cX3_weight 46 = .ok (.iload 4, 2) := by decide +kernel
theorem dX3_weight_48 : decode cX3_weight 48 = .ok (.ireturn, 1) := by decide +kernel
set_option maxRecDepth 20000 in
theorem ggX3_quarterWeight_X3_weight : GoodIn wsX3_quarterWeight wsX3_weight := goodIn_r _ [5, 6, 7, 8, 9, 10, 11, 12, 13, 14, 17, 18, 19, 20, 21, 15, 16] (by decide +kernel) (by decide +kernel)
set_option maxRecDepth 20000 in
theorem gX3_quarterWeight_X3_weight : GoodIn wsX3_quarterWeight (wsV RX3 78 RX3 yX3_weight wsX3_weight) := goodIn_app (goodIn_of _ (by decide +kernel)) ggX3_quarterWeight_X3_weight
theorem dX3_quarterWeight_0 : decode cX3_quarterWeight 0 = .ok (.aload_n 0, 1) := by decide +kernel
theorem dX3_quarterWeight_1 : decode cX3_quarterWeight 1 = .ok (.aload_n 1, 1) := by decide +kernel
theorem dX3_quarterWeight_2 : decode cX3_quarterWeight 2 = .ok (.iload_n 2, 1) := by decide +kernel
theorem dX3_quarterWeight_3 : decode cX3_quarterWeight 3 = .ok (.aload_n 1, 1) := by decide +kernel
theorem dX3_quarterWeight_4 : decode cX3_quarterWeight 4 = .ok (.getfield 55, 3) := by decide +kernel
theorem dX3_quarterWeight_7 : decode cX3_quarterWeight 7 = .ok (.imul, 1) := by decide +kernel
theorem dX3_quarterWeight_8 : decode cX3_quarterWeight 8 = .ok (.iconst 4, 1) := by decide +kernel
theorem dX3_quarterWeight_9 : decode cX3_quarterWeight 9 = .ok (.idiv, 1) := by decide +kernel
theorem dX3_quarterWeight_10 : decode cX3_quarterWeight 10 = .ok (.iload_n 2, 1) := by decide +kernel
theorem dX3_quarterWeight_11 : decode cX3_quarterWeight 11 = .ok (.iconst 1, 1) := by decide +kernel
theorem dX3_quarterWeight_12 : decode cX3_quarterWeight 12 = .ok (.iadd, 1) := by decide +kernel
theorem dX3_quarterWeight_13 : decode cX3_quarterWeight 13 = .ok (.aload_n 1, 1) := by decide +kernel
theorem dX3_quarterWeight_14 : decode cX3_quarterWeight 14 = .ok (.getfield 55, 3) := by decide +kernel
theorem dX3_quarterWeight_17 : decode cX3_quarterWeight 17 = .ok (.imul, 1) := by decide +kernel
theorem dX3_quarterWeight_18 : decode cX3_quarterWeight 18 = .ok (.iconst 4, 1) := by decide +kernel
theorem dX3_quarterWeight_19 : decode cX3_quarterWeight 19 = .ok (.idiv, 1) := by decide +kernel
theorem dX3_quarterWeight_20 : decode cX3_quarterWeight 20 = .ok (.invokevirtual 78, 3) := by decide +kernel
theorem dX3_quarterWeight_23 : decode cX3_quarterWeight 23 = .ok (.ireturn, 1) := by decide +kernel
set_option maxRecDepth 20000 in
theorem ggX3_lean_X3_quarterWeight : GoodIn wsX3_lean wsX3_quarterWeight := goodIn_r _ [9, 10, 11, 12, 8, 13, 14, 15, 16, 17, 18, 19, 20, 21, 22, 23, 24, 25, 26, 27, 28, 29] (by decide +kernel) (by decide +kernel)
set_option maxRecDepth 20000 in
theorem gX3_lean_X3_quarterWeight : GoodIn wsX3_lean (wsV RX3 82 RX3 yX3_quarterWeight wsX3_quarterWeight) := goodIn_app (goodIn_of _ (by decide +kernel)) ggX3_lean_X3_quarterWeight
theorem dX3_lean_0 : decode cX3_lean 0 = .ok (.aload_n 0, 1) := by decide +kernel
theorem dX3_lean_1 : decode cX3_lean 1 = .ok (.aload_n 1, 1) := by decide +kernel
theorem dX3_lean_2 : decode cX3_lean 2 = .ok (.iconst 0, 1) := by decide +kernel
theorem dX3_lean_3 : decode cX3_lean 3 = .ok (.invokevirtual 82, 3) := by decide +kernel
theorem dX3_lean_6 : decode cX3_lean 6 = .ok (.aload_n 0, 1) := by decide +kernel
theorem dX3_lean_7 : decode cX3_lean 7 = .ok (.aload_n 1, 1) := by decide +kernel
theorem dX3_lean_8 : decode cX3_lean 8 = .ok (.iconst 2, 1) := by decide +kernel
theorem dX3_lean_9 : decode cX3_lean 9 = .ok (.invokevirtual 82, 3) := by decide +kernel
theorem dX3_lean_12 : decode cX3_lean 12 = .ok (.isub, 1) := by decide +kernel
theorem dX3_lean_13 : decode cX3_lean 13 = .ok (.invokestatic 86, 3) := by decide +kernel
theorem dX3_lean_16 : decode cX3_lean 16 = .ok (.aload_n 0, 1) := by decide +kernel
theorem dX3_lean_17 : decode cX3_lean 17 = .ok (.aload_n 1, 1) := by decide +kernel
theorem dX3_lean_18 : decode cX3_lean 18 = .ok (.iconst 1, 1) := by decide +kernel
theorem dX3_lean_19 : decode cX3_lean 19 = .ok (.invokevirtual 82, 3) := by decide +kernel
theorem dX3_lean_22 : decode cX3_lean 22 = .ok (.aload_n 0, 1) := by decide +kernel
theorem dX3_lean_23 : decode cX3_lean 23 = .ok (.aload_n 1, 1) := by decide +kernel
theorem dX3_lean_24 : decode cX3_lean 24 = .ok (.iconst 3, 1) := by decide +kernel
theorem dX3_lean_25 : decode cX3_lean 25 = .ok (.invokevirtual 82, 3) := by decide +kernel
theorem dX3_lean_28 : decode cX3_lean 28 = .ok (.isub, 1) := by decide +kernel
theorem dX3_lean_29 : decode cX3_lean 29 = .ok (.invokestatic 86, 3) := by decide +kernel
theorem dX3_lean_32 : decode cX3_lean 32 = .ok (.iadd, 1) := by decide +kernel
theorem dX3_lean_33 : decode cX3_lean 33 = .ok (.ireturn, 1) := by decide +kernel
theorem dX4_init_0 : decode cX4_init 0 = .ok (.aload_n 0, 1) := by decide +kernel
theorem dX4_init_1 : decode cX4_init 1 = .ok (.invokespecial 3, 3) := by decide +kernel
theorem dX4_init_4 : decode cX4_init 4 = .ok (.aload_n 0, 1) := by decide +kernel
theorem dX4_init_5 : decode cX4_init 5 = .ok (.bipush 60, 2) := by decide +kernel
theorem dX4_init_7 : decode cX4_init 7 = .ok (.newarray .int, 2) := by decide +kernel
theorem dX4_init_9 : decode cX4_init 9 = .ok (.putfield 9, 3) := by decide +kernel
theorem dX4_init_12 : decode cX4_init 12 = .ok (.return_, 1) := by decide +kernel
theorem dJ6_bitCount_0f7a4_0 : decode cJ6_bitCount_0f7a4 0 = .ok (.iload_n 0, 1) := by decide +kernel
theorem dJ6_bitCount_0f7a4_1 : decode cJ6_bitCount_0f7a4 1 = .ok (.iload_n 0, 1) := by decide +kernel
theorem dJ6_bitCount_0f7a4_2 : decode cJ6_bitCount_0f7a4 2 = .ok (.iconst 1, 1) := by decide +kernel
theorem dJ6_bitCount_0f7a4_3 : decode cJ6_bitCount_0f7a4 3 = .ok (.iushr, 1) := by decide +kernel
theorem dJ6_bitCount_0f7a4_4 : decode cJ6_bitCount_0f7a4 4 = .ok (.ldc_w 265, 3) := by decide +kernel
theorem dJ6_bitCount_0f7a4_7 : decode cJ6_bitCount_0f7a4 7 = .ok (.iand, 1) := by decide +kernel
theorem dJ6_bitCount_0f7a4_8 : decode cJ6_bitCount_0f7a4 8 = .ok (.isub, 1) := by decide +kernel
theorem dJ6_bitCount_0f7a4_9 : decode cJ6_bitCount_0f7a4 9 = .ok (.istore_n 0, 1) := by decide +kernel
theorem dJ6_bitCount_0f7a4_10 : decode cJ6_bitCount_0f7a4 10 = .ok (.iload_n 0, 1) := by decide +kernel
theorem dJ6_bitCount_0f7a4_11 : decode cJ6_bitCount_0f7a4 11 = .ok (.ldc_w 266, 3) := by decide +kernel
theorem dJ6_bitCount_0f7a4_14 : decode cJ6_bitCount_0f7a4 14 = .ok (.iand, 1) := by decide +kernel
theorem dJ6_bitCount_0f7a4_15 : decode cJ6_bitCount_0f7a4 15 = .ok (.iload_n 0, 1) := by decide +kernel
theorem dJ6_bitCount_0f7a4_16 : decode cJ6_bitCount_0f7a4 16 = .ok (.iconst 2, 1) := by decide +kernel
theorem dJ6_bitCount_0f7a4_17 : decode cJ6_bitCount_0f7a4 17 = .ok (.iushr, 1) := by decide +kernel
theorem dJ6_bitCount_0f7a4_18 : decode cJ6_bitCount_0f7a4 18 = .ok (.ldc_w 266, 3) := by decide +kernel
theorem dJ6_bitCount_0f7a4_21 : decode cJ6_bitCount_0f7a4 21 = .ok (.iand, 1) := by decide +kernel
theorem dJ6_bitCount_0f7a4_22 : decode cJ6_bitCount_0f7a4 22 = .ok (.iadd, 1) := by decide +kernel
theorem dJ6_bitCount_0f7a4_23 : decode cJ6_bitCount_0f7a4 23 = .ok (.istore_n 0, 1) := by decide +kernel
theorem dJ6_bitCount_0f7a4_24 : decode cJ6_bitCount_0f7a4 24 = .ok (.iload_n 0, 1) := by decide +kernel
theorem dJ6_bitCount_0f7a4_25 : decode cJ6_bitCount_0f7a4 25 = .ok (.iload_n 0, 1) := by decide +kernel
theorem dJ6_bitCount_0f7a4_26 : decode cJ6_bitCount_0f7a4 26 = .ok (.iconst 4, 1) := by decide +kernel
theorem dJ6_bitCount_0f7a4_27 : decode cJ6_bitCount_0f7a4 27 = .ok (.iushr, 1) := by decide +kernel
theorem dJ6_bitCount_0f7a4_28 : decode cJ6_bitCount_0f7a4 28 = .ok (.iadd, 1) := by decide +kernel
theorem dJ6_bitCount_0f7a4_29 : decode cJ6_bitCount_0f7a4 29 = .ok (.ldc_w 267, 3) := by decide +kernel
theorem dJ6_bitCount_0f7a4_32 : decode cJ6_bitCount_0f7a4 32 = .ok (.iand, 1) := by decide +kernel
theorem dJ6_bitCount_0f7a4_33 : decode cJ6_bitCount_0f7a4 33 = .ok (.istore_n 0, 1) := by decide +kernel
theorem dJ6_bitCount_0f7a4_34 : decode cJ6_bitCount_0f7a4 34 = .ok (.iload_n 0, 1) := by decide +kernel
theorem dJ6_bitCount_0f7a4_35 : decode cJ6_bitCount_0f7a4 35 = .ok (.iload_n 0, 1) := by decide +kernel
theorem dJ6_bitCount_0f7a4_36 : decode cJ6_bitCount_0f7a4 36 = .ok (.bipush 8, 2) := by decide +kernel
theorem dJ6_bitCount_0f7a4_38 : decode cJ6_bitCount_0f7a4 38 = .ok (.iushr, 1) := by decide +kernel
theorem dJ6_bitCount_0f7a4_39 : decode cJ6_bitCount_0f7a4 39 = .ok (.iadd, 1) := by decide +kernel
theorem dJ6_bitCount_0f7a4_40 : decode cJ6_bitCount_0f7a4 40 = .ok (.istore_n 0, 1) := by decide +kernel
theorem dJ6_bitCount_0f7a4_41 : decode cJ6_bitCount_0f7a4 41 = .ok (.iload_n 0, 1) := by decide +kernel
theorem dJ6_bitCount_0f7a4_42 : decode cJ6_bitCount_0f7a4 42 = .ok (.iload_n 0, 1) := by decide +kernel
theorem dJ6_bitCount_0f7a4_43 : decode cJ6_bitCount_0f7a4 43 = .ok (.bipush 16, 2) := by decide +kernel
theorem dJ6_bitCount_0f7a4_45 : decode cJ6_bitCount_0f7a4 45 = .ok (.iushr, 1) := by decide +kernel
theorem dJ6_bitCount_0f7a4_46 : decode cJ6_bitCount_0f7a4 46 = .ok (.iadd, 1) := by decide +kernel
theorem dJ6_bitCount_0f7a4_47 : decode cJ6_bitCount_0f7a4 47 = .ok (.istore_n 0, 1) := by decide +kernel
theorem dJ6_bitCount_0f7a4_48 : decode cJ6_bitCount_0f7a4 48 = .ok (.iload_n 0, 1) := by decide +kernel
theorem dJ6_bitCount_0f7a4_49 : decode cJ6_bitCount_0f7a4 49 = .ok (.bipush 63, 2) := by decide +kernel
theorem dJ6_bitCount_0f7a4_51 : decode cJ6_bitCount_0f7a4 51 = .ok (.iand, 1) := by decide +kernel
theorem dJ6_bitCount_0f7a4_52 : decode cJ6_bitCount_0f7a4 52 = .ok (.ireturn, 1) := by decide +kernel
theorem dJ9_abs_0f7a4_0 : decode cJ9_abs_0f7a4 0 = .ok (.iload_n 0, 1) := by decide +kernel
theorem dJ9_abs_0f7a4_1 : decode cJ9_abs_0f7a4 1 = .ok (.ifCond .ge 8, 3) := by decide +kernel
theorem dJ9_abs_0f7a4_4 : decode cJ9_abs_0f7a4 4 = .ok (.iload_n 0, 1) := by decide +kernel
theorem dJ9_abs_0f7a4_5 : decode cJ9_abs_0f7a4 5 = .ok (.ineg, 1) := by decide +kernel
theorem dJ9_abs_0f7a4_6 : decode cJ9_abs_0f7a4 6 = .ok (.goto 4, 3) := by decide +kernel
theorem dJ9_abs_0f7a4_9 : decode cJ9_abs_0f7a4 9 = .ok (.iload_n 0, 1) := by decide +kernel
theorem dJ9_abs_0f7a4_10 : decode cJ9_abs_0f7a4 10 = .ok (.ireturn, 1) := by decide +kernel
theorem dJ9_min_7cf53_0 : decode cJ9_min_7cf53 0 = .ok (.iload_n 0, 1) := by decide +kernel
theorem dJ9_min_7cf53_1 : decode cJ9_min_7cf53 1 = .ok (.iload_n 1, 1) := by decide +kernel
theorem dJ9_min_7cf53_2 : decode cJ9_min_7cf53 2 = .ok (.if_icmp .gt 7, 3) := by decide +kernel
theorem dJ9_min_7cf53_5 : decode cJ9_min_7cf53 5 = .ok (.iload_n 0, 1) := by decide +kernel
theorem dJ9_min_7cf53_6 : decode cJ9_min_7cf53 6 = .ok (.goto 4, 3) := by decide +kernel
theorem dJ9_min_7cf53_9 : decode cJ9_min_7cf53 9 = .ok (.iload_n 1, 1) := by decide +kernel
theorem dJ9_min_7cf53_10 : decode cJ9_min_7cf53 10 = .ok (.ireturn, 1) := by decide +kernel
abbrev vwCl : List vw_C := [(RX0, TX0, 2), (RX1, TX1, 3), (RX2, TX2, 2), (RX3, TX3, 5), (RX4, TX4, 4), (RX5, TX5, 7)]

