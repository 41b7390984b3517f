/-! the law's loop -/
theorem zsw_ca (x : Int32) : ∃ j : Nat, j < 64 ∧ x &&& nI 63 = nI j := pk_andE x 6 (by decide)
set_option maxHeartbeats 4000000 in
set_option maxRecDepth 100000 in
theorem lw_switch {p : Program} {e : Env} {s : State} {m : MethodId} {b L : Nat} {xs : Nat → Int32} {below : List Frame} {meth : Method} {c : Code} {E : zEnv} {ad am : Nat → Nat} {Q : State → Prop} {i : Nat} (F : zLF E p s m c b L xs) (D : zLA ad am s) (hi : i + 3 < L) (kk : zLG p e s m b below meth c E ad am Q i 1309) : zLG p e s m b below meth c E ad am Q i 26 := by
  intro τ H locs hs ls hl
  obtain ⟨S, hG, hX, hbl, hL⟩ := id F
  have hS : va_S (fun q => s.heap.size ≤ q) s.heap H locs := hs.2.2.2
  have hbA : ¬ (fun q : Nat => s.heap.size ≤ q) b := Nat.not_le.mpr hbl
  obtain ⟨hx, hb, hml, hown, hts⟩ := id S
  refine lv_aload_n hx hb dL_law_26 rfl (lv_at hl 0 rfl) ?_
  refine lv_iload_n hx hb dL_law_27 rfl (lv_at hl 3 rfl) ?_
  refine va_sld hx hb hX hbl hbA hS (vp_in_nI (show i < L by omega) (by omega)) dL_law_28 ?_
  refine lv_bipush (v := nI 63) hx hb dL_law_29 (by decide) ?_
  refine lv_iand hx hb dL_law_31 ?_
  obtain ⟨j, hj, ej⟩ := zsw_ca (xs (nI i).toNatClampNeg)
  refine z_top ej ?_
  rcases (show j = 0 ∨ j = 1 ∨ j = 2 ∨ j = 3 ∨ j = 4 ∨ j = 5 ∨ j = 6 ∨ j = 7 ∨ j = 8 ∨ j = 9 ∨ j = 10 ∨ j = 11 ∨ j = 12 ∨ j = 13 ∨ j = 14 ∨ j = 15 ∨ j = 16 ∨ j = 17 ∨ j = 18 ∨ j = 19 ∨ j = 20 ∨ j = 21 ∨ j = 22 ∨ j = 23 ∨ j = 24 ∨ j = 25 ∨ j = 26 ∨ j = 27 ∨ j = 28 ∨ j = 29 ∨ j = 30 ∨ j = 31 ∨ j = 32 ∨ j = 33 ∨ j = 34 ∨ j = 35 ∨ j = 36 ∨ j = 37 ∨ j = 38 ∨ j = 39 ∨ 40 ≤ j by omega) with rfl | rfl | rfl | rfl | rfl | rfl | rfl | rfl | rfl | rfl | rfl | rfl | rfl | rfl | rfl | rfl | rfl | rfl | rfl | rfl | rfl | rfl | rfl | rfl | rfl | rfl | rfl | rfl | rfl | rfl | rfl | rfl | rfl | rfl | rfl | rfl | rfl | rfl | rfl | rfl | hj2
  · refine lv_tableIn (off := 176) (tgt := 208) hx hb dL_law_32 (by decide) (by decide) rfl (by decide) ?_
    exact lw_c_fill F D hi kk τ H locs hs ls hl
  · refine lv_tableIn (off := 209) (tgt := 241) hx hb dL_law_32 (by decide) (by decide) rfl (by decide) ?_
    exact lw_c_weigh F D hi kk τ H locs hs ls hl
  · refine lv_tableIn (off := 242) (tgt := 274) hx hb dL_law_32 (by decide) (by decide) rfl (by decide) ?_
    exact lw_c_kind F D hi kk τ H locs hs ls hl
  · refine lv_tableIn (off := 275) (tgt := 307) hx hb dL_law_32 (by decide) (by decide) rfl (by decide) ?_
    exact lw_c_make F D hi kk τ H locs hs ls hl
  · refine lv_tableIn (off := 298) (tgt := 330) hx hb dL_law_32 (by decide) (by decide) rfl (by decide) ?_
    exact lw_c_copy F D hi kk τ H locs hs ls hl
  · refine lv_tableIn (off := 321) (tgt := 353) hx hb dL_law_32 (by decide) (by decide) rfl (by decide) ?_
    exact lw_c_remove F D hi kk τ H locs hs ls hl
  · refine lv_tableIn (off := 344) (tgt := 376) hx hb dL_law_32 (by decide) (by decide) rfl (by decide) ?_
    exact lw_c_hang F D hi kk τ H locs hs ls hl
  · refine lv_tableIn (off := 387) (tgt := 419) hx hb dL_law_32 (by decide) (by decide) rfl (by decide) ?_
    exact lw_c_takeOff F D hi kk τ H locs hs ls hl
  · refine lv_tableIn (off := 420) (tgt := 452) hx hb dL_law_32 (by decide) (by decide) rfl (by decide) ?_
    exact lw_c_swap F D hi kk τ H locs hs ls hl
  · refine lv_tableIn (off := 463) (tgt := 495) hx hb dL_law_32 (by decide) (by decide) rfl (by decide) ?_
    exact lw_c_roll F D hi kk τ H locs hs ls hl
  · refine lv_tableIn (off := 496) (tgt := 528) hx hb dL_law_32 (by decide) (by decide) rfl (by decide) ?_
    exact lw_c_turn F D hi kk τ H locs hs ls hl
  · refine lv_tableIn (off := 529) (tgt := 561) hx hb dL_law_32 (by decide) (by decide) rfl (by decide) ?_
    exact lw_c_mirror F D hi kk τ H locs hs ls hl
  · refine lv_tableIn (off := 552) (tgt := 584) hx hb dL_law_32 (by decide) (by decide) rfl (by decide) ?_
    exact lw_c_bracelets F D hi kk τ H locs hs ls hl
  · refine lv_tableIn (off := 565) (tgt := 597) hx hb dL_law_32 (by decide) (by decide) rfl (by decide) ?_
    exact lw_c_bracelet F D hi kk τ H locs hs ls hl
  · refine lv_tableIn (off := 598) (tgt := 630) hx hb dL_law_32 (by decide) (by decide) rfl (by decide) ?_
    exact lw_c_slot F D hi kk τ H locs hs ls hl
  · refine lv_tableIn (off := 631) (tgt := 663) hx hb dL_law_32 (by decide) (by decide) rfl (by decide) ?_
    exact lw_c_quarter F D hi kk τ H locs hs ls hl
  · refine lv_tableIn (off := 664) (tgt := 696) hx hb dL_law_32 (by decide) (by decide) rfl (by decide) ?_
    exact lw_c_alike F D hi kk τ H locs hs ls hl
  · refine lv_tableIn (off := 707) (tgt := 739) hx hb dL_law_32 (by decide) (by decide) rfl (by decide) ?_
    exact lw_c_least F D hi kk τ H locs hs ls hl
  · refine lv_tableIn (off := 750) (tgt := 782) hx hb dL_law_32 (by decide) (by decide) rfl (by decide) ?_
    exact lw_c_orbit F D hi kk τ H locs hs ls hl
  · refine lv_tableIn (off := 783) (tgt := 815) hx hb dL_law_32 (by decide) (by decide) rfl (by decide) ?_
    exact lw_c_fixed F D hi kk τ H locs hs ls hl
  · refine lv_tableIn (off := 806) (tgt := 838) hx hb dL_law_32 (by decide) (by decide) rfl (by decide) ?_
    exact lw_c_distance F D hi kk τ H locs hs ls hl
  · refine lv_tableIn (off := 839) (tgt := 871) hx hb dL_law_32 (by decide) (by decide) rfl (by decide) ?_
    exact lw_c_classes F D hi kk τ H locs hs ls hl
  · refine lv_tableIn (off := 883) (tgt := 915) hx hb dL_law_32 (by decide) (by decide) rfl (by decide) ?_
    exact lw_c_setMotif F D hi kk τ H locs hs ls hl
  · refine lv_tableIn (off := 926) (tgt := 958) hx hb dL_law_32 (by decide) (by decide) rfl (by decide) ?_
    exact lw_c_sign F D hi kk τ H locs hs ls hl
  · refine lv_tableIn (off := 959) (tgt := 991) hx hb dL_law_32 (by decide) (by decide) rfl (by decide) ?_
    exact lw_c_cutMotif F D hi kk τ H locs hs ls hl
  · refine lv_tableIn (off := 972) (tgt := 1004) hx hb dL_law_32 (by decide) (by decide) rfl (by decide) ?_
    exact lw_c_motif F D hi kk τ H locs hs ls hl
  · refine lv_tableIn (off := 995) (tgt := 1027) hx hb dL_law_32 (by decide) (by decide) rfl (by decide) ?_
    exact lw_c_motifAt F D hi kk τ H locs hs ls hl
  · refine lv_tableIn (off := 1018) (tgt := 1050) hx hb dL_law_32 (by decide) (by decide) rfl (by decide) ?_
    exact lw_c_staysAt F D hi kk τ H locs hs ls hl
  · refine lv_tableIn (off := 1041) (tgt := 1073) hx hb dL_law_32 (by decide) (by decide) rfl (by decide) ?_
    exact lw_c_note F D hi kk τ H locs hs ls hl
  · refine lv_tableIn (off := 1064) (tgt := 1096) hx hb dL_law_32 (by decide) (by decide) rfl (by decide) ?_
    exact lw_c_entries F D hi kk τ H locs hs ls hl
  · refine lv_tableIn (off := 1077) (tgt := 1109) hx hb dL_law_32 (by decide) (by decide) rfl (by decide) ?_
    exact lw_c_entry F D hi kk τ H locs hs ls hl
  · refine lv_tableIn (off := 1110) (tgt := 1142) hx hb dL_law_32 (by decide) (by decide) rfl (by decide) ?_
    exact lw_c_ifHung F D hi kk τ H locs hs ls hl
  · refine lv_tableIn (off := 1153) (tgt := 1185) hx hb dL_law_32 (by decide) (by decide) rfl (by decide) ?_
    exact lw_c_bestSwap F D hi kk τ H locs hs ls hl
  · refine lv_tableIn (off := 1176) (tgt := 1208) hx hb dL_law_32 (by decide) (by decide) rfl (by decide) ?_
    exact lw_c_append F D hi kk τ H locs hs ls hl
  · refine lv_tableIn (off := 1199) (tgt := 1231) hx hb dL_law_32 (by decide) (by decide) rfl (by decide) ?_
    exact lw_c_clearText F D hi kk τ H locs hs ls hl
  · refine lv_tableIn (off := 1212) (tgt := 1244) hx hb dL_law_32 (by decide) (by decide) rfl (by decide) ?_
    exact lw_c_errorPosition F D hi kk τ H locs hs ls hl
  · refine lv_tableIn (off := 1225) (tgt := 1257) hx hb dL_law_32 (by decide) (by decide) rfl (by decide) ?_
    exact lw_c_read F D hi kk τ H locs hs ls hl
  · refine lv_tableIn (off := 1238) (tgt := 1270) hx hb dL_law_32 (by decide) (by decide) rfl (by decide) ?_
    exact lw_c_undo F D hi kk τ H locs hs ls hl
  · refine lv_tableIn (off := 1251) (tgt := 1283) hx hb dL_law_32 (by decide) (by decide) rfl (by decide) ?_
    exact lw_c_save F D hi kk τ H locs hs ls hl
  · refine lv_tableIn (off := 1264) (tgt := 1296) hx hb dL_law_32 (by decide) (by decide) rfl (by decide) ?_
    exact lw_c_restore F D hi kk τ H locs hs ls hl
  · refine lv_tableOut (tgt := 1309) hx hb dL_law_32 (Or.inr (by rw [nI_toInt (by omega)]; omega)) (by decide) ?_
    exact kk τ H locs hs ls hl
set_option maxHeartbeats 4000000 in
set_option maxRecDepth 100000 in
theorem lw_loop {p : Program} {e : Env} {s : State} {m : MethodId} {b L : Nat} {xs : Nat → Int32} {below : List Frame} {meth : Method} {c : Code} {E : zEnv} {ad am : Nat → Nat} {Q : State → Prop} (F : zLF E p s m c b L xs) (D : zLA ad am s) (hL4 : 4 ≤ L) (kx : ∀ i : Nat, zLG p e s m b below meth c E ad am Q i 1315) : ∀ n i : Nat, i ≤ L → L < i + n → zLG p e s m b below meth c E ad am Q i 18 := by
  intro n
  induction n with
  | zero => intro i h1 h2; exact absurd h2 (by omega)
  | succ n ih =>
    intro i h1 h2 τ H locs hs ls hl
    obtain ⟨S, hG, hX, hbl, hL⟩ := id F
    have hS : va_S (fun q => s.heap.size ≤ q) s.heap H locs := hs.2.2.2
    have hbA : ¬ (fun q : Nat => s.heap.size ≤ q) b := Nat.not_le.mpr hbl
    obtain ⟨hx, hb, hml, hown, hts⟩ := id S
    refine lv_iload_n hx hb dL_law_18 rfl (lv_at hl 3 rfl) ?_
    refine lv_aload_n hx hb dL_law_19 rfl (lv_at hl 0 rfl) ?_
    refine va_slen hx hb hX hbl hbA hS dL_law_20 ?_
    refine z_top (y := nI L) rfl ?_
    refine lv_iconst (v := nI 4) hx hb dL_law_21 (by decide) ?_
    refine z_isub hx hb dL_law_22 hL4 ?_
    refine z_cgt (tgt := 1315) hx hb dL_law_23 (by decide) ⟨by omega, by omega⟩ (fun c_1 => ?_) (fun c_1 => ?_)
    · exact kx i τ H locs hs ls hl
    · refine lw_switch F D (by omega) (fun τ1 H1 locs1 hs1 ls hl => ?_) τ H locs hs ls hl
      refine lv_iinc (v := nI (i + 4)) (lv' := [(3, .int (nI (i + 4))), (0, .ref b), (1, .ref (ad 287)), (2, .ref (am 0))]) hx hb dL_law_1309 hl (k := 3) rfl (z_inc4 _) (by decide) rfl (fun ls hl => ?_)
      refine lv_goto (tgt := 18) hx hb dL_law_1312 (by decide) ?_
      exact ih (i + 4) (by omega) (by omega) τ1 H1 locs1 hs1 ls (lv_sub hl [1, 2, 3, 0] rfl)
set_option maxHeartbeats 4000000 in
set_option maxRecDepth 100000 in
/-- a script of less than four ints -/
theorem lw_short {p : Program} {e : Env} {s : State} {m : MethodId} {b L : Nat} {xs : Nat → Int32} {below : List Frame} {meth : Method} {c : Code} {E : zEnv} {ad am : Nat → Nat} {Q : State → Prop} (F : zLF E p s m c b L xs) (hL4 : L < 4) (kx : zLG p e s m b below meth c E ad am Q 0 1315) : zLG p e s m b below meth c E ad am Q 0 18 := by
  intro τ H locs hs ls hl
  obtain ⟨S, hG, hX, hbl, hL⟩ := id F
  have hS : va_S (fun q => s.heap.size ≤ q) s.heap H locs := hs.2.2.2
  have hbA : ¬ (fun q : Nat => s.heap.size ≤ q) b := Nat.not_le.mpr hbl
  obtain ⟨hx, hb, hml, hown, hts⟩ := id S
  refine lv_iload_n hx hb dL_law_18 rfl (lv_at hl 3 rfl) ?_
  refine lv_aload_n hx hb dL_law_19 rfl (lv_at hl 0 rfl) ?_
  refine va_slen hx hb hX hbl hbA hS dL_law_20 ?_
  refine z_top (y := nI L) rfl ?_
  refine lv_iconst (v := nI 4) hx hb dL_law_21 (by decide) ?_
  refine lv_isub hx hb dL_law_22 ?_
  have e9 : nI L - nI 4 < nI 0 := by
    rcases (show L = 0 ∨ L = 1 ∨ L = 2 ∨ L = 3 by omega) with h | h | h | h <;> rw [h] <;> decide
  refine lv_icmp_gt (tgt := 1315) hx hb dL_law_23 (by decide) (fun _ => ?_) (fun q => absurd e9 q)
  exact kx τ H locs hs ls hl
