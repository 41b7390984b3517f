/-! constructors -/
set_option maxHeartbeats 4000000 in
set_option maxRecDepth 100000 in
theorem c_X5_init (E : zEnv) (a : Nat) : zNW E yX5_init wsX5_init 4 74 a 292 2481 (fun H => zat E a (.inr (5, [.null, .null, .null, .null, .null, .int (nI (0)), .int (nI (0))])) H) (fun H => zCWt E (fun k => a + zgf k) zt0 H) := by
  refine zNW.of (cc := cX5_init) (maxL := 2) rfl (Nat.le_of_ble_eq_true rfl) rfl (fun p e s m args below meth c H Q hF hnm hz f_a hret ls hl => ?_)
  have S : CallFix p m c cX5_init 2 s args wsX5_init RX5 := hF.1
  have hG := hF.2
  obtain ⟨hx, hb, hml, hown, hts⟩ := id S
  have hS : va_S (fun q => a ≤ q) H H [] := va_S.rf
  obtain ⟨locs, hlocs⟩ : ∃ x : List Loc, x = [] := ⟨_, rfl⟩
  rw [← hlocs] at hS ⊢
  have hl : lv_has ls 2 [(0, .ref a)] := hl
  have f_a : zat E a (.inr (5, [.null, .null, .null, .null, .null, .int (nI (0)), .int (nI (0))])) H := f_a
  have hin2 : ∀ w ∈ u_ws RX2 TX2 2, w ∈ wsX5_init := by decide +kernel
  have hin3 : ∀ w ∈ u_ws RX3 TX3 5, w ∈ wsX5_init := by decide +kernel
  have hin4 : ∀ w ∈ u_ws RX4 TX4 4, w ∈ wsX5_init := by decide +kernel
  have hin5 : ∀ w ∈ u_ws RX5 TX5 7, w ∈ wsX5_init := by decide +kernel
  have L58 : ∀ (n i : Nat), i + n = 5 → 0 ≤ i → ∀ (Hn : Heap) (locs : List Loc) (hS : va_S (fun q => a ≤ q) H Hn locs) (hz : Hn.size = a + 88 + 41 * i) (f_a : zat E (a) (.inr (5, [.ref (a + 1), .ref (a + 42), .ref (a + 83), .ref (a + 84), .ref (a + 86), .int (nI (0)), .int (nI (0))])) Hn) (f_h : zat E (a + 83) (.inl (zSt E, 5, .inr (.inr (.inr (.inr (zAQ (a + 88) 41 i)))))) Hn) (f_w : zSt0 E (a + 1) Hn) (f_s : zSt0 E (a + 42) Hn) (f_t : zTxt E (a + 84) (a + 84 + 1) 0 (fun _ => 0) 0 0 Hn) (f_g : zRing E (a + 86) (a + 86 + 1) 0 (fun _ => 0) Hn) (f_r : ∀ t, t < i → zSt0 E (a + 88 + 41 * t) Hn) (ls : Array Slot), lv_has ls 2 [(0, .ref a), (1, .int (nI (i)))] → W p (zl E) e (zRm2 4 74 292 2481) s m args below meth c Hn locs (87 + 41 * i) (771 + 342 * i) Q (F0 m 58 ls []) := by
    intro n
    induction n with
    | zero =>
      intro i hi h0 Hn locs hS hz f_a f_h f_w f_s f_t f_g f_r ls hl
      obtain rfl : i = 5 := by omega
      refine lv_iload_n hx hb dX5_init_58 rfl (lv_at hl 1 rfl) ?_
      refine lv_aload_n hx hb dX5_init_59 rfl (lv_at hl 0 rfl) ?_
      refine z_get (ref := RX5) (C := RX5) (T := TX5) (N := 7) hx hb hts hin5 hown hG.1 f_a rfl 2 (by decide) (by decide +kernel) rfl rfl dX5_init_60 ?_
      refine z_alenS hx hb hG.1 f_h dX5_init_63 ?_
      refine z_cge (tgt := 86) hx hb dX5_init_64 (by decide) ⟨by omega, by omega⟩ (fun c_38 => ?_) (fun c_38 => by exfalso; omega)
      refine W.widen (k := 292) (n := 2481) (by omega) (by omega) ?_
      exact hret _ _ _ _ hS (by rw [hz]) dX5_init_86 (zCWt_of f_a f_w f_s f_h f_t f_g f_r)
    | succ n ih =>
      intro i hi h0 Hn locs hS hz f_a f_h f_w f_s f_t f_g f_r ls hl
      refine lv_iload_n hx hb dX5_init_58 rfl (lv_at hl 1 rfl) ?_
      refine lv_aload_n hx hb dX5_init_59 rfl (lv_at hl 0 rfl) ?_
      refine z_get (ref := RX5) (C := RX5) (T := TX5) (N := 7) hx hb hts hin5 hown hG.1 f_a rfl 2 (by decide) (by decide +kernel) rfl rfl dX5_init_60 ?_
      refine z_alenS hx hb hG.1 f_h dX5_init_63 ?_
      refine z_cge (tgt := 86) hx hb dX5_init_64 (by decide) ⟨by omega, by omega⟩ (fun c_39 => by exfalso; omega) (fun c_39 => ?_)
      refine lv_aload_n hx hb dX5_init_67 rfl (lv_at hl 0 rfl) ?_
      refine z_get (ref := RX5) (C := RX5) (T := TX5) (N := 7) hx hb hts hin5 hown hG.1 f_a rfl 2 (by decide) (by decide +kernel) rfl rfl dX5_init_68 ?_
      refine lv_iload_n hx hb dX5_init_71 rfl (lv_at hl 1 rfl) ?_
      refine z_nw (ci := 3) (C := RX3) (T := TX3) (N := 5) (ty0 := tyX3) (fs := [.null, .null, .null, .null, .null]) (o := a + 88 + 41 * i) (c1 := 88 + 41 * i) (s1 := 776 + 342 * i) hx hb hts hin3 tyX3_ok hown ⟨by decide +kernel, by decide +kernel, by decide +kernel⟩ hG.1 rfl (fun j hj => by rcases (show j = 0 ∨ j = 1 ∨ j = 2 ∨ j = 3 ∨ j = 4 by omega) with rfl | rfl | rfl | rfl | rfl <;> rfl) hz ⟨by omega, by show _ ≤ 292; omega, by omega, by show _ ≤ 2481; omega⟩ hS dX5_init_72 (fun Hn h_40 z_42 o_41 hS => ?_)
      replace f_a := va_at.kept f_a (o_41 (a) (by omega))
      replace f_h := va_at.kept f_h (o_41 (a + 83) (by omega))
      replace f_w : zSt0 E (a + 1) Hn := zSt0_keep f_w (fun q q1 q2 => o_41 q (by omega))
      replace f_s : zSt0 E (a + 42) Hn := zSt0_keep f_s (fun q q1 q2 => o_41 q (by omega))
      replace f_t : zTxt E (a + 84) (a + 84 + 1) 0 (fun _ => 0) 0 0 Hn := ⟨va_at.kept f_t.1 (o_41 (a + 84) (by omega)), va_at.kept f_t.2 (o_41 (a + 84 + 1) (by omega))⟩
      replace f_g : zRing E (a + 86) (a + 86 + 1) 0 (fun _ => 0) Hn := zR_keep f_g (o_41 (a + 86) (by omega)) (o_41 (a + 86 + 1) (by omega))
      replace f_r : ∀ t, t < i → zSt0 E (a + 88 + 41 * t) Hn := fun t ht => zSt0_keep (f_r t ht) (fun q q1 q2 => o_41 q (by omega))
      have f_n : zat E (a + 88 + 41 * i) (.inr (3, [.null, .null, .null, .null, .null])) Hn := h_40
      replace hz : Hn.size = a + 88 + 41 * i + 1 := z_42
      clear z_42
      refine lv_dup hx hb dX5_init_75 rfl ?_
      refine z_ni (rest := [.ref (a + 88 + 41 * i), .int (nI (i)), .ref (a + 83)]) (host := "CharmBracelets") (o := a + 88 + 41 * i) (c1 := 128 + 41 * i) (s1 := 1113 + 342 * i) S hG (c_X3_init E (a + 88 + 41 * i)) gX5_init_X3_init_n9 (List.mem_of_getElem? (i := 0) rfl) ⟨by decide +kernel, by decide +kernel⟩ rfl kX3_init.2 rfl ⟨Nat.le_of_ble_eq_true rfl, Nat.le_of_ble_eq_true rfl⟩ f_n hz ⟨⟨by omega, by omega⟩, by show _ ≤ 292; omega, by show _ ≤ 2481; omega⟩ hl.1 (Nat.le_of_ble_eq_true rfl) dX5_init_76 hS (fun q hq => by show a ≤ q; omega) (fun Hn locs h_43 z_44 o_45 hS => ?_)
      replace f_a := va_at.kept f_a (o_45 (a) (by omega))
      replace f_h := va_at.kept f_h (o_45 (a + 83) (by omega))
      replace f_w : zSt0 E (a + 1) Hn := zSt0_keep f_w (fun q q1 q2 => o_45 q (by omega))
      replace f_s : zSt0 E (a + 42) Hn := zSt0_keep f_s (fun q q1 q2 => o_45 q (by omega))
      replace f_t : zTxt E (a + 84) (a + 84 + 1) 0 (fun _ => 0) 0 0 Hn := ⟨va_at.kept f_t.1 (o_45 (a + 84) (by omega)), va_at.kept f_t.2 (o_45 (a + 84 + 1) (by omega))⟩
      replace f_g : zRing E (a + 86) (a + 86 + 1) 0 (fun _ => 0) Hn := zR_keep f_g (o_45 (a + 86) (by omega)) (o_45 (a + 86 + 1) (by omega))
      replace f_r : ∀ t, t < i → zSt0 E (a + 88 + 41 * t) Hn := fun t ht => zSt0_keep (f_r t ht) (fun q q1 q2 => o_45 q (by omega))
      replace hz : Hn.size = a + 88 + 41 * i + 1 + 40 := by rw [z_44]
      clear z_44
      have f_n : zSt0 E (a + 88 + 41 * i) Hn := h_43
      refine z_aastS (j := i) hx hb hG.1 f_h f_n.1 ⟨by omega, by omega⟩ hS (by show a ≤ _; omega) dX5_init_79 (fun Hn locs h_46 o_47 hS => ?_)
      replace f_a := va_at.kept f_a (o_47.2 (a) (by omega))
      replace f_w : zSt0 E (a + 1) Hn := zSt0_keep f_w (fun q q1 q2 => o_47.2 q (by omega))
      replace f_s : zSt0 E (a + 42) Hn := zSt0_keep f_s (fun q q1 q2 => o_47.2 q (by omega))
      replace f_t : zTxt E (a + 84) (a + 84 + 1) 0 (fun _ => 0) 0 0 Hn := ⟨va_at.kept f_t.1 (o_47.2 (a + 84) (by omega)), va_at.kept f_t.2 (o_47.2 (a + 84 + 1) (by omega))⟩
      replace f_g : zRing E (a + 86) (a + 86 + 1) 0 (fun _ => 0) Hn := zR_keep f_g (o_47.2 (a + 86) (by omega)) (o_47.2 (a + 86 + 1) (by omega))
      replace f_r : ∀ t, t < i → zSt0 E (a + 88 + 41 * t) Hn := fun t ht => zSt0_keep (f_r t ht) (fun q q1 q2 => o_47.2 q (by omega))
      replace f_n : zSt0 E (a + 88 + 41 * i) Hn := zSt0_keep f_n (fun q q1 q2 => o_47.2 q (by omega))
      replace f_h : zat E (a + 83) (.inl (zSt E, 5, .inr (.inr (.inr (.inr (zAQ (a + 88) 41 (i + 1))))))) Hn := by rw [← zAQ_s (a + 88) 41 i]; exact h_46
      replace hz : Hn.size = a + 88 + 41 * i + 1 + 40 := o_47.1.trans hz
      refine lv_iinc (v := nI (i + 1)) (lv' := [(1, .int (nI (i + 1))), (0, .ref (a))]) hx hb dX5_init_80 hl (k := 1) rfl (z_inc1 _) (by decide) rfl (fun ls hl => ?_)
      refine lv_goto (tgt := 58) hx hb dX5_init_83 (by decide) ?_
      have f_r : ∀ t, t < i + 1 → zSt0 E (a + 88 + 41 * t) Hn := fun t ht => by
        rcases Nat.lt_or_ge t i with q | q
        · exact f_r t q
        · obtain rfl : t = i := by omega
          exact f_n
      refine W.widen (k := 87 + 41 * (i + 1)) (n := 771 + 342 * (i + 1)) (by omega) (by omega) ?_
      exact ih (i + 1) (by omega) (Nat.zero_le _) _ _ hS (by rw [hz]; omega) f_a f_h f_w f_s f_t f_g f_r ls (lv_sub hl [1, 0] rfl)
  refine lv_aload_n hx hb dX5_init_0 rfl (lv_at hl 0 rfl) ?_
  refine z_oi (own := RX5) (index := 1) hx hb (hml.trans hl.1.symm) hts hown (List.mem_of_getElem? (i := 1) rfl) (List.mem_of_getElem? (i := 2) rfl) (List.mem_of_getElem? (i := 3) rfl) ⟨Nat.le_of_ble_eq_true rfl, Nat.le_of_ble_eq_true rfl⟩ dX5_init_1 ?_
  refine lv_aload_n hx hb dX5_init_4 rfl (lv_at hl 0 rfl) ?_
  refine z_nw (ci := 3) (C := RX3) (T := TX3) (N := 5) (ty0 := tyX3) (fs := [.null, .null, .null, .null, .null]) (o := a + 1) (c1 := 1) (s1 := 5) hx hb hts hin3 tyX3_ok hown ⟨by decide +kernel, by decide +kernel, by decide +kernel⟩ hG.1 rfl (fun j hj => by rcases (show j = 0 ∨ j = 1 ∨ j = 2 ∨ j = 3 ∨ j = 4 by omega) with rfl | rfl | rfl | rfl | rfl <;> rfl) hz ⟨by omega, by show _ ≤ 292; omega, by omega, by show _ ≤ 2481; omega⟩ hS dX5_init_5 (fun Hn h_1 z_3 o_2 hS => ?_)
  replace f_a := va_at.kept f_a (o_2 (a) (by omega))
  have f_w : zat E (a + 1) (.inr (3, [.null, .null, .null, .null, .null])) Hn := h_1
  replace hz : Hn.size = a + 2 := z_3
  clear z_3
  refine lv_dup hx hb dX5_init_8 rfl ?_
  refine z_ni (rest := [.ref (a + 1), .ref (a)]) (host := "CharmBracelets") (o := a + 1) (c1 := 41) (s1 := 342) S hG (c_X3_init E (a + 1)) gX5_init_X3_init_n9 (List.mem_of_getElem? (i := 0) rfl) ⟨by decide +kernel, by decide +kernel⟩ rfl kX3_init.2 rfl ⟨Nat.le_of_ble_eq_true rfl, Nat.le_of_ble_eq_true rfl⟩ f_w hz ⟨⟨by omega, by omega⟩, by show _ ≤ 292; omega, by show _ ≤ 2481; omega⟩ hl.1 (Nat.le_of_ble_eq_true rfl) dX5_init_9 hS (fun q hq => by show a ≤ q; omega) (fun Hn locs h_4 z_5 o_6 hS => ?_)
  replace f_a := va_at.kept f_a (o_6 (a) (by omega))
  replace hz : Hn.size = a + 42 := by rw [z_5]
  clear z_5
  have f_w : zSt0 E (a + 1) Hn := h_4
  refine z_putF (C := RX5) (T := TX5) (N := 7) hx hb hts hin5 tyX5_ok nmX5 hown hG.1 f_a rfl 0 (by decide) (by decide +kernel) rfl rfl hnm rfl rfl (Nat.le_of_ble_eq_true rfl) hS (Nat.le_refl a) dX5_init_12 (fun Hn locs h_7 o_8 hS => ?_)
  replace f_w : zSt0 E (a + 1) Hn := zSt0_keep f_w (fun q q1 q2 => o_8.2 q (by omega))
  replace f_a : zat E (a) (.inr (5, [.ref (a + 1), .null, .null, .null, .null, .int (nI (0)), .int (nI (0))])) Hn := h_7
  replace hz : Hn.size = a + 42 := o_8.1.trans hz
  refine lv_aload_n hx hb dX5_init_15 rfl (lv_at hl 0 rfl) ?_
  refine z_nw (ci := 3) (C := RX3) (T := TX3) (N := 5) (ty0 := tyX3) (fs := [.null, .null, .null, .null, .null]) (o := a + 42) (c1 := 42) (s1 := 347) hx hb hts hin3 tyX3_ok hown ⟨by decide +kernel, by decide +kernel, by decide +kernel⟩ hG.1 rfl (fun j hj => by rcases (show j = 0 ∨ j = 1 ∨ j = 2 ∨ j = 3 ∨ j = 4 by omega) with rfl | rfl | rfl | rfl | rfl <;> rfl) hz ⟨by omega, by show _ ≤ 292; omega, by omega, by show _ ≤ 2481; omega⟩ hS dX5_init_16 (fun Hn h_9 z_11 o_10 hS => ?_)
  replace f_a := va_at.kept f_a (o_10 (a) (by omega))
  replace f_w : zSt0 E (a + 1) Hn := zSt0_keep f_w (fun q q1 q2 => o_10 q (by omega))
  have f_s : zat E (a + 42) (.inr (3, [.null, .null, .null, .null, .null])) Hn := h_9
  replace hz : Hn.size = a + 43 := z_11
  clear z_11
  refine lv_dup hx hb dX5_init_19 rfl ?_
  refine z_ni (rest := [.ref (a + 42), .ref (a)]) (host := "CharmBracelets") (o := a + 42) (c1 := 82) (s1 := 684) S hG (c_X3_init E (a + 42)) gX5_init_X3_init_n9 (List.mem_of_getElem? (i := 0) rfl) ⟨by decide +kernel, by decide +kernel⟩ rfl kX3_init.2 rfl ⟨Nat.le_of_ble_eq_true rfl, Nat.le_of_ble_eq_true rfl⟩ f_s hz ⟨⟨by omega, by omega⟩, by show _ ≤ 292; omega, by show _ ≤ 2481; omega⟩ hl.1 (Nat.le_of_ble_eq_true rfl) dX5_init_20 hS (fun q hq => by show a ≤ q; omega) (fun Hn locs h_12 z_13 o_14 hS => ?_)
  replace f_a := va_at.kept f_a (o_14 (a) (by omega))
  replace f_w : zSt0 E (a + 1) Hn := zSt0_keep f_w (fun q q1 q2 => o_14 q (by omega))
  replace hz : Hn.size = a + 83 := by rw [z_13]
  clear z_13
  have f_s : zSt0 E (a + 42) Hn := h_12
  refine z_putF (C := RX5) (T := TX5) (N := 7) hx hb hts hin5 tyX5_ok nmX5 hown hG.1 f_a rfl 1 (by decide) (by decide +kernel) rfl rfl hnm rfl rfl (Nat.le_of_ble_eq_true rfl) hS (Nat.le_refl a) dX5_init_23 (fun Hn locs h_15 o_16 hS => ?_)
  replace f_w : zSt0 E (a + 1) Hn := zSt0_keep f_w (fun q q1 q2 => o_16.2 q (by omega))
  replace f_s : zSt0 E (a + 42) Hn := zSt0_keep f_s (fun q q1 q2 => o_16.2 q (by omega))
  replace f_a : zat E (a) (.inr (5, [.ref (a + 1), .ref (a + 42), .null, .null, .null, .int (nI (0)), .int (nI (0))])) Hn := h_15
  replace hz : Hn.size = a + 83 := o_16.1.trans hz
  refine lv_aload_n hx hb dX5_init_26 rfl (lv_at hl 0 rfl) ?_
  refine lv_iconst (v := nI (5)) hx hb dX5_init_27 (by decide) ?_
  refine z_anq (n := 5) (o := a + 83) (i := 3) (c1 := 83) (s1 := 689) hx hb hts hown (by decide +kernel) hG.1 hG.2.2 rfl (by decide) hz ⟨by omega, by show _ ≤ 292; omega, by omega, by show _ ≤ 2481; omega⟩ hS dX5_init_28 (fun Hn h_17 z_19 o_18 hS => ?_)
  replace f_a := va_at.kept f_a (o_18 (a) (by omega))
  replace f_w : zSt0 E (a + 1) Hn := zSt0_keep f_w (fun q q1 q2 => o_18 q (by omega))
  replace f_s : zSt0 E (a + 42) Hn := zSt0_keep f_s (fun q q1 q2 => o_18 q (by omega))
  have f_h : zat E (a + 83) (.inl (zSt E, 5, .inr (.inr (.inr (.inr (fun _ => none)))))) Hn := h_17
  replace hz : Hn.size = a + 84 := z_19
  clear z_19
  refine z_putF (C := RX5) (T := TX5) (N := 7) hx hb hts hin5 tyX5_ok nmX5 hown hG.1 f_a rfl 2 (by decide) (by decide +kernel) rfl rfl hnm rfl rfl (Nat.le_of_ble_eq_true rfl) hS (Nat.le_refl a) dX5_init_31 (fun Hn locs h_20 o_21 hS => ?_)
  replace f_h := va_at.kept f_h (o_21.2 (a + 83) (by omega))
  replace f_w : zSt0 E (a + 1) Hn := zSt0_keep f_w (fun q q1 q2 => o_21.2 q (by omega))
  replace f_s : zSt0 E (a + 42) Hn := zSt0_keep f_s (fun q q1 q2 => o_21.2 q (by omega))
  replace f_a : zat E (a) (.inr (5, [.ref (a + 1), .ref (a + 42), .ref (a + 83), .null, .null, .int (nI (0)), .int (nI (0))])) Hn := h_20
  replace hz : Hn.size = a + 84 := o_21.1.trans hz
  refine lv_aload_n hx hb dX5_init_34 rfl (lv_at hl 0 rfl) ?_
  refine z_nw (ci := 4) (C := RX4) (T := TX4) (N := 4) (ty0 := tyX4) (fs := [.int (nI (0)), .null, .int (nI (0)), .int (nI (0))]) (o := a + 84) (c1 := 84) (s1 := 693) hx hb hts hin4 tyX4_ok hown ⟨by decide +kernel, by decide +kernel, by decide +kernel⟩ hG.1 rfl (fun j hj => by rcases (show j = 0 ∨ j = 1 ∨ j = 2 ∨ j = 3 by omega) with rfl | rfl | rfl | rfl <;> rfl) hz ⟨by omega, by show _ ≤ 292; omega, by omega, by show _ ≤ 2481; omega⟩ hS dX5_init_35 (fun Hn h_22 z_24 o_23 hS => ?_)
  replace f_a := va_at.kept f_a (o_23 (a) (by omega))
  replace f_h := va_at.kept f_h (o_23 (a + 83) (by omega))
  replace f_w : zSt0 E (a + 1) Hn := zSt0_keep f_w (fun q q1 q2 => o_23 q (by omega))
  replace f_s : zSt0 E (a + 42) Hn := zSt0_keep f_s (fun q q1 q2 => o_23 q (by omega))
  have f_t : zat E (a + 84) (.inr (4, [.int (nI (0)), .null, .int (nI (0)), .int (nI (0))])) Hn := h_22
  replace hz : Hn.size = a + 85 := z_24
  clear z_24
  refine lv_dup hx hb dX5_init_38 rfl ?_
  refine z_ni (rest := [.ref (a + 84), .ref (a)]) (host := "CharmBracelets") (o := a + 84) (c1 := 85) (s1 := 753) S hG (c_X4_init E (a + 84)) gX5_init_X4_init_n25 (List.mem_of_getElem? (i := 5) rfl) ⟨by decide +kernel, by decide +kernel⟩ rfl kX4_init.2 rfl ⟨Nat.le_of_ble_eq_true rfl, Nat.le_of_ble_eq_true rfl⟩ f_t hz ⟨⟨by omega, by omega⟩, by show _ ≤ 292; omega, by show _ ≤ 2481; omega⟩ hl.1 (Nat.le_of_ble_eq_true rfl) dX5_init_39 hS (fun q hq => by show a ≤ q; omega) (fun Hn locs h_25 z_26 o_27 hS => ?_)
  replace f_a := va_at.kept f_a (o_27 (a) (by omega))
  replace f_h := va_at.kept f_h (o_27 (a + 83) (by omega))
  replace f_w : zSt0 E (a + 1) Hn := zSt0_keep f_w (fun q q1 q2 => o_27 q (by omega))
  replace f_s : zSt0 E (a + 42) Hn := zSt0_keep f_s (fun q q1 q2 => o_27 q (by omega))
  replace hz : Hn.size = a + 86 := by rw [z_26]
  clear z_26
  have f_t : zTxt E (a + 84) (a + 84 + 1) 0 (fun _ => 0) 0 0 Hn := h_25
  refine z_putF (C := RX5) (T := TX5) (N := 7) hx hb hts hin5 tyX5_ok nmX5 hown hG.1 f_a rfl 3 (by decide) (by decide +kernel) rfl rfl hnm rfl rfl (Nat.le_of_ble_eq_true rfl) hS (Nat.le_refl a) dX5_init_42 (fun Hn locs h_28 o_29 hS => ?_)
  replace f_h := va_at.kept f_h (o_29.2 (a + 83) (by omega))
  replace f_w : zSt0 E (a + 1) Hn := zSt0_keep f_w (fun q q1 q2 => o_29.2 q (by omega))
  replace f_s : zSt0 E (a + 42) Hn := zSt0_keep f_s (fun q q1 q2 => o_29.2 q (by omega))
  replace f_t : zTxt E (a + 84) (a + 84 + 1) 0 (fun _ => 0) 0 0 Hn := ⟨va_at.kept f_t.1 (o_29.2 (a + 84) (by omega)), va_at.kept f_t.2 (o_29.2 (a + 84 + 1) (by omega))⟩
  replace f_a : zat E (a) (.inr (5, [.ref (a + 1), .ref (a + 42), .ref (a + 83), .ref (a + 84), .null, .int (nI (0)), .int (nI (0))])) Hn := h_28
  replace hz : Hn.size = a + 86 := o_29.1.trans hz
  refine lv_aload_n hx hb dX5_init_45 rfl (lv_at hl 0 rfl) ?_
  refine z_nw (ci := 2) (C := RX2) (T := TX2) (N := 2) (ty0 := tyX2) (fs := [.int (nI (0)), .null]) (o := a + 86) (c1 := 86) (s1 := 755) hx hb hts hin2 tyX2_ok hown ⟨by decide +kernel, by decide +kernel, by decide +kernel⟩ hG.1 rfl (fun j hj => by rcases (show j = 0 ∨ j = 1 by omega) with rfl | rfl <;> rfl) hz ⟨by omega, by show _ ≤ 292; omega, by omega, by show _ ≤ 2481; omega⟩ hS dX5_init_46 (fun Hn h_30 z_32 o_31 hS => ?_)
  replace f_a := va_at.kept f_a (o_31 (a) (by omega))
  replace f_h := va_at.kept f_h (o_31 (a + 83) (by omega))
  replace f_w : zSt0 E (a + 1) Hn := zSt0_keep f_w (fun q q1 q2 => o_31 q (by omega))
  replace f_s : zSt0 E (a + 42) Hn := zSt0_keep f_s (fun q q1 q2 => o_31 q (by omega))
  replace f_t : zTxt E (a + 84) (a + 84 + 1) 0 (fun _ => 0) 0 0 Hn := ⟨va_at.kept f_t.1 (o_31 (a + 84) (by omega)), va_at.kept f_t.2 (o_31 (a + 84 + 1) (by omega))⟩
  have f_g : zat E (a + 86) (.inr (2, [.int (nI (0)), .null])) Hn := h_30
  replace hz : Hn.size = a + 87 := z_32
  clear z_32
  refine lv_dup hx hb dX5_init_49 rfl ?_
  refine z_ni (rest := [.ref (a + 86), .ref (a)]) (host := "CharmBracelets") (o := a + 86) (c1 := 87) (s1 := 771) S hG (c_X2_init E (a + 86)) gX5_init_X2_init_n32 (List.mem_of_getElem? (i := 6) rfl) ⟨by decide +kernel, by decide +kernel⟩ rfl kX2_init.2 rfl ⟨Nat.le_of_ble_eq_true rfl, Nat.le_of_ble_eq_true rfl⟩ f_g hz ⟨⟨by omega, by omega⟩, by show _ ≤ 292; omega, by show _ ≤ 2481; omega⟩ hl.1 (Nat.le_of_ble_eq_true rfl) dX5_init_50 hS (fun q hq => by show a ≤ q; omega) (fun Hn locs h_33 z_34 o_35 hS => ?_)
  replace f_a := va_at.kept f_a (o_35 (a) (by omega))
  replace f_h := va_at.kept f_h (o_35 (a + 83) (by omega))
  replace f_w : zSt0 E (a + 1) Hn := zSt0_keep f_w (fun q q1 q2 => o_35 q (by omega))
  replace f_s : zSt0 E (a + 42) Hn := zSt0_keep f_s (fun q q1 q2 => o_35 q (by omega))
  replace f_t : zTxt E (a + 84) (a + 84 + 1) 0 (fun _ => 0) 0 0 Hn := ⟨va_at.kept f_t.1 (o_35 (a + 84) (by omega)), va_at.kept f_t.2 (o_35 (a + 84 + 1) (by omega))⟩
  replace hz : Hn.size = a + 88 := by rw [z_34]
  clear z_34
  have f_g : zRing E (a + 86) (a + 86 + 1) 0 (fun _ => 0) Hn := h_33
  refine z_putF (C := RX5) (T := TX5) (N := 7) hx hb hts hin5 tyX5_ok nmX5 hown hG.1 f_a rfl 4 (by decide) (by decide +kernel) rfl rfl hnm rfl rfl (Nat.le_of_ble_eq_true rfl) hS (Nat.le_refl a) dX5_init_53 (fun Hn locs h_36 o_37 hS => ?_)
  replace f_h := va_at.kept f_h (o_37.2 (a + 83) (by omega))
  replace f_w : zSt0 E (a + 1) Hn := zSt0_keep f_w (fun q q1 q2 => o_37.2 q (by omega))
  replace f_s : zSt0 E (a + 42) Hn := zSt0_keep f_s (fun q q1 q2 => o_37.2 q (by omega))
  replace f_t : zTxt E (a + 84) (a + 84 + 1) 0 (fun _ => 0) 0 0 Hn := ⟨va_at.kept f_t.1 (o_37.2 (a + 84) (by omega)), va_at.kept f_t.2 (o_37.2 (a + 84 + 1) (by omega))⟩
  replace f_g : zRing E (a + 86) (a + 86 + 1) 0 (fun _ => 0) Hn := zR_keep f_g (o_37.2 (a + 86) (by omega)) (o_37.2 (a + 86 + 1) (by omega))
  replace f_a : zat E (a) (.inr (5, [.ref (a + 1), .ref (a + 42), .ref (a + 83), .ref (a + 84), .ref (a + 86), .int (nI (0)), .int (nI (0))])) Hn := h_36
  replace hz : Hn.size = a + 88 := o_37.1.trans hz
  refine lv_iconst (v := nI (0)) hx hb dX5_init_56 (by decide) ?_
  refine lv_istore_n (lv' := [(1, .int (nI (0))), (0, .ref (a))]) hx hb dX5_init_57 rfl hl (by decide) rfl (fun ls hl => ?_)
  have f_h : zat E (a + 83) (.inl (zSt E, 5, .inr (.inr (.inr (.inr (zAQ (a + 88) 41 0)))))) Hn := by rw [zAQ_0]; exact f_h
  exact L58 5 0 (by omega) (Nat.le_refl 0) _ _ hS hz f_a f_h f_w f_s f_t f_g (fun t h => absurd h (Nat.not_lt_zero t)) ls (lv_sub hl [1, 0] rfl)
