/-! constructors -/
set_option maxHeartbeats 4000000 in
set_option maxRecDepth 100000 in
theorem c_X0_init (E : zEnv) (a : Nat) : zNW E yX0_init wsX0_init 1 12 a 1 6 (fun H => zat E a (.inr (0, [.int (nI (0)), .null])) H) (fun H => zMo E a (a + 1) 0 (fun _ => 0) H) := by
  refine zNW.of (cc := cX0_init) (maxL := 1) rfl (Nat.le_of_ble_eq_true rfl) rfl (fun p e s m args below meth c H Q hF hnm hz f_a hret ls hl => ?_)
  have S : CallFix p m c cX0_init 1 s args wsX0_init RX0 := hF.1
  have hG := hF.2
  obtain ⟨hx, hb, hml, hown, hts⟩ := id S
  have hS : va_S (fun q => a ≤ q) H H [] := va_S.rf
  obtain ⟨locs, hlocs⟩ : ∃ x : List Loc, x = [] := ⟨_, rfl⟩
  rw [← hlocs] at hS ⊢
  have hl : lv_has ls 1 [(0, .ref a)] := hl
  have f_a : zat E a (.inr (0, [.int (nI (0)), .null])) H := f_a
  have hin0 : ∀ w ∈ u_ws RX0 TX0 2, w ∈ wsX0_init := by decide +kernel
  refine lv_aload_n hx hb dX0_init_0 rfl (lv_at hl 0 rfl) ?_
  refine z_oi (own := RX0) (index := 3) hx hb (hml.trans hl.1.symm) hts hown (List.mem_of_getElem? (i := 1) rfl) (List.mem_of_getElem? (i := 2) rfl) (List.mem_of_getElem? (i := 3) rfl) ⟨Nat.le_of_ble_eq_true rfl, Nat.le_of_ble_eq_true rfl⟩ dX0_init_1 ?_
  refine lv_aload_n hx hb dX0_init_4 rfl (lv_at hl 0 rfl) ?_
  refine lv_bipush (v := nI (6)) hx hb dX0_init_5 (by decide) ?_
  refine z_naI (n := 6) (o := a + 1) (c1 := 1) (s1 := 6) hx hb hts hG.1 (by decide +kernel) (by decide) hz ⟨by omega, by show _ ≤ 1; omega, by omega, by show _ ≤ 6; omega⟩ hS dX0_init_7 (fun Hn h_1 z_3 o_2 hS => ?_)
  replace f_a := va_at.kept f_a (o_2 (a) (by omega))
  have f_k : zat E (a + 1) (.inl (zI E, 6, .inl (fun _ => 0))) Hn := h_1
  replace hz : Hn.size = a + 2 := z_3
  clear z_3
  refine z_putF (C := RX0) (T := TX0) (N := 2) hx hb hts hin0 tyX0_ok nmX0 hown hG.1 f_a rfl 1 (by decide) (by decide +kernel) rfl rfl hnm rfl rfl (Nat.le_of_ble_eq_true rfl) hS (Nat.le_refl a) dX0_init_9 (fun Hn locs h_4 o_5 hS => ?_)
  replace f_k := va_at.kept f_k (o_5.2 (a + 1) (by omega))
  replace f_a : zat E (a) (.inr (0, [.int (nI (0)), .ref (a + 1)])) Hn := h_4
  replace hz : Hn.size = a + 2 := o_5.1.trans hz
  refine W.widen (k := 1) (n := 6) (by omega) (by omega) ?_
  exact hret _ _ _ _ hS (by rw [hz]) dX0_init_12 (⟨f_a, f_k⟩)
set_option maxHeartbeats 4000000 in
set_option maxRecDepth 100000 in
theorem c_X2_init (E : zEnv) (a : Nat) : zNW E yX2_init wsX2_init 1 12 a 1 16 (fun H => zat E a (.inr (2, [.int (nI (0)), .null])) H) (fun H => zRing E a (a + 1) 0 (fun _ => 0) H) := by
  refine zNW.of (cc := cX2_init) (maxL := 1) rfl (Nat.le_of_ble_eq_true rfl) rfl (fun p e s m args below meth c H Q hF hnm hz f_a hret ls hl => ?_)
  have S : CallFix p m c cX2_init 1 s args wsX2_init RX2 := hF.1
  have hG := hF.2
  obtain ⟨hx, hb, hml, hown, hts⟩ := id S
  have hS : va_S (fun q => a ≤ q) H H [] := va_S.rf
  obtain ⟨locs, hlocs⟩ : ∃ x : List Loc, x = [] := ⟨_, rfl⟩
  rw [← hlocs] at hS ⊢
  have hl : lv_has ls 1 [(0, .ref a)] := hl
  have f_a : zat E a (.inr (2, [.int (nI (0)), .null])) H := f_a
  have hin2 : ∀ w ∈ u_ws RX2 TX2 2, w ∈ wsX2_init := by decide +kernel
  refine lv_aload_n hx hb dX2_init_0 rfl (lv_at hl 0 rfl) ?_
  refine z_oi (own := RX2) (index := 3) hx hb (hml.trans hl.1.symm) hts hown (List.mem_of_getElem? (i := 1) rfl) (List.mem_of_getElem? (i := 2) rfl) (List.mem_of_getElem? (i := 3) rfl) ⟨Nat.le_of_ble_eq_true rfl, Nat.le_of_ble_eq_true rfl⟩ dX2_init_1 ?_
  refine lv_aload_n hx hb dX2_init_4 rfl (lv_at hl 0 rfl) ?_
  refine lv_bipush (v := nI (16)) hx hb dX2_init_5 (by decide) ?_
  refine z_naI (n := 16) (o := a + 1) (c1 := 1) (s1 := 16) hx hb hts hG.1 (by decide +kernel) (by decide) hz ⟨by omega, by show _ ≤ 1; omega, by omega, by show _ ≤ 16; omega⟩ hS dX2_init_7 (fun Hn h_1 z_3 o_2 hS => ?_)
  replace f_a := va_at.kept f_a (o_2 (a) (by omega))
  have f_k : zat E (a + 1) (.inl (zI E, 16, .inl (fun _ => 0))) Hn := h_1
  replace hz : Hn.size = a + 2 := z_3
  clear z_3
  refine z_putF (C := RX2) (T := TX2) (N := 2) hx hb hts hin2 tyX2_ok nmX2 hown hG.1 f_a rfl 1 (by decide) (by decide +kernel) rfl rfl hnm rfl rfl (Nat.le_of_ble_eq_true rfl) hS (Nat.le_refl a) dX2_init_9 (fun Hn locs h_4 o_5 hS => ?_)
  replace f_k := va_at.kept f_k (o_5.2 (a + 1) (by omega))
  replace f_a : zat E (a) (.inr (2, [.int (nI (0)), .ref (a + 1)])) Hn := h_4
  replace hz : Hn.size = a + 2 := o_5.1.trans hz
  refine W.widen (k := 1) (n := 16) (by omega) (by omega) ?_
  exact hret _ _ _ _ hS (by rw [hz]) dX2_init_12 (⟨f_a, f_k⟩)
set_option maxHeartbeats 4000000 in
set_option maxRecDepth 100000 in
theorem c_X4_init (E : zEnv) (a : Nat) : zNW E yX4_init wsX4_init 1 12 a 1 60 (fun H => zat E a (.inr (4, [.int (nI (0)), .null, .int (nI (0)), .int (nI (0))])) H) (fun H => zTxt E a (a + 1) 0 (fun _ => 0) 0 0 H) := by
  refine zNW.of (cc := cX4_init) (maxL := 1) rfl (Nat.le_of_ble_eq_true rfl) rfl (fun p e s m args below meth c H Q hF hnm hz f_a hret ls hl => ?_)
  have S : CallFix p m c cX4_init 1 s args wsX4_init RX4 := hF.1
  have hG := hF.2
  obtain ⟨hx, hb, hml, hown, hts⟩ := id S
  have hS : va_S (fun q => a ≤ q) H H [] := va_S.rf
  obtain ⟨locs, hlocs⟩ : ∃ x : List Loc, x = [] := ⟨_, rfl⟩
  rw [← hlocs] at hS ⊢
  have hl : lv_has ls 1 [(0, .ref a)] := hl
  have f_a : zat E a (.inr (4, [.int (nI (0)), .null, .int (nI (0)), .int (nI (0))])) H := f_a
  have hin4 : ∀ w ∈ u_ws RX4 TX4 4, w ∈ wsX4_init := by decide +kernel
  refine lv_aload_n hx hb dX4_init_0 rfl (lv_at hl 0 rfl) ?_
  refine z_oi (own := RX4) (index := 3) hx hb (hml.trans hl.1.symm) hts hown (List.mem_of_getElem? (i := 1) rfl) (List.mem_of_getElem? (i := 2) rfl) (List.mem_of_getElem? (i := 3) rfl) ⟨Nat.le_of_ble_eq_true rfl, Nat.le_of_ble_eq_true rfl⟩ dX4_init_1 ?_
  refine lv_aload_n hx hb dX4_init_4 rfl (lv_at hl 0 rfl) ?_
  refine lv_bipush (v := nI (60)) hx hb dX4_init_5 (by decide) ?_
  refine z_naI (n := 60) (o := a + 1) (c1 := 1) (s1 := 60) hx hb hts hG.1 (by decide +kernel) (by decide) hz ⟨by omega, by show _ ≤ 1; omega, by omega, by show _ ≤ 60; omega⟩ hS dX4_init_7 (fun Hn h_1 z_3 o_2 hS => ?_)
  replace f_a := va_at.kept f_a (o_2 (a) (by omega))
  have f_k : zat E (a + 1) (.inl (zI E, 60, .inl (fun _ => 0))) Hn := h_1
  replace hz : Hn.size = a + 2 := z_3
  clear z_3
  refine z_putF (C := RX4) (T := TX4) (N := 4) hx hb hts hin4 tyX4_ok nmX4 hown hG.1 f_a rfl 1 (by decide) (by decide +kernel) rfl rfl hnm rfl rfl (Nat.le_of_ble_eq_true rfl) hS (Nat.le_refl a) dX4_init_9 (fun Hn locs h_4 o_5 hS => ?_)
  replace f_k := va_at.kept f_k (o_5.2 (a + 1) (by omega))
  replace f_a : zat E (a) (.inr (4, [.int (nI (0)), .ref (a + 1), .int (nI (0)), .int (nI (0))])) Hn := h_4
  replace hz : Hn.size = a + 2 := o_5.1.trans hz
  refine W.widen (k := 1) (n := 60) (by omega) (by omega) ?_
  exact hret _ _ _ _ hS (by rw [hz]) dX4_init_12 (⟨f_a, f_k⟩)
set_option maxHeartbeats 4000000 in
set_option maxRecDepth 100000 in
theorem c_X1_init (E : zEnv) (a : Nat) : zNW E yX1_init wsX1_init 2 32 a 22 200 (fun H => zat E a (.inr (1, [.int (nI (0)), .null, .null])) H) (fun H => zNL0 E a H) := by
  refine zNW.of (cc := cX1_init) (maxL := 2) rfl (Nat.le_of_ble_eq_true rfl) rfl (fun p e s m args below meth c H Q hF hnm hz f_a hret ls hl => ?_)
  have S : CallFix p m c cX1_init 2 s args wsX1_init RX1 := hF.1
  have hG := hF.2
  obtain ⟨hx, hb, hml, hown, hts⟩ := id S
  have hS : va_S (fun q => a ≤ q) H H [] := va_S.rf
  obtain ⟨locs, hlocs⟩ : ∃ x : List Loc, x = [] := ⟨_, rfl⟩
  rw [← hlocs] at hS ⊢
  have hl : lv_has ls 2 [(0, .ref a)] := hl
  have f_a : zat E a (.inr (1, [.int (nI (0)), .null, .null])) H := f_a
  have hin1 : ∀ w ∈ u_ws RX1 TX1 3, w ∈ wsX1_init := by decide +kernel
  have hin2 : ∀ w ∈ u_ws RX2 TX2 2, w ∈ wsX1_init := by decide +kernel
  have L23 : ∀ (n i : Nat), i + n = 10 → 0 ≤ i → ∀ (Hn : Heap) (locs : List Loc) (hS : va_S (fun q => a ≤ q) H Hn locs) (hz : Hn.size = a + 3 + 2 * i) (f_a : zat E (a) (.inr (1, [.int (nI (0)), .ref (a + 1), .ref (a + 2)])) Hn) (f_2 : zat E (a + 2) (.inl (zI E, 10, .inl (fun _ => 0))) Hn) (f_r0 : zat E (a + 1) (.inl (zRg E, 10, .inr (.inr (.inr (.inr (zAQ (a + 3) 2 i)))))) Hn) (f_r : ∀ t, t < i → zRing E (a + 3 + 2 * t) (a + 3 + 2 * t + 1) 0 (fun _ => 0) Hn) (ls : Array Slot), lv_has ls 2 [(0, .ref a), (1, .int (nI (i)))] → W p (zl E) e (zRm2 2 32 22 200) s m args below meth c Hn locs (2 + 2 * i) (20 + 18 * i) Q (F0 m 23 ls []) := by
    intro n
    induction n with
    | zero =>
      intro i hi h0 Hn locs hS hz f_a f_2 f_r0 f_r ls hl
      obtain rfl : i = 10 := by omega
      refine lv_iload_n hx hb dX1_init_23 rfl (lv_at hl 1 rfl) ?_
      refine lv_aload_n hx hb dX1_init_24 rfl (lv_at hl 0 rfl) ?_
      refine z_get (ref := RX1) (C := RX1) (T := TX1) (N := 3) hx hb hts hin1 hown hG.1 f_a rfl 1 (by decide) (by decide +kernel) rfl rfl dX1_init_25 ?_
      refine z_alenR hx hb hG.1 f_r0 dX1_init_28 ?_
      refine z_cge (tgt := 51) hx hb dX1_init_29 (by decide) ⟨by omega, by omega⟩ (fun c_11 => ?_) (fun c_11 => by exfalso; omega)
      refine W.widen (k := 22) (n := 200) (by omega) (by omega) ?_
      exact hret _ _ _ _ hS (by rw [hz]) dX1_init_51 (⟨f_a, f_r0, f_2, f_r⟩)
    | succ n ih =>
      intro i hi h0 Hn locs hS hz f_a f_2 f_r0 f_r ls hl
      refine lv_iload_n hx hb dX1_init_23 rfl (lv_at hl 1 rfl) ?_
      refine lv_aload_n hx hb dX1_init_24 rfl (lv_at hl 0 rfl) ?_
      refine z_get (ref := RX1) (C := RX1) (T := TX1) (N := 3) hx hb hts hin1 hown hG.1 f_a rfl 1 (by decide) (by decide +kernel) rfl rfl dX1_init_25 ?_
      refine z_alenR hx hb hG.1 f_r0 dX1_init_28 ?_
      refine z_cge (tgt := 51) hx hb dX1_init_29 (by decide) ⟨by omega, by omega⟩ (fun c_12 => by exfalso; omega) (fun c_12 => ?_)
      refine lv_aload_n hx hb dX1_init_32 rfl (lv_at hl 0 rfl) ?_
      refine z_get (ref := RX1) (C := RX1) (T := TX1) (N := 3) hx hb hts hin1 hown hG.1 f_a rfl 1 (by decide) (by decide +kernel) rfl rfl dX1_init_33 ?_
      refine lv_iload_n hx hb dX1_init_36 rfl (lv_at hl 1 rfl) ?_
      refine z_nw (ci := 2) (C := RX2) (T := TX2) (N := 2) (ty0 := tyX2) (fs := [.int (nI (0)), .null]) (o := a + 3 + 2 * i) (c1 := 3 + 2 * i) (s1 := 22 + 18 * i) hx hb hts hin2 tyX2_ok hown ⟨by decide +kernel, by decide +kernel, by decide +kernel⟩ hG.1 rfl (fun j hj => by rcases (show j = 0 ∨ j = 1 by omega) with rfl | rfl <;> rfl) hz ⟨by omega, by show _ ≤ 22; omega, by omega, by show _ ≤ 200; omega⟩ hS dX1_init_37 (fun Hn h_13 z_15 o_14 hS => ?_)
      replace f_a := va_at.kept f_a (o_14 (a) (by omega))
      replace f_2 := va_at.kept f_2 (o_14 (a + 2) (by omega))
      replace f_r0 := va_at.kept f_r0 (o_14 (a + 1) (by omega))
      replace f_r : ∀ t, t < i → zRing E (a + 3 + 2 * t) (a + 3 + 2 * t + 1) 0 (fun _ => 0) Hn := fun t ht => zR_keep (f_r t ht) (o_14 (a + 3 + 2 * t) (by omega)) (o_14 (a + 3 + 2 * t + 1) (by omega))
      have f_n : zat E (a + 3 + 2 * i) (.inr (2, [.int (nI (0)), .null])) Hn := h_13
      replace hz : Hn.size = a + 3 + 2 * i + 1 := z_15
      clear z_15
      refine lv_dup hx hb dX1_init_40 rfl ?_
      refine z_ni (rest := [.ref (a + 3 + 2 * i), .int (nI (i)), .ref (a + 1)]) (host := "CharmBracelets") (o := a + 3 + 2 * i) (c1 := 4 + 2 * i) (s1 := 38 + 18 * i) S hG (c_X2_init E (a + 3 + 2 * i)) gX1_init_X2_init_n21 (List.mem_of_getElem? (i := 3) rfl) ⟨by decide +kernel, by decide +kernel⟩ rfl kX2_init.2 rfl ⟨Nat.le_of_ble_eq_true rfl, Nat.le_of_ble_eq_true rfl⟩ f_n hz ⟨⟨by omega, by omega⟩, by show _ ≤ 22; omega, by show _ ≤ 200; omega⟩ hl.1 (Nat.le_of_ble_eq_true rfl) dX1_init_41 hS (fun q hq => by show a ≤ q; omega) (fun Hn locs h_16 z_17 o_18 hS => ?_)
      replace f_a := va_at.kept f_a (o_18 (a) (by omega))
      replace f_2 := va_at.kept f_2 (o_18 (a + 2) (by omega))
      replace f_r0 := va_at.kept f_r0 (o_18 (a + 1) (by omega))
      replace f_r : ∀ t, t < i → zRing E (a + 3 + 2 * t) (a + 3 + 2 * t + 1) 0 (fun _ => 0) Hn := fun t ht => zR_keep (f_r t ht) (o_18 (a + 3 + 2 * t) (by omega)) (o_18 (a + 3 + 2 * t + 1) (by omega))
      replace hz : Hn.size = a + 3 + 2 * i + 1 + 1 := by rw [z_17]
      clear z_17
      have f_n : zRing E (a + 3 + 2 * i) (a + 3 + 2 * i + 1) 0 (fun _ => 0) Hn := h_16
      refine z_aastR (j := i) hx hb hG.1 f_r0 f_n.1 ⟨by omega, by omega⟩ hS (by show a ≤ _; omega) dX1_init_44 (fun Hn locs h_19 o_20 hS => ?_)
      replace f_a := va_at.kept f_a (o_20.2 (a) (by omega))
      replace f_2 := va_at.kept f_2 (o_20.2 (a + 2) (by omega))
      replace f_r : ∀ t, t < i → zRing E (a + 3 + 2 * t) (a + 3 + 2 * t + 1) 0 (fun _ => 0) Hn := fun t ht => zR_keep (f_r t ht) (o_20.2 (a + 3 + 2 * t) (by omega)) (o_20.2 (a + 3 + 2 * t + 1) (by omega))
      replace f_n : zRing E (a + 3 + 2 * i) (a + 3 + 2 * i + 1) 0 (fun _ => 0) Hn := zR_keep f_n (o_20.2 (a + 3 + 2 * i) (by omega)) (o_20.2 (a + 3 + 2 * i + 1) (by omega))
      replace f_r0 : zat E (a + 1) (.inl (zRg E, 10, .inr (.inr (.inr (.inr (zAQ (a + 3) 2 (i + 1))))))) Hn := by rw [← zAQ_s (a + 3) 2 i]; exact h_19
      replace hz : Hn.size = a + 3 + 2 * i + 1 + 1 := o_20.1.trans hz
      refine lv_iinc (v := nI (i + 1)) (lv' := [(1, .int (nI (i + 1))), (0, .ref (a))]) hx hb dX1_init_45 hl (k := 1) rfl (z_inc1 _) (by decide) rfl (fun ls hl => ?_)
      refine lv_goto (tgt := 23) hx hb dX1_init_48 (by decide) ?_
      have f_r : ∀ t, t < i + 1 → zRing E (a + 3 + 2 * t) (a + 3 + 2 * t + 1) 0 (fun _ => 0) Hn := fun t ht => by
        rcases Nat.lt_or_ge t i with q | q
        · exact f_r t q
        · obtain rfl : t = i := by omega
          exact f_n
      refine W.widen (k := 2 + 2 * (i + 1)) (n := 20 + 18 * (i + 1)) (by omega) (by omega) ?_
      exact ih (i + 1) (by omega) (Nat.zero_le _) _ _ hS (by rw [hz]; omega) f_a f_2 f_r0 f_r ls (lv_sub hl [1, 0] rfl)
  refine lv_aload_n hx hb dX1_init_0 rfl (lv_at hl 0 rfl) ?_
  refine z_oi (own := RX1) (index := 3) hx hb (hml.trans hl.1.symm) hts hown (List.mem_of_getElem? (i := 1) rfl) (List.mem_of_getElem? (i := 2) rfl) (List.mem_of_getElem? (i := 3) rfl) ⟨Nat.le_of_ble_eq_true rfl, Nat.le_of_ble_eq_true rfl⟩ dX1_init_1 ?_
  refine lv_aload_n hx hb dX1_init_4 rfl (lv_at hl 0 rfl) ?_
  refine lv_bipush (v := nI (10)) hx hb dX1_init_5 (by decide) ?_
  refine z_anq (n := 10) (o := a + 1) (i := 2) (c1 := 1) (s1 := 10) hx hb hts hown (by decide +kernel) hG.1 hG.2.1 rfl (by decide) hz ⟨by omega, by show _ ≤ 22; omega, by omega, by show _ ≤ 200; omega⟩ hS dX1_init_7 (fun Hn h_1 z_3 o_2 hS => ?_)
  replace f_a := va_at.kept f_a (o_2 (a) (by omega))
  have f_1 : zat E (a + 1) (.inl (zRg E, 10, .inr (.inr (.inr (.inr (fun _ => none)))))) Hn := h_1
  replace hz : Hn.size = a + 2 := z_3
  clear z_3
  refine z_putF (C := RX1) (T := TX1) (N := 3) hx hb hts hin1 tyX1_ok nmX1 hown hG.1 f_a rfl 1 (by decide) (by decide +kernel) rfl rfl hnm rfl rfl (Nat.le_of_ble_eq_true rfl) hS (Nat.le_refl a) dX1_init_10 (fun Hn locs h_4 o_5 hS => ?_)
  replace f_1 := va_at.kept f_1 (o_5.2 (a + 1) (by omega))
  replace f_a : zat E (a) (.inr (1, [.int (nI (0)), .ref (a + 1), .null])) Hn := h_4
  replace hz : Hn.size = a + 2 := o_5.1.trans hz
  refine lv_aload_n hx hb dX1_init_13 rfl (lv_at hl 0 rfl) ?_
  refine lv_bipush (v := nI (10)) hx hb dX1_init_14 (by decide) ?_
  refine z_naI (n := 10) (o := a + 2) (c1 := 2) (s1 := 20) hx hb hts hG.1 (by decide +kernel) (by decide) hz ⟨by omega, by show _ ≤ 22; omega, by omega, by show _ ≤ 200; omega⟩ hS dX1_init_16 (fun Hn h_6 z_8 o_7 hS => ?_)
  replace f_a := va_at.kept f_a (o_7 (a) (by omega))
  replace f_1 := va_at.kept f_1 (o_7 (a + 1) (by omega))
  have f_2 : zat E (a + 2) (.inl (zI E, 10, .inl (fun _ => 0))) Hn := h_6
  replace hz : Hn.size = a + 3 := z_8
  clear z_8
  refine z_putF (C := RX1) (T := TX1) (N := 3) hx hb hts hin1 tyX1_ok nmX1 hown hG.1 f_a rfl 2 (by decide) (by decide +kernel) rfl rfl hnm rfl rfl (Nat.le_of_ble_eq_true rfl) hS (Nat.le_refl a) dX1_init_18 (fun Hn locs h_9 o_10 hS => ?_)
  replace f_1 := va_at.kept f_1 (o_10.2 (a + 1) (by omega))
  replace f_2 := va_at.kept f_2 (o_10.2 (a + 2) (by omega))
  replace f_a : zat E (a) (.inr (1, [.int (nI (0)), .ref (a + 1), .ref (a + 2)])) Hn := h_9
  replace hz : Hn.size = a + 3 := o_10.1.trans hz
  refine lv_iconst (v := nI (0)) hx hb dX1_init_21 (by decide) ?_
  refine lv_istore_n (lv' := [(1, .int (nI (0))), (0, .ref (a))]) hx hb dX1_init_22 rfl hl (by decide) rfl (fun ls hl => ?_)
  have f_r0 : zat E (a + 1) (.inl (zRg E, 10, .inr (.inr (.inr (.inr (zAQ (a + 3) 2 0)))))) Hn := by rw [zAQ_0]; exact f_1
  exact L23 10 0 (by omega) (Nat.le_refl 0) _ _ hS hz f_a f_2 f_r0 (fun t h => absurd h (Nat.not_lt_zero t)) ls (lv_sub hl [1, 0] rfl)
