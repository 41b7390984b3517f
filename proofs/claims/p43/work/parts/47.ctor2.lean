/-! constructors -/
set_option maxHeartbeats 4000000 in
set_option maxRecDepth 100000 in
theorem c_X3_init (E : zEnv) (a : Nat) : zNW E yX3_init wsX3_init 3 53 a 40 337 (fun H => zat E a (.inr (3, [.null, .null, .null, .null, .null])) H) (fun H => zSt0 E a H) := by
  refine zNW.of (cc := cX3_init) (maxL := 2) rfl (Nat.le_of_ble_eq_true rfl) rfl (fun p e s m args below meth c H Q hF hnm hz f_a hret ls hl => ?_)
  have S : CallFix p m c cX3_init 2 s args wsX3_init RX3 := hF.1
  have hG := hF.2
  obtain ⟨hx, hb, hml, hown, hts⟩ := id S
  have hS : va_S (fun q => a ≤ q) H H [] := va_S.rf
  obtain ⟨locs, hlocs⟩ : ∃ x : List Loc, x = [] := ⟨_, rfl⟩
  rw [← hlocs] at hS ⊢
  have hl : lv_has ls 2 [(0, .ref a)] := hl
  have f_a : zat E a (.inr (3, [.null, .null, .null, .null, .null])) H := f_a
  have hin0 : ∀ w ∈ u_ws RX0 TX0 2, w ∈ wsX3_init := by decide +kernel
  have hin1 : ∀ w ∈ u_ws RX1 TX1 3, w ∈ wsX3_init := by decide +kernel
  have hin2 : ∀ w ∈ u_ws RX2 TX2 2, w ∈ wsX3_init := by decide +kernel
  have hin3 : ∀ w ∈ u_ws RX3 TX3 5, w ∈ wsX3_init := by decide +kernel
  have L83 : ∀ (n i : Nat), i + n = 6 → 0 ≤ i → ∀ (Hn : Heap) (locs : List Loc) (hS : va_S (fun q => a ≤ q) H Hn locs) (hz : Hn.size = a + 29 + 2 * i) (f_a : zat E (a) (.inr (3, [.ref (a + 1), .ref (a + 2), .ref (a + 3), .ref (a + 4), .ref (a + 6)])) Hn) (f_1 : zat E (a + 1) (.inl (zI E, 6, .inl (zb0 6))) Hn) (f_2 : zat E (a + 2) (.inl (zI E, 6, .inl (zw0 6))) Hn) (f_r0 : zat E (a + 3) (.inl (zRg E, 6, .inr (.inr (.inr (.inr (zAQ (a + 29) 2 i)))))) Hn) (f_m : zMo E (a + 4) (a + 4 + 1) 0 (fun _ => 0) Hn) (f_l : zNL0 E (a + 6) Hn) (f_r : ∀ t, t < i → zRing E (a + 29 + 2 * t) (a + 29 + 2 * t + 1) 0 (fun _ => 0) Hn) (ls : Array Slot), lv_has ls 2 [(0, .ref a), (1, .int (nI (i)))] → W p (zl E) e (zRm2 3 53 40 337) s m args below meth c Hn locs (28 + 2 * i) (229 + 18 * i) Q (F0 m 83 ls []) := by
    intro n
    induction n with
    | zero =>
      intro i hi h0 Hn locs hS hz f_a f_1 f_2 f_r0 f_m f_l f_r ls hl
      obtain rfl : i = 6 := by omega
      refine lv_iload_n hx hb dX3_init_83 rfl (lv_at hl 1 rfl) ?_
      refine lv_aload_n hx hb dX3_init_84 rfl (lv_at hl 0 rfl) ?_
      refine z_get (ref := RX3) (C := RX3) (T := TX3) (N := 5) hx hb hts hin3 hown hG.1 f_a rfl 2 (by decide) (by decide +kernel) rfl rfl dX3_init_85 ?_
      refine z_alenR hx hb hG.1 f_r0 dX3_init_88 ?_
      refine z_cge (tgt := 111) hx hb dX3_init_89 (by decide) ⟨by omega, by omega⟩ (fun c_32 => ?_) (fun c_32 => by exfalso; omega)
      refine W.widen (k := 40) (n := 337) (by omega) (by omega) ?_
      exact hret _ _ _ _ hS (by rw [hz]) dX3_init_111 (zSt0_of f_a f_1 f_2 f_r0 f_m f_l f_r)
    | succ n ih =>
      intro i hi h0 Hn locs hS hz f_a f_1 f_2 f_r0 f_m f_l f_r ls hl
      refine lv_iload_n hx hb dX3_init_83 rfl (lv_at hl 1 rfl) ?_
      refine lv_aload_n hx hb dX3_init_84 rfl (lv_at hl 0 rfl) ?_
      refine z_get (ref := RX3) (C := RX3) (T := TX3) (N := 5) hx hb hts hin3 hown hG.1 f_a rfl 2 (by decide) (by decide +kernel) rfl rfl dX3_init_85 ?_
      refine z_alenR hx hb hG.1 f_r0 dX3_init_88 ?_
      refine z_cge (tgt := 111) hx hb dX3_init_89 (by decide) ⟨by omega, by omega⟩ (fun c_33 => by exfalso; omega) (fun c_33 => ?_)
      refine lv_aload_n hx hb dX3_init_92 rfl (lv_at hl 0 rfl) ?_
      refine z_get (ref := RX3) (C := RX3) (T := TX3) (N := 5) hx hb hts hin3 hown hG.1 f_a rfl 2 (by decide) (by decide +kernel) rfl rfl dX3_init_93 ?_
      refine lv_iload_n hx hb dX3_init_96 rfl (lv_at hl 1 rfl) ?_
      refine z_nw (ci := 2) (C := RX2) (T := TX2) (N := 2) (ty0 := tyX2) (fs := [.int (nI (0)), .null]) (o := a + 29 + 2 * i) (c1 := 29 + 2 * i) (s1 := 231 + 18 * i) hx hb hts hin2 tyX2_ok hown ⟨by decide +kernel, by decide +kernel, by decide +kernel⟩ hG.1 rfl (fun j hj => by rcases (show j = 0 ∨ j = 1 by omega) with rfl | rfl <;> rfl) hz ⟨by omega, by show _ ≤ 40; omega, by omega, by show _ ≤ 337; omega⟩ hS dX3_init_97 (fun Hn h_34 z_36 o_35 hS => ?_)
      replace f_a := va_at.kept f_a (o_35 (a) (by omega))
      replace f_1 := va_at.kept f_1 (o_35 (a + 1) (by omega))
      replace f_2 := va_at.kept f_2 (o_35 (a + 2) (by omega))
      replace f_r0 := va_at.kept f_r0 (o_35 (a + 3) (by omega))
      replace f_m : zMo E (a + 4) (a + 4 + 1) 0 (fun _ => 0) Hn := zM_keep f_m (o_35 (a + 4) (by omega)) (o_35 (a + 4 + 1) (by omega))
      replace f_l : zNL0 E (a + 6) Hn := zNL0_keep f_l (fun q q1 q2 => o_35 q (by omega))
      replace f_r : ∀ t, t < i → zRing E (a + 29 + 2 * t) (a + 29 + 2 * t + 1) 0 (fun _ => 0) Hn := fun t ht => zR_keep (f_r t ht) (o_35 (a + 29 + 2 * t) (by omega)) (o_35 (a + 29 + 2 * t + 1) (by omega))
      have f_n : zat E (a + 29 + 2 * i) (.inr (2, [.int (nI (0)), .null])) Hn := h_34
      replace hz : Hn.size = a + 29 + 2 * i + 1 := z_36
      clear z_36
      refine lv_dup hx hb dX3_init_100 rfl ?_
      refine z_ni (rest := [.ref (a + 29 + 2 * i), .int (nI (i)), .ref (a + 3)]) (host := "CharmBracelets") (o := a + 29 + 2 * i) (c1 := 30 + 2 * i) (s1 := 247 + 18 * i) S hG (c_X2_init E (a + 29 + 2 * i)) gX3_init_X2_init_n38 (List.mem_of_getElem? (i := 4) rfl) ⟨by decide +kernel, by decide +kernel⟩ rfl kX2_init.2 rfl ⟨Nat.le_of_ble_eq_true rfl, Nat.le_of_ble_eq_true rfl⟩ f_n hz ⟨⟨by omega, by omega⟩, by show _ ≤ 40; omega, by show _ ≤ 337; omega⟩ hl.1 (Nat.le_of_ble_eq_true rfl) dX3_init_101 hS (fun q hq => by show a ≤ q; omega) (fun Hn locs h_37 z_38 o_39 hS => ?_)
      replace f_a := va_at.kept f_a (o_39 (a) (by omega))
      replace f_1 := va_at.kept f_1 (o_39 (a + 1) (by omega))
      replace f_2 := va_at.kept f_2 (o_39 (a + 2) (by omega))
      replace f_r0 := va_at.kept f_r0 (o_39 (a + 3) (by omega))
      replace f_m : zMo E (a + 4) (a + 4 + 1) 0 (fun _ => 0) Hn := zM_keep f_m (o_39 (a + 4) (by omega)) (o_39 (a + 4 + 1) (by omega))
      replace f_l : zNL0 E (a + 6) Hn := zNL0_keep f_l (fun q q1 q2 => o_39 q (by omega))
      replace f_r : ∀ t, t < i → zRing E (a + 29 + 2 * t) (a + 29 + 2 * t + 1) 0 (fun _ => 0) Hn := fun t ht => zR_keep (f_r t ht) (o_39 (a + 29 + 2 * t) (by omega)) (o_39 (a + 29 + 2 * t + 1) (by omega))
      replace hz : Hn.size = a + 29 + 2 * i + 1 + 1 := by rw [z_38]
      clear z_38
      have f_n : zRing E (a + 29 + 2 * i) (a + 29 + 2 * i + 1) 0 (fun _ => 0) Hn := h_37
      refine z_aastR (j := i) hx hb hG.1 f_r0 f_n.1 ⟨by omega, by omega⟩ hS (by show a ≤ _; omega) dX3_init_104 (fun Hn locs h_40 o_41 hS => ?_)
      replace f_a := va_at.kept f_a (o_41.2 (a) (by omega))
      replace f_1 := va_at.kept f_1 (o_41.2 (a + 1) (by omega))
      replace f_2 := va_at.kept f_2 (o_41.2 (a + 2) (by omega))
      replace f_m : zMo E (a + 4) (a + 4 + 1) 0 (fun _ => 0) Hn := zM_keep f_m (o_41.2 (a + 4) (by omega)) (o_41.2 (a + 4 + 1) (by omega))
      replace f_l : zNL0 E (a + 6) Hn := zNL0_keep f_l (fun q q1 q2 => o_41.2 q (by omega))
      replace f_r : ∀ t, t < i → zRing E (a + 29 + 2 * t) (a + 29 + 2 * t + 1) 0 (fun _ => 0) Hn := fun t ht => zR_keep (f_r t ht) (o_41.2 (a + 29 + 2 * t) (by omega)) (o_41.2 (a + 29 + 2 * t + 1) (by omega))
      replace f_n : zRing E (a + 29 + 2 * i) (a + 29 + 2 * i + 1) 0 (fun _ => 0) Hn := zR_keep f_n (o_41.2 (a + 29 + 2 * i) (by omega)) (o_41.2 (a + 29 + 2 * i + 1) (by omega))
      replace f_r0 : zat E (a + 3) (.inl (zRg E, 6, .inr (.inr (.inr (.inr (zAQ (a + 29) 2 (i + 1))))))) Hn := by rw [← zAQ_s (a + 29) 2 i]; exact h_40
      replace hz : Hn.size = a + 29 + 2 * i + 1 + 1 := o_41.1.trans hz
      refine lv_iinc (v := nI (i + 1)) (lv' := [(1, .int (nI (i + 1))), (0, .ref (a))]) hx hb dX3_init_105 hl (k := 1) rfl (z_inc1 _) (by decide) rfl (fun ls hl => ?_)
      refine lv_goto (tgt := 83) hx hb dX3_init_108 (by decide) ?_
      have f_r : ∀ t, t < i + 1 → zRing E (a + 29 + 2 * t) (a + 29 + 2 * t + 1) 0 (fun _ => 0) Hn := fun t ht => by
        rcases Nat.lt_or_ge t i with q | q
        · exact f_r t q
        · obtain rfl : t = i := by omega
          exact f_n
      refine W.widen (k := 28 + 2 * (i + 1)) (n := 229 + 18 * (i + 1)) (by omega) (by omega) ?_
      exact ih (i + 1) (by omega) (Nat.zero_le _) _ _ hS (by rw [hz]; omega) f_a f_1 f_2 f_r0 f_m f_l f_r ls (lv_sub hl [1, 0] rfl)
  have L53 : ∀ (n i : Nat), i + n = 6 → 1 ≤ i → ∀ (Hn : Heap) (locs : List Loc) (hS : va_S (fun q => a ≤ q) H Hn locs) (hz : Hn.size = a + 29) (f_a : zat E (a) (.inr (3, [.ref (a + 1), .ref (a + 2), .ref (a + 3), .ref (a + 4), .ref (a + 6)])) Hn) (f_1 : zat E (a + 1) (.inl (zI E, 6, .inl (zb0 i))) Hn) (f_2 : zat E (a + 2) (.inl (zI E, 6, .inl (zw0 i))) Hn) (f_3 : zat E (a + 3) (.inl (zRg E, 6, .inr (.inr (.inr (.inr (fun _ => none)))))) Hn) (f_m : zMo E (a + 4) (a + 4 + 1) 0 (fun _ => 0) Hn) (f_l : zNL0 E (a + 6) Hn) (ls : Array Slot), lv_has ls 2 [(0, .ref a), (1, .int (nI (i)))] → W p (zl E) e (zRm2 3 53 40 337) s m args below meth c Hn locs (28) (229) Q (F0 m 53 ls []) := by
    intro n
    induction n with
    | zero =>
      intro i hi h0 Hn locs hS hz f_a f_1 f_2 f_3 f_m f_l ls hl
      obtain rfl : i = 6 := by omega
      refine lv_iload_n hx hb dX3_init_53 rfl (lv_at hl 1 rfl) ?_
      refine lv_iconst (v := nI (5)) hx hb dX3_init_54 (by decide) ?_
      refine z_cgt (tgt := 81) hx hb dX3_init_55 (by decide) ⟨by omega, by omega⟩ (fun c_42 => ?_) (fun c_42 => by exfalso; omega)
      refine lv_iconst (v := nI (0)) hx hb dX3_init_81 (by decide) ?_
      refine lv_istore_n (lv' := [(1, .int (nI (0))), (0, .ref (a))]) hx hb dX3_init_82 rfl hl (by decide) rfl (fun ls hl => ?_)
      have f_r0 : zat E (a + 3) (.inl (zRg E, 6, .inr (.inr (.inr (.inr (zAQ (a + 29) 2 0)))))) Hn := by rw [zAQ_0]; exact f_3
      exact L83 6 0 (by omega) (Nat.le_refl 0) _ _ hS hz f_a f_1 f_2 f_r0 f_m f_l (fun t h => absurd h (Nat.not_lt_zero t)) ls (lv_sub hl [1, 0] rfl)
    | succ n ih =>
      intro i hi h0 Hn locs hS hz f_a f_1 f_2 f_3 f_m f_l ls hl
      refine lv_iload_n hx hb dX3_init_53 rfl (lv_at hl 1 rfl) ?_
      refine lv_iconst (v := nI (5)) hx hb dX3_init_54 (by decide) ?_
      refine z_cgt (tgt := 81) hx hb dX3_init_55 (by decide) ⟨by omega, by omega⟩ (fun c_43 => by exfalso; omega) (fun c_43 => ?_)
      refine lv_aload_n hx hb dX3_init_58 rfl (lv_at hl 0 rfl) ?_
      refine z_get (ref := RX3) (C := RX3) (T := TX3) (N := 5) hx hb hts hin3 hown hG.1 f_a rfl 0 (by decide) (by decide +kernel) rfl rfl dX3_init_59 ?_
      refine lv_iload_n hx hb dX3_init_62 rfl (lv_at hl 1 rfl) ?_
      refine lv_bipush (v := nI (12)) hx hb dX3_init_63 (by decide) ?_
      refine z_iast (j := i) hx hb hG.1 f_1 ⟨by omega, by omega⟩ hS (by show a ≤ _; omega) dX3_init_65 (fun Hn locs h_44 o_45 hS => ?_)
      replace f_a := va_at.kept f_a (o_45.2 (a) (by omega))
      replace f_2 := va_at.kept f_2 (o_45.2 (a + 2) (by omega))
      replace f_3 := va_at.kept f_3 (o_45.2 (a + 3) (by omega))
      replace f_m : zMo E (a + 4) (a + 4 + 1) 0 (fun _ => 0) Hn := zM_keep f_m (o_45.2 (a + 4) (by omega)) (o_45.2 (a + 4 + 1) (by omega))
      replace f_l : zNL0 E (a + 6) Hn := zNL0_keep f_l (fun q q1 q2 => o_45.2 q (by omega))
      replace f_1 : zat E (a + 1) (.inl (zI E, 6, .inl (zb0 (i + 1)))) Hn := by rw [← zb0_s h0]; exact h_44
      replace hz : Hn.size = a + 29 := o_45.1.trans hz
      refine lv_aload_n hx hb dX3_init_66 rfl (lv_at hl 0 rfl) ?_
      refine z_get (ref := RX3) (C := RX3) (T := TX3) (N := 5) hx hb hts hin3 hown hG.1 f_a rfl 1 (by decide) (by decide +kernel) rfl rfl dX3_init_67 ?_
      refine lv_iload_n hx hb dX3_init_70 rfl (lv_at hl 1 rfl) ?_
      refine lv_iconst (v := nI (2)) hx hb dX3_init_71 (by decide) ?_
      refine lv_iload_n hx hb dX3_init_72 rfl (lv_at hl 1 rfl) ?_
      refine z_imul hx hb dX3_init_73 ?_
      refine z_iast (j := i) hx hb hG.1 f_2 ⟨by omega, by omega⟩ hS (by show a ≤ _; omega) dX3_init_74 (fun Hn locs h_46 o_47 hS => ?_)
      replace f_a := va_at.kept f_a (o_47.2 (a) (by omega))
      replace f_1 := va_at.kept f_1 (o_47.2 (a + 1) (by omega))
      replace f_3 := va_at.kept f_3 (o_47.2 (a + 3) (by omega))
      replace f_m : zMo E (a + 4) (a + 4 + 1) 0 (fun _ => 0) Hn := zM_keep f_m (o_47.2 (a + 4) (by omega)) (o_47.2 (a + 4 + 1) (by omega))
      replace f_l : zNL0 E (a + 6) Hn := zNL0_keep f_l (fun q q1 q2 => o_47.2 q (by omega))
      replace f_2 : zat E (a + 2) (.inl (zI E, 6, .inl (zw0 (i + 1)))) Hn := by rw [← zw0_s h0]; exact h_46
      replace hz : Hn.size = a + 29 := o_47.1.trans hz
      refine lv_iinc (v := nI (i + 1)) (lv' := [(1, .int (nI (i + 1))), (0, .ref (a))]) hx hb dX3_init_75 hl (k := 1) rfl (z_inc1 _) (by decide) rfl (fun ls hl => ?_)
      refine lv_goto (tgt := 53) hx hb dX3_init_78 (by decide) ?_
      exact ih (i + 1) (by omega) (by omega) _ _ hS hz f_a f_1 f_2 f_3 f_m f_l ls (lv_sub hl [1, 0] rfl)
  refine lv_aload_n hx hb dX3_init_0 rfl (lv_at hl 0 rfl) ?_
  refine z_oi (own := RX3) (index := 3) hx hb (hml.trans hl.1.symm) hts hown (List.mem_of_getElem? (i := 1) rfl) (List.mem_of_getElem? (i := 2) rfl) (List.mem_of_getElem? (i := 3) rfl) ⟨Nat.le_of_ble_eq_true rfl, Nat.le_of_ble_eq_true rfl⟩ dX3_init_1 ?_
  refine lv_aload_n hx hb dX3_init_4 rfl (lv_at hl 0 rfl) ?_
  refine lv_bipush (v := nI (6)) hx hb dX3_init_5 (by decide) ?_
  refine z_naI (n := 6) (o := a + 1) (c1 := 1) (s1 := 6) hx hb hts hG.1 (by decide +kernel) (by decide) hz ⟨by omega, by show _ ≤ 40; omega, by omega, by show _ ≤ 337; omega⟩ hS dX3_init_7 (fun Hn h_1 z_3 o_2 hS => ?_)
  replace f_a := va_at.kept f_a (o_2 (a) (by omega))
  have f_1 : zat E (a + 1) (.inl (zI E, 6, .inl (fun _ => 0))) Hn := h_1
  replace hz : Hn.size = a + 2 := z_3
  clear z_3
  refine z_putF (C := RX3) (T := TX3) (N := 5) hx hb hts hin3 tyX3_ok nmX3 hown hG.1 f_a rfl 0 (by decide) (by decide +kernel) rfl rfl hnm rfl rfl (Nat.le_of_ble_eq_true rfl) hS (Nat.le_refl a) dX3_init_9 (fun Hn locs h_4 o_5 hS => ?_)
  replace f_1 := va_at.kept f_1 (o_5.2 (a + 1) (by omega))
  replace f_a : zat E (a) (.inr (3, [.ref (a + 1), .null, .null, .null, .null])) Hn := h_4
  replace hz : Hn.size = a + 2 := o_5.1.trans hz
  refine lv_aload_n hx hb dX3_init_12 rfl (lv_at hl 0 rfl) ?_
  refine lv_bipush (v := nI (6)) hx hb dX3_init_13 (by decide) ?_
  refine z_naI (n := 6) (o := a + 2) (c1 := 2) (s1 := 12) hx hb hts hG.1 (by decide +kernel) (by decide) hz ⟨by omega, by show _ ≤ 40; omega, by omega, by show _ ≤ 337; omega⟩ hS dX3_init_15 (fun Hn h_6 z_8 o_7 hS => ?_)
  replace f_a := va_at.kept f_a (o_7 (a) (by omega))
  replace f_1 := va_at.kept f_1 (o_7 (a + 1) (by omega))
  have f_2 : zat E (a + 2) (.inl (zI E, 6, .inl (fun _ => 0))) Hn := h_6
  replace hz : Hn.size = a + 3 := z_8
  clear z_8
  refine z_putF (C := RX3) (T := TX3) (N := 5) hx hb hts hin3 tyX3_ok nmX3 hown hG.1 f_a rfl 1 (by decide) (by decide +kernel) rfl rfl hnm rfl rfl (Nat.le_of_ble_eq_true rfl) hS (Nat.le_refl a) dX3_init_17 (fun Hn locs h_9 o_10 hS => ?_)
  replace f_1 := va_at.kept f_1 (o_10.2 (a + 1) (by omega))
  replace f_2 := va_at.kept f_2 (o_10.2 (a + 2) (by omega))
  replace f_a : zat E (a) (.inr (3, [.ref (a + 1), .ref (a + 2), .null, .null, .null])) Hn := h_9
  replace hz : Hn.size = a + 3 := o_10.1.trans hz
  refine lv_aload_n hx hb dX3_init_20 rfl (lv_at hl 0 rfl) ?_
  refine lv_bipush (v := nI (6)) hx hb dX3_init_21 (by decide) ?_
  refine z_anq (n := 6) (o := a + 3) (i := 2) (c1 := 3) (s1 := 18) hx hb hts hown (by decide +kernel) hG.1 hG.2.1 rfl (by decide) hz ⟨by omega, by show _ ≤ 40; omega, by omega, by show _ ≤ 337; omega⟩ hS dX3_init_23 (fun Hn h_11 z_13 o_12 hS => ?_)
  replace f_a := va_at.kept f_a (o_12 (a) (by omega))
  replace f_1 := va_at.kept f_1 (o_12 (a + 1) (by omega))
  replace f_2 := va_at.kept f_2 (o_12 (a + 2) (by omega))
  have f_3 : zat E (a + 3) (.inl (zRg E, 6, .inr (.inr (.inr (.inr (fun _ => none)))))) Hn := h_11
  replace hz : Hn.size = a + 4 := z_13
  clear z_13
  refine z_putF (C := RX3) (T := TX3) (N := 5) hx hb hts hin3 tyX3_ok nmX3 hown hG.1 f_a rfl 2 (by decide) (by decide +kernel) rfl rfl hnm rfl rfl (Nat.le_of_ble_eq_true rfl) hS (Nat.le_refl a) dX3_init_26 (fun Hn locs h_14 o_15 hS => ?_)
  replace f_1 := va_at.kept f_1 (o_15.2 (a + 1) (by omega))
  replace f_2 := va_at.kept f_2 (o_15.2 (a + 2) (by omega))
  replace f_3 := va_at.kept f_3 (o_15.2 (a + 3) (by omega))
  replace f_a : zat E (a) (.inr (3, [.ref (a + 1), .ref (a + 2), .ref (a + 3), .null, .null])) Hn := h_14
  replace hz : Hn.size = a + 4 := o_15.1.trans hz
  refine lv_aload_n hx hb dX3_init_29 rfl (lv_at hl 0 rfl) ?_
  refine z_nw (ci := 0) (C := RX0) (T := TX0) (N := 2) (ty0 := tyX0) (fs := [.int (nI (0)), .null]) (o := a + 4) (c1 := 4) (s1 := 20) hx hb hts hin0 tyX0_ok hown ⟨by decide +kernel, by decide +kernel, by decide +kernel⟩ hG.1 rfl (fun j hj => by rcases (show j = 0 ∨ j = 1 by omega) with rfl | rfl <;> rfl) hz ⟨by omega, by show _ ≤ 40; omega, by omega, by show _ ≤ 337; omega⟩ hS dX3_init_30 (fun Hn h_16 z_18 o_17 hS => ?_)
  replace f_a := va_at.kept f_a (o_17 (a) (by omega))
  replace f_1 := va_at.kept f_1 (o_17 (a + 1) (by omega))
  replace f_2 := va_at.kept f_2 (o_17 (a + 2) (by omega))
  replace f_3 := va_at.kept f_3 (o_17 (a + 3) (by omega))
  have f_m : zat E (a + 4) (.inr (0, [.int (nI (0)), .null])) Hn := h_16
  replace hz : Hn.size = a + 5 := z_18
  clear z_18
  refine lv_dup hx hb dX3_init_33 rfl ?_
  refine z_ni (rest := [.ref (a + 4), .ref (a)]) (host := "CharmBracelets") (o := a + 4) (c1 := 5) (s1 := 26) S hG (c_X0_init E (a + 4)) gX3_init_X0_init_n26 (List.mem_of_getElem? (i := 1) rfl) ⟨by decide +kernel, by decide +kernel⟩ rfl kX0_init.2 rfl ⟨Nat.le_of_ble_eq_true rfl, Nat.le_of_ble_eq_true rfl⟩ f_m hz ⟨⟨by omega, by omega⟩, by show _ ≤ 40; omega, by show _ ≤ 337; omega⟩ hl.1 (Nat.le_of_ble_eq_true rfl) dX3_init_34 hS (fun q hq => by show a ≤ q; omega) (fun Hn locs h_19 z_20 o_21 hS => ?_)
  replace f_a := va_at.kept f_a (o_21 (a) (by omega))
  replace f_1 := va_at.kept f_1 (o_21 (a + 1) (by omega))
  replace f_2 := va_at.kept f_2 (o_21 (a + 2) (by omega))
  replace f_3 := va_at.kept f_3 (o_21 (a + 3) (by omega))
  replace hz : Hn.size = a + 6 := by rw [z_20]
  clear z_20
  have f_m : zMo E (a + 4) (a + 4 + 1) 0 (fun _ => 0) Hn := h_19
  refine z_putF (C := RX3) (T := TX3) (N := 5) hx hb hts hin3 tyX3_ok nmX3 hown hG.1 f_a rfl 3 (by decide) (by decide +kernel) rfl rfl hnm rfl rfl (Nat.le_of_ble_eq_true rfl) hS (Nat.le_refl a) dX3_init_37 (fun Hn locs h_22 o_23 hS => ?_)
  replace f_1 := va_at.kept f_1 (o_23.2 (a + 1) (by omega))
  replace f_2 := va_at.kept f_2 (o_23.2 (a + 2) (by omega))
  replace f_3 := va_at.kept f_3 (o_23.2 (a + 3) (by omega))
  replace f_m : zMo E (a + 4) (a + 4 + 1) 0 (fun _ => 0) Hn := zM_keep f_m (o_23.2 (a + 4) (by omega)) (o_23.2 (a + 4 + 1) (by omega))
  replace f_a : zat E (a) (.inr (3, [.ref (a + 1), .ref (a + 2), .ref (a + 3), .ref (a + 4), .null])) Hn := h_22
  replace hz : Hn.size = a + 6 := o_23.1.trans hz
  refine lv_aload_n hx hb dX3_init_40 rfl (lv_at hl 0 rfl) ?_
  refine z_nw (ci := 1) (C := RX1) (T := TX1) (N := 3) (ty0 := tyX1) (fs := [.int (nI (0)), .null, .null]) (o := a + 6) (c1 := 6) (s1 := 29) hx hb hts hin1 tyX1_ok hown ⟨by decide +kernel, by decide +kernel, by decide +kernel⟩ hG.1 rfl (fun j hj => by rcases (show j = 0 ∨ j = 1 ∨ j = 2 by omega) with rfl | rfl | rfl <;> rfl) hz ⟨by omega, by show _ ≤ 40; omega, by omega, by show _ ≤ 337; omega⟩ hS dX3_init_41 (fun Hn h_24 z_26 o_25 hS => ?_)
  replace f_a := va_at.kept f_a (o_25 (a) (by omega))
  replace f_1 := va_at.kept f_1 (o_25 (a + 1) (by omega))
  replace f_2 := va_at.kept f_2 (o_25 (a + 2) (by omega))
  replace f_3 := va_at.kept f_3 (o_25 (a + 3) (by omega))
  replace f_m : zMo E (a + 4) (a + 4 + 1) 0 (fun _ => 0) Hn := zM_keep f_m (o_25 (a + 4) (by omega)) (o_25 (a + 4 + 1) (by omega))
  have f_l : zat E (a + 6) (.inr (1, [.int (nI (0)), .null, .null])) Hn := h_24
  replace hz : Hn.size = a + 7 := z_26
  clear z_26
  refine lv_dup hx hb dX3_init_44 rfl ?_
  refine z_ni (rest := [.ref (a + 6), .ref (a)]) (host := "CharmBracelets") (o := a + 6) (c1 := 28) (s1 := 229) S hG (c_X1_init E (a + 6)) gX3_init_X1_init_n33 (List.mem_of_getElem? (i := 2) rfl) ⟨by decide +kernel, by decide +kernel⟩ rfl kX1_init.2 rfl ⟨Nat.le_of_ble_eq_true rfl, Nat.le_of_ble_eq_true rfl⟩ f_l hz ⟨⟨by omega, by omega⟩, by show _ ≤ 40; omega, by show _ ≤ 337; omega⟩ hl.1 (Nat.le_of_ble_eq_true rfl) dX3_init_45 hS (fun q hq => by show a ≤ q; omega) (fun Hn locs h_27 z_28 o_29 hS => ?_)
  replace f_a := va_at.kept f_a (o_29 (a) (by omega))
  replace f_1 := va_at.kept f_1 (o_29 (a + 1) (by omega))
  replace f_2 := va_at.kept f_2 (o_29 (a + 2) (by omega))
  replace f_3 := va_at.kept f_3 (o_29 (a + 3) (by omega))
  replace f_m : zMo E (a + 4) (a + 4 + 1) 0 (fun _ => 0) Hn := zM_keep f_m (o_29 (a + 4) (by omega)) (o_29 (a + 4 + 1) (by omega))
  replace hz : Hn.size = a + 29 := by rw [z_28]
  clear z_28
  have f_l : zNL0 E (a + 6) Hn := h_27
  refine z_putF (C := RX3) (T := TX3) (N := 5) hx hb hts hin3 tyX3_ok nmX3 hown hG.1 f_a rfl 4 (by decide) (by decide +kernel) rfl rfl hnm rfl rfl (Nat.le_of_ble_eq_true rfl) hS (Nat.le_refl a) dX3_init_48 (fun Hn locs h_30 o_31 hS => ?_)
  replace f_1 := va_at.kept f_1 (o_31.2 (a + 1) (by omega))
  replace f_2 := va_at.kept f_2 (o_31.2 (a + 2) (by omega))
  replace f_3 := va_at.kept f_3 (o_31.2 (a + 3) (by omega))
  replace f_m : zMo E (a + 4) (a + 4 + 1) 0 (fun _ => 0) Hn := zM_keep f_m (o_31.2 (a + 4) (by omega)) (o_31.2 (a + 4 + 1) (by omega))
  replace f_l : zNL0 E (a + 6) Hn := zNL0_keep f_l (fun q q1 q2 => o_31.2 q (by omega))
  replace f_a : zat E (a) (.inr (3, [.ref (a + 1), .ref (a + 2), .ref (a + 3), .ref (a + 4), .ref (a + 6)])) Hn := h_30
  replace hz : Hn.size = a + 29 := o_31.1.trans hz
  refine lv_iconst (v := nI (1)) hx hb dX3_init_51 (by decide) ?_
  refine lv_istore_n (lv' := [(1, .int (nI (1))), (0, .ref (a))]) hx hb dX3_init_52 rfl hl (by decide) rfl (fun ls hl => ?_)
  have f_1 : zat E (a + 1) (.inl (zI E, 6, .inl (zb0 1))) Hn := by rw [zb0_0]; exact f_1
  have f_2 : zat E (a + 2) (.inl (zI E, 6, .inl (zw0 1))) Hn := by rw [zw0_0]; exact f_2
  exact L53 5 1 (by omega) (Nat.le_refl 1) _ _ hS hz f_a f_1 f_2 f_3 f_m f_l ls (lv_sub hl [1, 0] rfl)
