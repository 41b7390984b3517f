/-! constructors -/
set_option maxHeartbeats 4000000 in
set_option maxRecDepth 100000 in
theorem c_X6_init (E : zEnv) (a : Nat) : zNW E yX6_init wsX6_init 1 12 a 6 2192 (fun H => zat E a (.inr (6, [.null, .null, .int (nI (0)), .null, .int (nI (0)), .null, .int (nI (0)), .null, .null, .int (nI (0)), .int (nI (0))])) H) (fun H => zMWt E (fun k => a + k) zt0 H) := by
  refine zNW.of (cc := cX6_init) (maxL := 2) rfl (Nat.le_of_ble_eq_true rfl) rfl (fun p e s m args below meth c H Q hF hnm hz f_a hret ls hl => ?_)
  have S : CallFix p m c cX6_init 2 s args wsX6_init RX6 := hF.1
  have hG := hF.2
  obtain ⟨hx, hb, hml, hown, hts⟩ := id S
  have hS : va_S (fun q => a ≤ q) H H [] := va_S.rf
  obtain ⟨locs, hlocs⟩ : ∃ x : List Loc, x = [] := ⟨_, rfl⟩
  rw [← hlocs] at hS ⊢
  have hl : lv_has ls 2 [(0, .ref a)] := hl
  have f_a : zat E a (.inr (6, [.null, .null, .int (nI (0)), .null, .int (nI (0)), .null, .int (nI (0)), .null, .null, .int (nI (0)), .int (nI (0))])) H := f_a
  have hin6 : ∀ w ∈ u_ws RX6 TX6 11, w ∈ wsX6_init := by decide +kernel
  have L57 : ∀ (n i : Nat), i + n = 6 → 1 ≤ i → ∀ (Hn : Heap) (locs : List Loc) (hS : va_S (fun q => a ≤ q) H Hn locs) (hz : Hn.size = a + 7) (f_a : zat E (a) (.inr (6, [.ref (a + 1), .ref (a + 2), .int (nI (0)), .ref (a + 3), .int (nI (0)), .ref (a + 4), .int (nI (0)), .ref (a + 5), .ref (a + 6), .int (nI (0)), .int (nI (0))])) Hn) (f_1 : zat E (a + 1) (.inl (zI E, 300, .inl (zm0 i))) Hn) (f_2 : zat E (a + 2) (.inl (zI E, 1500, .inl (fun _ => 0))) Hn) (f_3 : zat E (a + 3) (.inl (zI E, 300, .inl (fun _ => 0))) Hn) (f_4 : zat E (a + 4) (.inl (zC E, 60, .inl (fun _ => 0))) Hn) (f_5 : zat E (a + 5) (.inl (zI E, 16, .inl (fun _ => 0))) Hn) (f_6 : zat E (a + 6) (.inl (zI E, 16, .inl (fun _ => 0))) Hn) (ls : Array Slot), lv_has ls 2 [(0, .ref a), (1, .int (nI (i)))] → W p (zl E) e (zRm2 1 12 6 2192) s m args below meth c Hn locs (6) (2192) Q (F0 m 57 ls []) := by
    intro n
    induction n with
    | zero =>
      intro i hi h0 Hn locs hS hz f_a f_1 f_2 f_3 f_4 f_5 f_6  ls hl
      obtain rfl : i = 6 := by omega
      refine lv_iload_n hx hb dX6_init_57 rfl (lv_at hl 1 rfl) ?_
      refine lv_iconst (v := nI (5)) hx hb dX6_init_58 (by decide) ?_
      refine z_cgt (tgt := 93) hx hb dX6_init_59 (by decide) ⟨by omega, by omega⟩ (fun c_31 => ?_) (fun c_31 => by exfalso; omega)
      refine W.widen (k := 6) (n := 2192) (by omega) (by omega) ?_
      exact hret _ _ _ _ hS (by rw [hz]) dX6_init_93 (zMWt_of f_a f_1 f_2 f_3 f_4 f_5 f_6)
    | succ n ih =>
      intro i hi h0 Hn locs hS hz f_a f_1 f_2 f_3 f_4 f_5 f_6  ls hl
      refine lv_iload_n hx hb dX6_init_57 rfl (lv_at hl 1 rfl) ?_
      refine lv_iconst (v := nI (5)) hx hb dX6_init_58 (by decide) ?_
      refine z_cgt (tgt := 93) hx hb dX6_init_59 (by decide) ⟨by omega, by omega⟩ (fun c_32 => by exfalso; omega) (fun c_32 => ?_)
      refine lv_aload_n hx hb dX6_init_62 rfl (lv_at hl 0 rfl) ?_
      refine z_get (ref := RX6) (C := RX6) (T := TX6) (N := 11) hx hb hts hin6 hown hG.1 f_a rfl 0 (by decide) (by decide +kernel) rfl rfl dX6_init_63 ?_
      refine lv_iconst (v := nI (0)) hx hb dX6_init_66 (by decide) ?_
      refine lv_iload_n hx hb dX6_init_67 rfl (lv_at hl 1 rfl) ?_
      refine z_iadd hx hb dX6_init_68 ?_
      refine lv_iconst (v := nI (1)) hx hb dX6_init_69 (by decide) ?_
      refine z_isub hx hb dX6_init_70 (by omega) ?_
      refine lv_bipush (v := nI (12)) hx hb dX6_init_71 (by decide) ?_
      refine z_iast (j := (0 + i) - 1) hx hb hG.1 f_1 ⟨by omega, by omega⟩ hS (by show a ≤ _; omega) dX6_init_73 (fun Hn locs h_33 o_34 hS => ?_)
      replace f_a := va_at.kept f_a (o_34.2 (a) (by omega))
      replace f_2 := va_at.kept f_2 (o_34.2 (a + 2) (by omega))
      replace f_3 := va_at.kept f_3 (o_34.2 (a + 3) (by omega))
      replace f_4 := va_at.kept f_4 (o_34.2 (a + 4) (by omega))
      replace f_5 := va_at.kept f_5 (o_34.2 (a + 5) (by omega))
      replace f_6 := va_at.kept f_6 (o_34.2 (a + 6) (by omega))
      replace f_1 : zat E (a + 1) (.inl (zI E, 300, .inl (upd (zm0 i) ((0 + i) - 1) (nI (12))))) Hn := h_33
      replace hz : Hn.size = a + 7 := o_34.1.trans hz
      refine lv_aload_n hx hb dX6_init_74 rfl (lv_at hl 0 rfl) ?_
      refine z_get (ref := RX6) (C := RX6) (T := TX6) (N := 11) hx hb hts hin6 hown hG.1 f_a rfl 0 (by decide) (by decide +kernel) rfl rfl dX6_init_75 ?_
      refine lv_iconst (v := nI (5)) hx hb dX6_init_78 (by decide) ?_
      refine lv_iload_n hx hb dX6_init_79 rfl (lv_at hl 1 rfl) ?_
      refine z_iadd hx hb dX6_init_80 ?_
      refine lv_iconst (v := nI (1)) hx hb dX6_init_81 (by decide) ?_
      refine z_isub hx hb dX6_init_82 (by omega) ?_
      refine lv_iconst (v := nI (2)) hx hb dX6_init_83 (by decide) ?_
      refine lv_iload_n hx hb dX6_init_84 rfl (lv_at hl 1 rfl) ?_
      refine z_imul hx hb dX6_init_85 ?_
      refine z_iast (j := (5 + i) - 1) hx hb hG.1 f_1 ⟨by omega, by omega⟩ hS (by show a ≤ _; omega) dX6_init_86 (fun Hn locs h_35 o_36 hS => ?_)
      replace f_a := va_at.kept f_a (o_36.2 (a) (by omega))
      replace f_2 := va_at.kept f_2 (o_36.2 (a + 2) (by omega))
      replace f_3 := va_at.kept f_3 (o_36.2 (a + 3) (by omega))
      replace f_4 := va_at.kept f_4 (o_36.2 (a + 4) (by omega))
      replace f_5 := va_at.kept f_5 (o_36.2 (a + 5) (by omega))
      replace f_6 := va_at.kept f_6 (o_36.2 (a + 6) (by omega))
      replace f_1 : zat E (a + 1) (.inl (zI E, 300, .inl (zm0 (i + 1)))) Hn := by rw [← zm0_s h0 (by omega)]; exact h_35
      replace hz : Hn.size = a + 7 := o_36.1.trans hz
      refine lv_iinc (v := nI (i + 1)) (lv' := [(1, .int (nI (i + 1))), (0, .ref (a))]) hx hb dX6_init_87 hl (k := 1) rfl (z_inc1 _) (by decide) rfl (fun ls hl => ?_)
      refine lv_goto (tgt := 57) hx hb dX6_init_90 (by decide) ?_
      exact ih (i + 1) (by omega) (by omega) _ _ hS hz f_a f_1 f_2 f_3 f_4 f_5 f_6  ls (lv_sub hl [1, 0] rfl)
  refine lv_aload_n hx hb dX6_init_0 rfl (lv_at hl 0 rfl) ?_
  refine z_oi (own := RX6) (index := 1) hx hb (hml.trans hl.1.symm) hts hown (List.mem_of_getElem? (i := 1) rfl) (List.mem_of_getElem? (i := 2) rfl) (List.mem_of_getElem? (i := 3) rfl) ⟨Nat.le_of_ble_eq_true rfl, Nat.le_of_ble_eq_true rfl⟩ dX6_init_1 ?_
  refine lv_aload_n hx hb dX6_init_4 rfl (lv_at hl 0 rfl) ?_
  refine lv_sipush (v := nI (300)) hx hb dX6_init_5 (by decide) ?_
  refine z_naI (n := 300) (o := a + 1) (c1 := 1) (s1 := 300) hx hb hts hG.1 (by decide +kernel) (by decide) hz ⟨by omega, by show _ ≤ 6; omega, by omega, by show _ ≤ 2192; omega⟩ hS dX6_init_8 (fun Hn h_1 z_3 o_2 hS => ?_)
  replace f_a := va_at.kept f_a (o_2 (a) (by omega))
  have f_1 : zat E (a + 1) (.inl (zI E, 300, .inl (fun _ => 0))) Hn := h_1
  replace hz : Hn.size = a + 2 := z_3
  clear z_3
  refine z_putF (C := RX6) (T := TX6) (N := 11) hx hb hts hin6 tyX6_ok nmX6 hown hG.1 f_a rfl 0 (by decide) (by decide +kernel) rfl rfl hnm rfl rfl (Nat.le_of_ble_eq_true rfl) hS (Nat.le_refl a) dX6_init_10 (fun Hn locs h_4 o_5 hS => ?_)
  replace f_1 := va_at.kept f_1 (o_5.2 (a + 1) (by omega))
  replace f_a : zat E (a) (.inr (6, [.ref (a + 1), .null, .int (nI (0)), .null, .int (nI (0)), .null, .int (nI (0)), .null, .null, .int (nI (0)), .int (nI (0))])) Hn := h_4
  replace hz : Hn.size = a + 2 := o_5.1.trans hz
  refine lv_aload_n hx hb dX6_init_13 rfl (lv_at hl 0 rfl) ?_
  refine lv_sipush (v := nI (1500)) hx hb dX6_init_14 (by decide) ?_
  refine z_naI (n := 1500) (o := a + 2) (c1 := 2) (s1 := 1800) hx hb hts hG.1 (by decide +kernel) (by decide) hz ⟨by omega, by show _ ≤ 6; omega, by omega, by show _ ≤ 2192; omega⟩ hS dX6_init_17 (fun Hn h_6 z_8 o_7 hS => ?_)
  replace f_a := va_at.kept f_a (o_7 (a) (by omega))
  replace f_1 := va_at.kept f_1 (o_7 (a + 1) (by omega))
  have f_2 : zat E (a + 2) (.inl (zI E, 1500, .inl (fun _ => 0))) Hn := h_6
  replace hz : Hn.size = a + 3 := z_8
  clear z_8
  refine z_putF (C := RX6) (T := TX6) (N := 11) hx hb hts hin6 tyX6_ok nmX6 hown hG.1 f_a rfl 1 (by decide) (by decide +kernel) rfl rfl hnm rfl rfl (Nat.le_of_ble_eq_true rfl) hS (Nat.le_refl a) dX6_init_19 (fun Hn locs h_9 o_10 hS => ?_)
  replace f_1 := va_at.kept f_1 (o_10.2 (a + 1) (by omega))
  replace f_2 := va_at.kept f_2 (o_10.2 (a + 2) (by omega))
  replace f_a : zat E (a) (.inr (6, [.ref (a + 1), .ref (a + 2), .int (nI (0)), .null, .int (nI (0)), .null, .int (nI (0)), .null, .null, .int (nI (0)), .int (nI (0))])) Hn := h_9
  replace hz : Hn.size = a + 3 := o_10.1.trans hz
  refine lv_aload_n hx hb dX6_init_22 rfl (lv_at hl 0 rfl) ?_
  refine lv_sipush (v := nI (300)) hx hb dX6_init_23 (by decide) ?_
  refine z_naI (n := 300) (o := a + 3) (c1 := 3) (s1 := 2100) hx hb hts hG.1 (by decide +kernel) (by decide) hz ⟨by omega, by show _ ≤ 6; omega, by omega, by show _ ≤ 2192; omega⟩ hS dX6_init_26 (fun Hn h_11 z_13 o_12 hS => ?_)
  replace f_a := va_at.kept f_a (o_12 (a) (by omega))
  replace f_1 := va_at.kept f_1 (o_12 (a + 1) (by omega))
  replace f_2 := va_at.kept f_2 (o_12 (a + 2) (by omega))
  have f_3 : zat E (a + 3) (.inl (zI E, 300, .inl (fun _ => 0))) Hn := h_11
  replace hz : Hn.size = a + 4 := z_13
  clear z_13
  refine z_putF (C := RX6) (T := TX6) (N := 11) hx hb hts hin6 tyX6_ok nmX6 hown hG.1 f_a rfl 3 (by decide) (by decide +kernel) rfl rfl hnm rfl rfl (Nat.le_of_ble_eq_true rfl) hS (Nat.le_refl a) dX6_init_28 (fun Hn locs h_14 o_15 hS => ?_)
  replace f_1 := va_at.kept f_1 (o_15.2 (a + 1) (by omega))
  replace f_2 := va_at.kept f_2 (o_15.2 (a + 2) (by omega))
  replace f_3 := va_at.kept f_3 (o_15.2 (a + 3) (by omega))
  replace f_a : zat E (a) (.inr (6, [.ref (a + 1), .ref (a + 2), .int (nI (0)), .ref (a + 3), .int (nI (0)), .null, .int (nI (0)), .null, .null, .int (nI (0)), .int (nI (0))])) Hn := h_14
  replace hz : Hn.size = a + 4 := o_15.1.trans hz
  refine lv_aload_n hx hb dX6_init_31 rfl (lv_at hl 0 rfl) ?_
  refine lv_bipush (v := nI (60)) hx hb dX6_init_32 (by decide) ?_
  refine z_naC (n := 60) (o := a + 4) (c1 := 4) (s1 := 2160) hx hb hts hG.1 (by decide +kernel) (by decide) hz ⟨by omega, by show _ ≤ 6; omega, by omega, by show _ ≤ 2192; omega⟩ hS dX6_init_34 (fun Hn h_16 z_18 o_17 hS => ?_)
  replace f_a := va_at.kept f_a (o_17 (a) (by omega))
  replace f_1 := va_at.kept f_1 (o_17 (a + 1) (by omega))
  replace f_2 := va_at.kept f_2 (o_17 (a + 2) (by omega))
  replace f_3 := va_at.kept f_3 (o_17 (a + 3) (by omega))
  have f_4 : zat E (a + 4) (.inl (zC E, 60, .inl (fun _ => 0))) Hn := h_16
  replace hz : Hn.size = a + 5 := z_18
  clear z_18
  refine z_putF (C := RX6) (T := TX6) (N := 11) hx hb hts hin6 tyX6_ok nmX6 hown hG.1 f_a rfl 5 (by decide) (by decide +kernel) rfl rfl hnm rfl rfl (Nat.le_of_ble_eq_true rfl) hS (Nat.le_refl a) dX6_init_36 (fun Hn locs h_19 o_20 hS => ?_)
  replace f_1 := va_at.kept f_1 (o_20.2 (a + 1) (by omega))
  replace f_2 := va_at.kept f_2 (o_20.2 (a + 2) (by omega))
  replace f_3 := va_at.kept f_3 (o_20.2 (a + 3) (by omega))
  replace f_4 := va_at.kept f_4 (o_20.2 (a + 4) (by omega))
  replace f_a : zat E (a) (.inr (6, [.ref (a + 1), .ref (a + 2), .int (nI (0)), .ref (a + 3), .int (nI (0)), .ref (a + 4), .int (nI (0)), .null, .null, .int (nI (0)), .int (nI (0))])) Hn := h_19
  replace hz : Hn.size = a + 5 := o_20.1.trans hz
  refine lv_aload_n hx hb dX6_init_39 rfl (lv_at hl 0 rfl) ?_
  refine lv_bipush (v := nI (16)) hx hb dX6_init_40 (by decide) ?_
  refine z_naI (n := 16) (o := a + 5) (c1 := 5) (s1 := 2176) hx hb hts hG.1 (by decide +kernel) (by decide) hz ⟨by omega, by show _ ≤ 6; omega, by omega, by show _ ≤ 2192; omega⟩ hS dX6_init_42 (fun Hn h_21 z_23 o_22 hS => ?_)
  replace f_a := va_at.kept f_a (o_22 (a) (by omega))
  replace f_1 := va_at.kept f_1 (o_22 (a + 1) (by omega))
  replace f_2 := va_at.kept f_2 (o_22 (a + 2) (by omega))
  replace f_3 := va_at.kept f_3 (o_22 (a + 3) (by omega))
  replace f_4 := va_at.kept f_4 (o_22 (a + 4) (by omega))
  have f_5 : zat E (a + 5) (.inl (zI E, 16, .inl (fun _ => 0))) Hn := h_21
  replace hz : Hn.size = a + 6 := z_23
  clear z_23
  refine z_putF (C := RX6) (T := TX6) (N := 11) hx hb hts hin6 tyX6_ok nmX6 hown hG.1 f_a rfl 7 (by decide) (by decide +kernel) rfl rfl hnm rfl rfl (Nat.le_of_ble_eq_true rfl) hS (Nat.le_refl a) dX6_init_44 (fun Hn locs h_24 o_25 hS => ?_)
  replace f_1 := va_at.kept f_1 (o_25.2 (a + 1) (by omega))
  replace f_2 := va_at.kept f_2 (o_25.2 (a + 2) (by omega))
  replace f_3 := va_at.kept f_3 (o_25.2 (a + 3) (by omega))
  replace f_4 := va_at.kept f_4 (o_25.2 (a + 4) (by omega))
  replace f_5 := va_at.kept f_5 (o_25.2 (a + 5) (by omega))
  replace f_a : zat E (a) (.inr (6, [.ref (a + 1), .ref (a + 2), .int (nI (0)), .ref (a + 3), .int (nI (0)), .ref (a + 4), .int (nI (0)), .ref (a + 5), .null, .int (nI (0)), .int (nI (0))])) Hn := h_24
  replace hz : Hn.size = a + 6 := o_25.1.trans hz
  refine lv_aload_n hx hb dX6_init_47 rfl (lv_at hl 0 rfl) ?_
  refine lv_bipush (v := nI (16)) hx hb dX6_init_48 (by decide) ?_
  refine z_naI (n := 16) (o := a + 6) (c1 := 6) (s1 := 2192) hx hb hts hG.1 (by decide +kernel) (by decide) hz ⟨by omega, by show _ ≤ 6; omega, by omega, by show _ ≤ 2192; omega⟩ hS dX6_init_50 (fun Hn h_26 z_28 o_27 hS => ?_)
  replace f_a := va_at.kept f_a (o_27 (a) (by omega))
  replace f_1 := va_at.kept f_1 (o_27 (a + 1) (by omega))
  replace f_2 := va_at.kept f_2 (o_27 (a + 2) (by omega))
  replace f_3 := va_at.kept f_3 (o_27 (a + 3) (by omega))
  replace f_4 := va_at.kept f_4 (o_27 (a + 4) (by omega))
  replace f_5 := va_at.kept f_5 (o_27 (a + 5) (by omega))
  have f_6 : zat E (a + 6) (.inl (zI E, 16, .inl (fun _ => 0))) Hn := h_26
  replace hz : Hn.size = a + 7 := z_28
  clear z_28
  refine z_putF (C := RX6) (T := TX6) (N := 11) hx hb hts hin6 tyX6_ok nmX6 hown hG.1 f_a rfl 8 (by decide) (by decide +kernel) rfl rfl hnm rfl rfl (Nat.le_of_ble_eq_true rfl) hS (Nat.le_refl a) dX6_init_52 (fun Hn locs h_29 o_30 hS => ?_)
  replace f_1 := va_at.kept f_1 (o_30.2 (a + 1) (by omega))
  replace f_2 := va_at.kept f_2 (o_30.2 (a + 2) (by omega))
  replace f_3 := va_at.kept f_3 (o_30.2 (a + 3) (by omega))
  replace f_4 := va_at.kept f_4 (o_30.2 (a + 4) (by omega))
  replace f_5 := va_at.kept f_5 (o_30.2 (a + 5) (by omega))
  replace f_6 := va_at.kept f_6 (o_30.2 (a + 6) (by omega))
  replace f_a : zat E (a) (.inr (6, [.ref (a + 1), .ref (a + 2), .int (nI (0)), .ref (a + 3), .int (nI (0)), .ref (a + 4), .int (nI (0)), .ref (a + 5), .ref (a + 6), .int (nI (0)), .int (nI (0))])) Hn := h_29
  replace hz : Hn.size = a + 7 := o_30.1.trans hz
  refine lv_iconst (v := nI (1)) hx hb dX6_init_55 (by decide) ?_
  refine lv_istore_n (lv' := [(1, .int (nI (1))), (0, .ref (a))]) hx hb dX6_init_56 rfl hl (by decide) rfl (fun ls hl => ?_)
  have f_1 : zat E (a + 1) (.inl (zI E, 300, .inl (zm0 1))) Hn := by rw [zm0_0]; exact f_1
  exact L57 5 1 (by omega) (Nat.le_refl 1) _ _ hS hz f_a f_1 f_2 f_3 f_4 f_5 f_6  ls (lv_sub hl [1, 0] rfl)
