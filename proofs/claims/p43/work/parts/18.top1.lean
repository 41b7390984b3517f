set_option maxHeartbeats 4000000 in
set_option maxRecDepth 100000 in
theorem c_X5_discardOldest (E : zEnv) {ad : Nat → Nat} {nw sv : zS} {an : Bool} {hs : Nat → zS} {ct ln : Nat} {cd : Nat → Int32} {π : Nat → Nat} {tn tt nb : Nat} {tf : Nat → Int32} (hinj : zInj ad) (hp : zPi π) : zWR E yX5_discardOldest wsX5_discardOldest 0 0 [.ref (ad 287)] (fun H => zCX E ad nw sv an hs ct ln cd π tn tt nb tf H) (none) (fun H => ∃ hs2, (∀ i, i < 4 → hs2 i = hs (i + 1)) ∧ hs2 4 = hs 0 ∧ zCX E ad nw sv an hs2 4 ln cd (zroF π) tn tt nb tf H) (fun q => q = ad 287 ∨ q = ad 288) := by
  refine zWR.ofV (maxL := 3) rfl (Nat.le_of_ble_eq_true rfl) (fun p e s m args below meth c H Q hF hP hret ls hl => ?_)
  have S : CallFix p m c cX5_discardOldest 3 s args wsX5_discardOldest RX5 := hF.1
  have hG := hF.2
  obtain ⟨hx, hb, hml, hown, hts⟩ := id S
  have hS : va_S (fun q => q = ad 287 ∨ q = ad 288) H H [] := va_S.rf
  obtain ⟨locs, hlocs⟩ : ∃ x : List Loc, x = [] := ⟨_, rfl⟩
  rw [← hlocs] at hS ⊢
  have hz : H.size = H.size := rfl
  have hX := hP
  obtain ⟨hA, hsv, hhs, t5, t8, t9, t10, t11⟩ := id hX
  have hl : lv_has ls 3 [(0, .ref (ad 287))] := hl
  have hin5 : ∀ w ∈ u_ws RX5 TX5 7, w ∈ wsX5_discardOldest := by decide +kernel
  refine lv_aload_n hx hb dX5_discardOldest_0 rfl (lv_at hl 0 rfl) ?_
  refine z_get (ref := RX5) (C := RX5) (T := TX5) (N := 7) hx hb hts hin5 hown hG t5 rfl 2 (by decide) (by decide +kernel) rfl rfl dX5_discardOldest_1 ?_
  refine lv_iconst (v := nI (0)) hx hb dX5_discardOldest_4 (by decide) ?_
  refine z_aaldS (j := 0) (v := ad (41 * (2 + π 0))) hx hb hG t8 ⟨by omega, by omega⟩ (rfl) dX5_discardOldest_5 ?_
  refine lv_astore_n (lv' := [(1, .ref (ad (41 * (2 + π 0)))), (0, .ref (ad 287))]) hx hb dX5_discardOldest_6 rfl hl (by decide) rfl (fun ls hl => ?_)
  refine lv_iconst (v := nI (1)) hx hb dX5_discardOldest_7 (by decide) ?_
  refine lv_istore_n (lv' := [(2, .int (nI (1))), (1, .ref (ad (41 * (2 + π 0)))), (0, .ref (ad 287))]) hx hb dX5_discardOldest_8 rfl hl (by decide) rfl (fun ls hl => ?_)
  have L9 : ∀ (dd : Nat) (i : Nat), 5 - i < dd → (i ≤ 5) → (1 ≤ i) → ∀ (Hn : Heap) (locs : List Loc) (hS : va_S (fun q => q = ad 287 ∨ q = ad 288) H Hn locs) (hz : Hn.size = H.size) (h51 : zat E (ad 287) (.inr (5, [.ref (ad 0), .ref (ad 41), .ref (ad 288), .ref (ad 289), .ref (ad 291), .int (zb an), .int (nI ct)])) Hn) (h8 : zat E (ad 288) (.inl (zSt E, 5, .inr (.inr (.inr (.inr (zHA ad (zrot π i))))))) Hn) (hso : ∀ t, t < 5 → ∃ vs, zat E (ad (41 * (2 + π t))) (.inr (3, vs)) Hn) (hoo : ∀ q : Nat, q ≠ ad 288 → Hn[q]? = H[q]?) (ls : Array Slot), lv_has ls 3 [(0, .ref (ad 287)), (1, .ref (ad (41 * (2 + π 0)))), (2, .int (nI (i)))] → W p (zl E) e (zRm 0 0) s m args below meth c Hn locs 0 0 Q (F0 m 9 ls []) := by
    intro dd
    induction dd with
    | zero => intro i hdd; exact absurd hdd (Nat.not_lt_zero _)
    | succ dd ih9 =>
      intro i hdd9 hi hi1 Hn locs hS hz h51 h8 hso hoo ls hl
      refine lv_iload_n hx hb dX5_discardOldest_9 rfl (lv_at hl 2 rfl) ?_
      refine lv_iconst (v := nI (5)) hx hb dX5_discardOldest_10 (by decide) ?_
      refine z_cge (tgt := 34) hx hb dX5_discardOldest_11 (by decide) ⟨by omega, by omega⟩ (fun c_1 => ?_) (fun c_1 => ?_)
      · refine lv_aload_n hx hb dX5_discardOldest_34 rfl (lv_at hl 0 rfl) ?_
        refine lv_iconst (v := nI (4)) hx hb dX5_discardOldest_35 (by decide) ?_
        refine z_put (ref := RX5) (C := RX5) (T := TX5) (N := 7) hx hb hts hin5 tyX5_ok nmX5 hown hG h51 rfl 6 (by decide) (by decide +kernel) rfl rfl rfl rfl (Nat.le_of_ble_eq_true rfl) hS (Or.inl rfl) dX5_discardOldest_36 (fun Hn locs h_2 o_3 hS => ?_)
        have h8 := va_at.kept h8 (o_3.2 _ (hinj.ne (by decide) (by decide) (by decide)))
        have hoo : ∀ q : Nat, ¬ (q = ad 287 ∨ q = ad 288) → Hn[q]? = H[q]? := fun q hq => (o_3.2 q (fun e => hq (Or.inl e))).trans (hoo q (fun e => hq (Or.inr e)))
        obtain ⟨vs0, hv0⟩ := hso 0 (by decide)
        have hv0 := va_at.kept hv0 (o_3.2 _ (hinj.ne (by have := hp.1 0 (by decide); omega) (by decide) (by have := hp.1 0 (by decide); omega)))
        have h51 := h_2
        have hz : Hn.size = H.size := o_3.1.trans hz
        refine lv_aload_n hx hb dX5_discardOldest_39 rfl (lv_at hl 0 rfl) ?_
        refine z_get (ref := RX5) (C := RX5) (T := TX5) (N := 7) hx hb hts hin5 hown hG h51 rfl 2 (by decide) (by decide +kernel) rfl rfl dX5_discardOldest_40 ?_
        refine lv_aload_n hx hb dX5_discardOldest_43 rfl (lv_at hl 0 rfl) ?_
        refine z_get (ref := RX5) (C := RX5) (T := TX5) (N := 7) hx hb hts hin5 hown hG h51 rfl 6 (by decide) (by decide +kernel) rfl rfl dX5_discardOldest_44 ?_
        refine lv_aload_n hx hb dX5_discardOldest_47 rfl (lv_at hl 1 rfl) ?_
        refine z_aastS (j := 4) hx hb hG h8 hv0 ⟨by omega, by omega⟩ hS (Or.inr rfl) dX5_discardOldest_48 (fun Hn locs h_4 o_5 hS => ?_)
        have e9 : i = 5 := by omega
        subst e9
        have h8 : zat E (ad 288) (.inl (zSt E, 5, .inr (.inr (.inr (.inr (zHA ad (zroF π))))))) Hn := zat_congR h_4 (fun j hj => zrot_5 hj)
        have h51 := va_at.kept h51 (o_5.2 _ (hinj.ne (by decide) (by decide) (by decide)))
        have hoo : ∀ q : Nat, ¬ (q = ad 287 ∨ q = ad 288) → Hn[q]? = H[q]? := fun q hq => (o_5.2 q (fun e => hq (Or.inr e))).trans (hoo q hq)
        have hz : Hn.size = H.size := o_5.1.trans hz
        exact hret _ _ _ _ hS (hz) dX5_discardOldest_49 (by obtain ⟨hs2, e1, e2, hX2⟩ := zX_dis hinj hp hX hoo h51 h8; exact ⟨hs2, e1, e2, hX2⟩)
      · refine lv_aload_n hx hb dX5_discardOldest_14 rfl (lv_at hl 0 rfl) ?_
        refine z_get (ref := RX5) (C := RX5) (T := TX5) (N := 7) hx hb hts hin5 hown hG h51 rfl 2 (by decide) (by decide +kernel) rfl rfl dX5_discardOldest_15 ?_
        refine lv_iload_n hx hb dX5_discardOldest_18 rfl (lv_at hl 2 rfl) ?_
        refine lv_iconst (v := nI (1)) hx hb dX5_discardOldest_19 (by decide) ?_
        refine z_isub hx hb dX5_discardOldest_20 (by omega) ?_
        refine lv_aload_n hx hb dX5_discardOldest_21 rfl (lv_at hl 0 rfl) ?_
        refine z_get (ref := RX5) (C := RX5) (T := TX5) (N := 7) hx hb hts hin5 hown hG h51 rfl 2 (by decide) (by decide +kernel) rfl rfl dX5_discardOldest_22 ?_
        refine lv_iload_n hx hb dX5_discardOldest_25 rfl (lv_at hl 2 rfl) ?_
        refine z_aaldS (j := i) (v := ad (41 * (2 + π i))) hx hb hG h8 ⟨by omega, by omega⟩ (by show some (ad (41 * (2 + zrot π i i))) = _; unfold zrot; rw [if_neg (by omega)]) dX5_discardOldest_26 ?_
        obtain ⟨vsi, hvi⟩ := hso i (by omega)
        refine z_aastS (j := i - 1) hx hb hG h8 hvi ⟨by omega, by omega⟩ hS (Or.inr rfl) dX5_discardOldest_27 (fun Hn locs h_6 o_7 hS => ?_)
        have h8 : zat E (ad 288) (.inl (zSt E, 5, .inr (.inr (.inr (.inr (zHA ad (zrot π (i + 1)))))))) Hn := by rw [← zrot_s hi1]; exact h_6
        have h51 := va_at.kept h51 (o_7.2 _ (hinj.ne (by decide) (by decide) (by decide)))
        have hso : ∀ t, t < 5 → ∃ vs, zat E (ad (41 * (2 + π t))) (.inr (3, vs)) Hn := fun t ht => by obtain ⟨vs, hvs⟩ := hso t ht; exact ⟨vs, va_at.kept hvs (o_7.2 _ (hinj.ne (by have := hp.1 t ht; omega) (by decide) (by have := hp.1 t ht; omega)))⟩
        have hoo := fun (q : Nat) (hq : q ≠ ad 288) => (o_7.2 q hq).trans (hoo q hq)
        have hz : Hn.size = H.size := o_7.1.trans hz
        refine lv_iinc (v := nI (i + 1)) (lv' := [(2, .int (nI (i + 1))), (0, .ref (ad 287)), (1, .ref (ad (41 * (2 + π 0))))]) hx hb dX5_discardOldest_28 hl (k := 2) rfl (z_inc1 _) (by decide) rfl (fun ls hl => ?_)
        refine lv_goto (tgt := 9) hx hb dX5_discardOldest_31 (by decide) ?_
        have hl9 := lv_sub hl [1, 2, 0] (l' := [(0, .ref (ad 287)), (1, .ref (ad (41 * (2 + π 0)))), (2, .int (nI (i + 1)))]) rfl
        have e9_2 : (i + 1) = ((i + 1)) := by omega
        exact ih9 (i + 1) (by omega) (by omega) (by omega) _ _ hS hz (h51) (h8) (hso) (hoo) ls (by rw [← e9_2]; exact hl9)
  exact L9 ((5 - (1)) + 1) (1) (Nat.lt_succ_self _) (by decide) (by decide) _ _ hS hz (t5) (by rw [zrot_1]; exact t8) (fun t ht => ⟨_, (hhs t ht).1⟩) (fun _ _ => rfl) ls (lv_sub hl [2, 1, 0] rfl)
