theorem zcc {α : Type} {r : Nat} (hr : r < 16) {a x : α} : (if 6 ≤ r ∧ r < 6 + 10 then a else if 0 ≤ r ∧ r < 0 + 6 then a else x) = a := by
  by_cases h : 6 ≤ r
  · rw [if_pos (by omega)]
  · rw [if_neg (by omega), if_pos (by omega)]
set_option maxHeartbeats 4000000 in
set_option maxRecDepth 100000 in
theorem c_X3_takeOut (E : zEnv) {ad : Nat → Nat} {b : Nat} {v : zS} {a k n : Nat} {f : Nat → Int32} (hinj : zInj ad) (hb0 : b + 41 ≤ 293) (hax : a ≠ ad (b + 1) ∧ k ≠ ad (b + 1)) (hn : n ≤ 16) : zWR E yX3_takeOut wsX3_takeOut 2 44 [.ref (ad b), .ref (a)] (fun H => zStA E ad b v H ∧ zRing E a k n f H) (none) (fun H => zStA E ad b (zsBx v (zto (zBx v) (fun t => zcn f (nI t) n) 5)) H) (fun q => q = ad (b + 1)) := by
  refine zWR.ofV (maxL := 3) rfl (Nat.le_of_ble_eq_true rfl) (fun p e s m args below meth c H Q hF hP hret ls hl => ?_)
  have S : CallFix p m c cX3_takeOut 3 s args wsX3_takeOut RX3 := hF.1
  have hG := hF.2
  obtain ⟨hx, hb, hml, hown, hts⟩ := id S
  have hS : va_S (fun q => q = ad (b + 1)) H H [] := va_S.rf
  obtain ⟨locs, hlocs⟩ : ∃ x : List Loc, x = [] := ⟨_, rfl⟩
  rw [← hlocs] at hS ⊢
  have hz : H.size = H.size := rfl
  obtain ⟨hA, g1, g2⟩ := hP
  obtain ⟨h0, h1, h2, h3, h4, h5, h6, h7, hR⟩ := id hA
  have hl : lv_has ls 3 [(0, .ref (ad b)), (1, .ref (a))] := hl
  have hin3 : ∀ w ∈ u_ws RX3 TX3 5, w ∈ wsX3_takeOut := by decide +kernel
  refine lv_iconst (v := nI (1)) hx hb dX3_takeOut_0 (by decide) ?_
  refine lv_istore_n (lv' := [(2, .int (nI (1))), (0, .ref (ad b)), (1, .ref (a))]) hx hb dX3_takeOut_1 rfl hl (by decide) rfl (fun ls hl => ?_)
  have L2 : ∀ (dd : Nat) (t : Nat), 5 - t < dd → (t ≤ 5) → ∀ (Hn : Heap) (locs : List Loc) (hS : va_S (fun q => q = ad (b + 1)) H Hn locs) (hz : Hn.size = H.size) (hA : zStA E ad b (zsBx v (zto (zBx v) (fun t => zcn f (nI t) n) t)) Hn) (g1 : zat E a (.inr (2, [.int (nI n), .ref k])) Hn) (g2 : zat E k (.inl (zI E, 16, .inl f)) Hn) (ls : Array Slot), lv_has ls 3 [(0, .ref (ad b)), (1, .ref (a)), (2, .int (nI (t + 1)))] → W p (zl E) e (zRm 2 44) s m args below meth c Hn locs 0 0 Q (F0 m 2 ls []) := by
    intro dd
    induction dd with
    | zero => intro t hdd; exact absurd hdd (Nat.not_lt_zero _)
    | succ dd ih2 =>
      intro t hdd2 ht Hn locs hS hz hA g1 g2 ls hl
      obtain ⟨h0, h1, h2, h3, h4, h5, h6, h7, hR⟩ := id hA
      refine lv_iload_n hx hb dX3_takeOut_2 rfl (lv_at hl 2 rfl) ?_
      refine lv_iconst (v := nI (5)) hx hb dX3_takeOut_3 (by decide) ?_
      refine z_cgt (tgt := 27) hx hb dX3_takeOut_4 (by decide) ⟨by omega, by omega⟩ (fun c_1 => ?_) (fun c_1 => ?_)
      · exact hret _ _ _ _ hS (hz) dX3_takeOut_27 (by have e9 : t = 5 := (by omega); rw [e9] at hA; exact hA)
      · refine lv_aload_n hx hb dX3_takeOut_7 rfl (lv_at hl 0 rfl) ?_
        refine z_get (ref := RX3) (C := RX3) (T := TX3) (N := 5) hx hb hts hin3 hown hG h0 rfl 0 (by decide) (by decide +kernel) rfl rfl dX3_takeOut_8 ?_
        refine lv_iload_n hx hb dX3_takeOut_11 rfl (lv_at hl 2 rfl) ?_
        refine lv_dup2_11 hx hb dX3_takeOut_12 rfl rfl ?_
        refine z_iald (j := t + 1) hx hb hG h1 ⟨by omega, by omega⟩ dX3_takeOut_13 ?_
        refine z_top (y := (zBx v (t + 1))) (show zto (zBx v) (fun t => zcn f (nI t) n) t (t + 1) = zBx v (t + 1) from zto_n) ?_
        refine lv_aload_n hx hb dX3_takeOut_14 rfl (lv_at hl 1 rfl) ?_
        refine lv_iload_n hx hb dX3_takeOut_15 rfl (lv_at hl 2 rfl) ?_
        refine z_roVN (As := [.int (nI (t + 1))]) (rest := [.int (zBx v (t + 1)), .int (nI (t + 1)), .ref (ad (b + 1))]) (host := "CharmBracelets") (q := (RX2, TX2, 2)) S hG (c_X2_charmsOf E (x := nI (t + 1)) hn) 1 gX3_takeOut_X2_charmsOf_n63 (List.mem_of_getElem? (i := 14) rfl) (by decide +kernel) rfl kX2_charmsOf.2 ⟨Nat.le_of_ble_eq_true rfl, Nat.le_of_ble_eq_true rfl⟩ ⟨Nat.zero_le _, Nat.zero_le _⟩ (⟨g1, g2⟩) rfl g1 rfl hl.1 rfl rfl (Nat.le_of_ble_eq_true rfl) dX3_takeOut_16 ?_
        refine lv_isub hx hb dX3_takeOut_19 ?_
        refine z_iast (j := t + 1) hx hb hG h1 ⟨by omega, by omega⟩ hS (rfl) dX3_takeOut_20 (fun Hn locs h_2 o_3 hS => ?_)
        have hA : zStA E ad b (zsBx v (zto (zBx v) (fun t => zcn f (nI t) n) (t + 1))) Hn := by have h9 := zSt_bx hA hinj hb0 o_3.2 h_2; rw [← zto_s]; exact h9
        have hz : Hn.size = H.size := o_3.1.trans hz
        have g1 := va_at.kept g1 (o_3.2 _ hax.1)
        have g2 := va_at.kept g2 (o_3.2 _ hax.2)
        refine lv_iinc (v := nI (t + 1 + 1)) (lv' := [(2, .int (nI (t + 1 + 1))), (0, .ref (ad b)), (1, .ref (a))]) hx hb dX3_takeOut_21 hl (k := 2) rfl (z_inc1 _) (by decide) rfl (fun ls hl => ?_)
        refine lv_goto (tgt := 2) hx hb dX3_takeOut_24 (by decide) ?_
        have hl9 := lv_sub hl [1, 2, 0] (l' := [(0, .ref (ad b)), (1, .ref (a)), (2, .int (nI (t + 1 + 1)))]) rfl
        have e9_2 : (t + 1 + 1) = ((t + 1) + 1) := by omega
        exact ih2 (t + 1) (by omega) (by omega) _ _ hS hz (hA) (g1) (g2) ls (by rw [← e9_2]; exact hl9)
  exact L2 ((5 - (0)) + 1) (0) (Nat.lt_succ_self _) (by decide) _ _ hS hz (by rw [zto_0]; exact hA) (g1) (g2) ls (lv_sub hl [1, 2, 0] rfl)

set_option maxHeartbeats 4000000 in
set_option maxRecDepth 100000 in
theorem c_X3_putBack (E : zEnv) {ad : Nat → Nat} {b : Nat} {v : zS} {r : Nat} (hinj : zInj ad) (hb0 : b + 41 ≤ 293) (hr : r < 6) (hn : zSz v r ≤ 16) : zWR E yX3_putBack wsX3_putBack 2 44 [.ref (ad b), .ref (ad (b + 9 + 2 * r))] (fun H => zStA E ad b v H) (none) (fun H => zStA E ad b (zsRg (zsBx v (zti (zBx v) (fun t => zcn (zKd v r) (nI t) (zSz v r)) 5)) r 0 (fun _ => 0)) H) (fun q => q = ad (b + 1) ∨ q = ad (b + 9 + 2 * r) ∨ q = ad (b + 10 + 2 * r)) := by
  refine zWR.ofV (maxL := 3) rfl (Nat.le_of_ble_eq_true rfl) (fun p e s m args below meth c H Q hF hP hret ls hl => ?_)
  have S : CallFix p m c cX3_putBack 3 s args wsX3_putBack RX3 := hF.1
  have hG := hF.2
  obtain ⟨hx, hb, hml, hown, hts⟩ := id S
  have hS : va_S (fun q => q = ad (b + 1) ∨ q = ad (b + 9 + 2 * r) ∨ q = ad (b + 10 + 2 * r)) H H [] := va_S.rf
  obtain ⟨locs, hlocs⟩ : ∃ x : List Loc, x = [] := ⟨_, rfl⟩
  rw [← hlocs] at hS ⊢
  have hz : H.size = H.size := rfl
  have hA := hP
  obtain ⟨h0, h1, h2, h3, h4, h5, h6, h7, hR⟩ := id hA
  have hl : lv_has ls 3 [(0, .ref (ad b)), (1, .ref (ad (b + 9 + 2 * r)))] := hl
  have hin3 : ∀ w ∈ u_ws RX3 TX3 5, w ∈ wsX3_putBack := by decide +kernel
  refine lv_iconst (v := nI (1)) hx hb dX3_putBack_0 (by decide) ?_
  refine lv_istore_n (lv' := [(2, .int (nI (1))), (0, .ref (ad b)), (1, .ref (ad (b + 9 + 2 * r)))]) hx hb dX3_putBack_1 rfl hl (by decide) rfl (fun ls hl => ?_)
  have L2 : ∀ (dd : Nat) (t : Nat), 5 - t < dd → (t ≤ 5) → ∀ (Hn : Heap) (locs : List Loc) (hS : va_S (fun q => q = ad (b + 1) ∨ q = ad (b + 9 + 2 * r) ∨ q = ad (b + 10 + 2 * r)) H Hn locs) (hz : Hn.size = H.size) (hA : zStA E ad b (zsBx v (zti (zBx v) (fun t => zcn (zKd v r) (nI t) (zSz v r)) t)) Hn) (ls : Array Slot), lv_has ls 3 [(0, .ref (ad b)), (1, .ref (ad (b + 9 + 2 * r))), (2, .int (nI (t + 1)))] → W p (zl E) e (zRm 2 44) s m args below meth c Hn locs 0 0 Q (F0 m 2 ls []) := by
    intro dd
    induction dd with
    | zero => intro t hdd; exact absurd hdd (Nat.not_lt_zero _)
    | succ dd ih2 =>
      intro t hdd2 ht Hn locs hS hz hA ls hl
      obtain ⟨h0, h1, h2, h3, h4, h5, h6, h7, hR⟩ := id hA
      refine lv_iload_n hx hb dX3_putBack_2 rfl (lv_at hl 2 rfl) ?_
      refine lv_iconst (v := nI (5)) hx hb dX3_putBack_3 (by decide) ?_
      refine z_cgt (tgt := 27) hx hb dX3_putBack_4 (by decide) ⟨by omega, by omega⟩ (fun c_1 => ?_) (fun c_1 => ?_)
      · refine lv_aload_n hx hb dX3_putBack_27 rfl (lv_at hl 1 rfl) ?_
        refine lv_iconst (v := nI (0)) hx hb dX3_putBack_28 (by decide) ?_
        refine z_wrVN (As := [.int (nI (0))]) (rest := []) (host := "CharmBracelets") (q := (RX2, TX2, 2)) S hG (c_X2_becomeEmpty E (n2 := 0) (hinj.ne (by omega) (by omega) (by omega))) 1 gX3_putBack_X2_becomeEmpty_n67 (List.mem_of_getElem? (i := 22) rfl) (by decide +kernel) rfl kX2_becomeEmpty.2 ⟨Nat.le_of_ble_eq_true rfl, Nat.le_of_ble_eq_true rfl⟩ ⟨Nat.zero_le _, Nat.zero_le _⟩ (hR r (by omega)) rfl (hR r (by omega)).1 rfl hl.1 rfl rfl (Nat.le_of_ble_eq_true rfl) dX3_putBack_29 hS (fun q h => Or.inr h) (fun Hn locs h_3 q_2 o_4 hS => ?_)
        have hz : Hn.size = H.size := q_2.trans hz
        have hA := zSt_rg hA hinj hb0 (by omega) o_4 h_3
        exact hret _ _ _ _ hS (hz) dX3_putBack_32 (by have e9 : t = 5 := (by omega); rw [e9] at hA; exact hA)
      · refine lv_aload_n hx hb dX3_putBack_7 rfl (lv_at hl 0 rfl) ?_
        refine z_get (ref := RX3) (C := RX3) (T := TX3) (N := 5) hx hb hts hin3 hown hG h0 rfl 0 (by decide) (by decide +kernel) rfl rfl dX3_putBack_8 ?_
        refine lv_iload_n hx hb dX3_putBack_11 rfl (lv_at hl 2 rfl) ?_
        refine lv_dup2_11 hx hb dX3_putBack_12 rfl rfl ?_
        refine z_iald (j := t + 1) hx hb hG h1 ⟨by omega, by omega⟩ dX3_putBack_13 ?_
        refine z_top (y := (zBx v (t + 1))) (show zti (zBx v) (fun t => zcn (zKd v r) (nI t) (zSz v r)) t (t + 1) = zBx v (t + 1) from zti_n) ?_
        refine lv_aload_n hx hb dX3_putBack_14 rfl (lv_at hl 1 rfl) ?_
        refine lv_iload_n hx hb dX3_putBack_15 rfl (lv_at hl 2 rfl) ?_
        refine z_roVN (As := [.int (nI (t + 1))]) (rest := [.int (zBx v (t + 1)), .int (nI (t + 1)), .ref (ad (b + 1))]) (host := "CharmBracelets") (q := (RX2, TX2, 2)) S hG (c_X2_charmsOf E (x := nI (t + 1)) hn) 1 gX3_putBack_X2_charmsOf_n63 (List.mem_of_getElem? (i := 14) rfl) (by decide +kernel) rfl kX2_charmsOf.2 ⟨Nat.le_of_ble_eq_true rfl, Nat.le_of_ble_eq_true rfl⟩ ⟨Nat.zero_le _, Nat.zero_le _⟩ (hR r (by omega)) rfl (hR r (by omega)).1 rfl hl.1 rfl rfl (Nat.le_of_ble_eq_true rfl) dX3_putBack_16 ?_
        refine lv_iadd hx hb dX3_putBack_19 ?_
        refine z_iast (j := t + 1) hx hb hG h1 ⟨by omega, by omega⟩ hS (Or.inl rfl) dX3_putBack_20 (fun Hn locs h_5 o_6 hS => ?_)
        have hA : zStA E ad b (zsBx v (zti (zBx v) (fun t => zcn (zKd v r) (nI t) (zSz v r)) (t + 1))) Hn := by have h9 := zSt_bx hA hinj hb0 o_6.2 h_5; rw [← zti_s]; exact h9
        have hz : Hn.size = H.size := o_6.1.trans hz
        refine lv_iinc (v := nI (t + 1 + 1)) (lv' := [(2, .int (nI (t + 1 + 1))), (0, .ref (ad b)), (1, .ref (ad (b + 9 + 2 * r)))]) hx hb dX3_putBack_21 hl (k := 2) rfl (z_inc1 _) (by decide) rfl (fun ls hl => ?_)
        refine lv_goto (tgt := 2) hx hb dX3_putBack_24 (by decide) ?_
        have hl9 := lv_sub hl [1, 2, 0] (l' := [(0, .ref (ad b)), (1, .ref (ad (b + 9 + 2 * r))), (2, .int (nI (t + 1 + 1)))]) rfl
        have e9_2 : (t + 1 + 1) = ((t + 1) + 1) := by omega
        exact ih2 (t + 1) (by omega) (by omega) _ _ hS hz (hA) ls (by rw [← e9_2]; exact hl9)
  exact L2 ((5 - (0)) + 1) (0) (Nat.lt_succ_self _) (by decide) _ _ hS hz (by rw [zti_0]; exact hA) ls (lv_sub hl [1, 2, 0] rfl)

set_option maxHeartbeats 4000000 in
set_option maxRecDepth 100000 in
theorem c_X1_becomeLike (E : zEnv) {ad : Nat → Nat} {b b2 : Nat} {v w : zS} (hinj : zInj ad) (hb0 : b + 41 ≤ 293) (hb2 : b2 + 41 ≤ 293) (hbb : b + 41 ≤ b2 ∨ b2 + 41 ≤ b) : zWR E yX1_becomeLike wsX1_becomeLike 2 81 [.ref (ad (b + 6)), .ref (ad (b2 + 6))] (fun H => zStA E ad b v H ∧ zStA E ad b2 w H) (none) (fun H => zStA E ad b (zsTm (zcR (zsNl v (zNl w)) w 6 10) (zTm w)) H) (fun q => ∃ o, o < 41 ∧ q = ad (b + o)) := by
  refine zWR.ofV (maxL := 3) rfl (Nat.le_of_ble_eq_true rfl) (fun p e s m args below meth c H Q hF hP hret ls hl => ?_)
  have S : CallFix p m c cX1_becomeLike 3 s args wsX1_becomeLike RX1 := hF.1
  have hG := hF.2
  obtain ⟨hx, hb, hml, hown, hts⟩ := id S
  have hS : va_S (fun q => ∃ o, o < 41 ∧ q = ad (b + o)) H H [] := va_S.rf
  obtain ⟨locs, hlocs⟩ : ∃ x : List Loc, x = [] := ⟨_, rfl⟩
  rw [← hlocs] at hS ⊢
  have hz : H.size = H.size := rfl
  obtain ⟨hA, hB⟩ := hP
  obtain ⟨h0, h1, h2, h3, h4, h5, h6, h7, hR⟩ := id hA
  obtain ⟨k0, k1, k2, k3, k4, k5, k6, k7, kR⟩ := id hB
  have hl : lv_has ls 3 [(0, .ref (ad (b + 6))), (1, .ref (ad (b2 + 6)))] := hl
  have hin1 : ∀ w ∈ u_ws RX1 TX1 3, w ∈ wsX1_becomeLike := by decide +kernel
  refine lv_aload_n hx hb dX1_becomeLike_0 rfl (lv_at hl 0 rfl) ?_
  refine lv_aload_n hx hb dX1_becomeLike_1 rfl (lv_at hl 1 rfl) ?_
  refine z_get (ref := RX1) (C := RX1) (T := TX1) (N := 3) hx hb hts hin1 hown hG k5 rfl 0 (by decide) (by decide +kernel) rfl rfl dX1_becomeLike_2 ?_
  refine z_put (ref := RX1) (C := RX1) (T := TX1) (N := 3) hx hb hts hin1 tyX1_ok nmX1 hown hG h5 rfl 0 (by decide) (by decide +kernel) rfl rfl rfl rfl (Nat.le_of_ble_eq_true rfl) hS (⟨6, by decide, rfl⟩) dX1_becomeLike_5 (fun Hn locs h_1 o_2 hS => ?_)
  have hA := zSt_nl (nl := zNl w) hA hinj hb0 o_2.2 (h_1)
  have hB := zSt_keep hB (fun o9 ho9 => o_2.2 _ (hinj.ne (by omega) (by omega) (by omega)))
  have hz : Hn.size = H.size := o_2.1.trans hz
  obtain ⟨h0, h1, h2, h3, h4, h5, h6, h7, hR⟩ := id hA
  obtain ⟨k0, k1, k2, k3, k4, k5, k6, k7, kR⟩ := id hB
  refine lv_iconst (v := nI (0)) hx hb dX1_becomeLike_8 (by decide) ?_
  refine lv_istore_n (lv' := [(2, .int (nI (0))), (0, .ref (ad (b + 6))), (1, .ref (ad (b2 + 6)))]) hx hb dX1_becomeLike_9 rfl hl (by decide) rfl (fun ls hl => ?_)
  have L10 : ∀ (dd : Nat) (i : Nat), 10 - i < dd → (i ≤ 10) → ∀ (Hn : Heap) (locs : List Loc) (hS : va_S (fun q => ∃ o, o < 41 ∧ q = ad (b + o)) H Hn locs) (hz : Hn.size = H.size) (hA : zStA E ad b (zcR (zsNl v (zNl w)) w 6 i) Hn) (hB : zStA E ad b2 w Hn) (ls : Array Slot), lv_has ls 3 [(0, .ref (ad (b + 6))), (1, .ref (ad (b2 + 6))), (2, .int (nI (i)))] → W p (zl E) e (zRm 2 81) s m args below meth c Hn locs 0 0 Q (F0 m 10 ls []) := by
    intro dd
    induction dd with
    | zero => intro i hdd; exact absurd hdd (Nat.not_lt_zero _)
    | succ dd ih10 =>
      intro i hdd10 hi Hn locs hS hz hA hB ls hl
      obtain ⟨h0, h1, h2, h3, h4, h5, h6, h7, hR⟩ := id hA
      obtain ⟨k0, k1, k2, k3, k4, k5, k6, k7, kR⟩ := id hB
      refine lv_iload_n hx hb dX1_becomeLike_10 rfl (lv_at hl 2 rfl) ?_
      refine lv_aload_n hx hb dX1_becomeLike_11 rfl (lv_at hl 0 rfl) ?_
      refine z_get (ref := RX1) (C := RX1) (T := TX1) (N := 3) hx hb hts hin1 hown hG h5 rfl 1 (by decide) (by decide +kernel) rfl rfl dX1_becomeLike_12 ?_
      refine z_alenR hx hb hG h6 dX1_becomeLike_15 ?_
      refine z_cge (tgt := 40) hx hb dX1_becomeLike_16 (by decide) ⟨by omega, by omega⟩ (fun c_3 => ?_) (fun c_3 => ?_)
      · refine lv_aload_n hx hb dX1_becomeLike_40 rfl (lv_at hl 1 rfl) ?_
        refine z_get (ref := RX1) (C := RX1) (T := TX1) (N := 3) hx hb hts hin1 hown hG k5 rfl 2 (by decide) (by decide +kernel) rfl rfl dX1_becomeLike_41 ?_
        refine lv_iconst (v := nI (0)) hx hb dX1_becomeLike_44 (by decide) ?_
        refine lv_aload_n hx hb dX1_becomeLike_45 rfl (lv_at hl 0 rfl) ?_
        refine z_get (ref := RX1) (C := RX1) (T := TX1) (N := 3) hx hb hts hin1 hown hG h5 rfl 2 (by decide) (by decide +kernel) rfl rfl dX1_becomeLike_46 ?_
        refine lv_iconst (v := nI (0)) hx hb dX1_becomeLike_49 (by decide) ?_
        refine lv_bipush (v := nI (10)) hx hb dX1_becomeLike_50 (by decide) ?_
        refine z_copy (own := RX1) (index := 30) (n := 10) hx hb (hml.trans hl.1.symm) hts hown hG (by decide +kernel) k7 h7 (by decide) hS (⟨8, by decide, rfl⟩) (Nat.le_of_ble_eq_true rfl) (Nat.le_of_ble_eq_true rfl) dX1_becomeLike_52 (fun Hn locs h_4 o_5 hS => ?_)
        have hA := zSt_tm hA hinj hb0 o_5.2 (zat_cong h_4 (fun j hj => zcpy_e hj))
        have hB := zSt_keep hB (fun o9 ho9 => o_5.2 _ (hinj.ne (by omega) (by omega) (by omega)))
        have hz : Hn.size = H.size := o_5.1.trans hz
        obtain ⟨h0, h1, h2, h3, h4, h5, h6, h7, hR⟩ := id hA
        obtain ⟨k0, k1, k2, k3, k4, k5, k6, k7, kR⟩ := id hB
        exact hret _ _ _ _ hS (hz) dX1_becomeLike_55 (by have e9 : i = 10 := (by omega); rw [e9] at hA; exact hA)
      · refine lv_aload_n hx hb dX1_becomeLike_19 rfl (lv_at hl 0 rfl) ?_
        refine z_get (ref := RX1) (C := RX1) (T := TX1) (N := 3) hx hb hts hin1 hown hG h5 rfl 1 (by decide) (by decide +kernel) rfl rfl dX1_becomeLike_20 ?_
        refine lv_iload_n hx hb dX1_becomeLike_23 rfl (lv_at hl 2 rfl) ?_
        refine z_aaldR (j := i) (v := ad (b + 21 + 2 * i)) hx hb hG h6 ⟨by omega, by omega⟩ rfl dX1_becomeLike_24 ?_
        refine lv_aload_n hx hb dX1_becomeLike_25 rfl (lv_at hl 1 rfl) ?_
        refine z_get (ref := RX1) (C := RX1) (T := TX1) (N := 3) hx hb hts hin1 hown hG k5 rfl 1 (by decide) (by decide +kernel) rfl rfl dX1_becomeLike_26 ?_
        refine lv_iload_n hx hb dX1_becomeLike_29 rfl (lv_at hl 2 rfl) ?_
        refine z_aaldR (j := i) (v := ad (b2 + 21 + 2 * i)) hx hb hG k6 ⟨by omega, by omega⟩ rfl dX1_becomeLike_30 ?_
        refine z_wrVN (As := [.ref (ad (b2 + 21 + 2 * i))]) (rest := []) (host := "CharmBracelets") (q := (RX2, TX2, 2)) S hG (c_X2_becomeLike E (a := ad (b + 21 + 2 * i)) (k := ad (b + 22 + 2 * i)) (b := ad (b2 + 21 + 2 * i)) (kb := ad (b2 + 22 + 2 * i)) (hinj.ne (by omega) (by omega) (by omega)) ⟨hinj.ne (by omega) (by omega) (by omega), hinj.ne (by omega) (by omega) (by omega), hinj.ne (by omega) (by omega) (by omega), hinj.ne (by omega) (by omega) (by omega)⟩) 1 gX1_becomeLike_X2_becomeLike_n26 (List.mem_of_getElem? (i := 11) rfl) (by decide +kernel) rfl kX2_becomeLike.2 ⟨Nat.le_of_ble_eq_true rfl, Nat.le_of_ble_eq_true rfl⟩ ⟨Nat.zero_le _, Nat.zero_le _⟩ (⟨zfr (hR (6 + i) (by omega)), zfr (kR (6 + i) (by omega))⟩) rfl (zfr_1 (hR (6 + i) (by omega))) rfl hl.1 rfl rfl (Nat.le_of_ble_eq_true rfl) dX1_becomeLike_31 hS (fun q h => h.elim (fun e => ⟨21 + 2 * i, by omega, by rw [e]; congr 1; omega⟩) (fun e => ⟨22 + 2 * i, by omega, by rw [e]; congr 1; omega⟩)) (fun Hn locs h_7 q_6 o_8 hS => ?_)
        have hz : Hn.size = H.size := q_6.trans hz
        rw [show b + 21 + 2 * i = b + 9 + 2 * (6 + i) by omega, show b + 22 + 2 * i = b + 10 + 2 * (6 + i) by omega] at h_7 o_8
        have hA : zStA E ad b (zcR (zsNl v (zNl w)) w 6 (i + 1)) Hn := by have h9 := zSt_rg hA hinj hb0 (by omega) o_8 h_7; rw [← zcR_s]; exact h9
        have hB := zSt_keep hB (fun o9 ho9 => o_8 _ (fun q => q.elim (hinj.ne (by omega) (by omega) (by omega)) (hinj.ne (by omega) (by omega) (by omega))))
        obtain ⟨h0, h1, h2, h3, h4, h5, h6, h7, hR⟩ := id hA
        obtain ⟨k0, k1, k2, k3, k4, k5, k6, k7, kR⟩ := id hB
        refine lv_iinc (v := nI (i + 1)) (lv' := [(2, .int (nI (i + 1))), (0, .ref (ad (b + 6))), (1, .ref (ad (b2 + 6)))]) hx hb dX1_becomeLike_34 hl (k := 2) rfl (z_inc1 _) (by decide) rfl (fun ls hl => ?_)
        refine lv_goto (tgt := 10) hx hb dX1_becomeLike_37 (by decide) ?_
        have hl9 := lv_sub hl [1, 2, 0] (l' := [(0, .ref (ad (b + 6))), (1, .ref (ad (b2 + 6))), (2, .int (nI (i + 1)))]) rfl
        have e9_2 : (i + 1) = ((i + 1)) := by omega
        exact ih10 (i + 1) (by omega) (by omega) _ _ hS hz (hA) (hB) ls (by rw [← e9_2]; exact hl9)
  exact L10 ((10 - (0)) + 1) (0) (Nat.lt_succ_self _) (by decide) _ _ hS hz (by rw [zcR_0]; exact hA) (hB) ls (lv_sub hl [1, 2, 0] rfl)

set_option maxHeartbeats 4000000 in
set_option maxRecDepth 100000 in
theorem c_X3_becomeLike (E : zEnv) {ad : Nat → Nat} {b b2 : Nat} {v w : zS} (hinj : zInj ad) (hb0 : b + 41 ≤ 293) (hb2 : b2 + 41 ≤ 293) (hbb : b + 41 ≤ b2 ∨ b2 + 41 ≤ b) : zWR E yX3_becomeLike wsX3_becomeLike 3 103 [.ref (ad b), .ref (ad b2)] (fun H => zStA E ad b v H ∧ zStA E ad b2 w H) (none) (fun H => zStA E ad b w H) (fun q => ∃ o, o < 41 ∧ q = ad (b + o)) := by
  refine zWR.ofV (maxL := 3) rfl (Nat.le_of_ble_eq_true rfl) (fun p e s m args below meth c H Q hF hP hret ls hl => ?_)
  have S : CallFix p m c cX3_becomeLike 3 s args wsX3_becomeLike RX3 := hF.1
  have hG := hF.2
  obtain ⟨hx, hb, hml, hown, hts⟩ := id S
  have hS : va_S (fun q => ∃ o, o < 41 ∧ q = ad (b + o)) H H [] := va_S.rf
  obtain ⟨locs, hlocs⟩ : ∃ x : List Loc, x = [] := ⟨_, rfl⟩
  rw [← hlocs] at hS ⊢
  have hz : H.size = H.size := rfl
  obtain ⟨hA, hB⟩ := hP
  obtain ⟨h0, h1, h2, h3, h4, h5, h6, h7, hR⟩ := id hA
  obtain ⟨k0, k1, k2, k3, k4, k5, k6, k7, kR⟩ := id hB
  have hl : lv_has ls 3 [(0, .ref (ad b)), (1, .ref (ad b2))] := hl
  have hin3 : ∀ w ∈ u_ws RX3 TX3 5, w ∈ wsX3_becomeLike := by decide +kernel
  refine lv_aload_n hx hb dX3_becomeLike_0 rfl (lv_at hl 1 rfl) ?_
  refine z_get (ref := RX3) (C := RX3) (T := TX3) (N := 5) hx hb hts hin3 hown hG k0 rfl 0 (by decide) (by decide +kernel) rfl rfl dX3_becomeLike_1 ?_
  refine lv_iconst (v := nI (0)) hx hb dX3_becomeLike_4 (by decide) ?_
  refine lv_aload_n hx hb dX3_becomeLike_5 rfl (lv_at hl 0 rfl) ?_
  refine z_get (ref := RX3) (C := RX3) (T := TX3) (N := 5) hx hb hts hin3 hown hG h0 rfl 0 (by decide) (by decide +kernel) rfl rfl dX3_becomeLike_6 ?_
  refine lv_iconst (v := nI (0)) hx hb dX3_becomeLike_9 (by decide) ?_
  refine lv_bipush (v := nI (6)) hx hb dX3_becomeLike_10 (by decide) ?_
  refine z_copy (own := RX3) (index := 39) (n := 6) hx hb (hml.trans hl.1.symm) hts hown hG (by decide +kernel) k1 h1 (by decide) hS (⟨1, by decide, rfl⟩) (Nat.le_of_ble_eq_true rfl) (Nat.le_of_ble_eq_true rfl) dX3_becomeLike_12 (fun Hn locs h_1 o_2 hS => ?_)
  have hA := zSt_bx hA hinj hb0 o_2.2 (zat_cong h_1 (fun j hj => zcpy_e hj))
  have hB := zSt_keep hB (fun o9 ho9 => o_2.2 _ (hinj.ne (by omega) (by omega) (by omega)))
  have hz : Hn.size = H.size := o_2.1.trans hz
  obtain ⟨h0, h1, h2, h3, h4, h5, h6, h7, hR⟩ := id hA
  obtain ⟨k0, k1, k2, k3, k4, k5, k6, k7, kR⟩ := id hB
  refine lv_aload_n hx hb dX3_becomeLike_15 rfl (lv_at hl 1 rfl) ?_
  refine z_get (ref := RX3) (C := RX3) (T := TX3) (N := 5) hx hb hts hin3 hown hG k0 rfl 1 (by decide) (by decide +kernel) rfl rfl dX3_becomeLike_16 ?_
  refine lv_iconst (v := nI (0)) hx hb dX3_becomeLike_19 (by decide) ?_
  refine lv_aload_n hx hb dX3_becomeLike_20 rfl (lv_at hl 0 rfl) ?_
  refine z_get (ref := RX3) (C := RX3) (T := TX3) (N := 5) hx hb hts hin3 hown hG h0 rfl 1 (by decide) (by decide +kernel) rfl rfl dX3_becomeLike_21 ?_
  refine lv_iconst (v := nI (0)) hx hb dX3_becomeLike_24 (by decide) ?_
  refine lv_bipush (v := nI (6)) hx hb dX3_becomeLike_25 (by decide) ?_
  refine z_copy (own := RX3) (index := 39) (n := 6) hx hb (hml.trans hl.1.symm) hts hown hG (by decide +kernel) k2 h2 (by decide) hS (⟨2, by decide, rfl⟩) (Nat.le_of_ble_eq_true rfl) (Nat.le_of_ble_eq_true rfl) dX3_becomeLike_27 (fun Hn locs h_3 o_4 hS => ?_)
  have hA := zSt_wt hA hinj hb0 o_4.2 (zat_cong h_3 (fun j hj => zcpy_e hj))
  have hB := zSt_keep hB (fun o9 ho9 => o_4.2 _ (hinj.ne (by omega) (by omega) (by omega)))
  have hz : Hn.size = H.size := o_4.1.trans hz
  obtain ⟨h0, h1, h2, h3, h4, h5, h6, h7, hR⟩ := id hA
  obtain ⟨k0, k1, k2, k3, k4, k5, k6, k7, kR⟩ := id hB
  refine lv_iconst (v := nI (0)) hx hb dX3_becomeLike_30 (by decide) ?_
  refine lv_istore_n (lv' := [(2, .int (nI (0))), (0, .ref (ad b)), (1, .ref (ad b2))]) hx hb dX3_becomeLike_31 rfl hl (by decide) rfl (fun ls hl => ?_)
  have L32 : ∀ (dd : Nat) (i : Nat), 6 - i < dd → (i ≤ 6) → ∀ (Hn : Heap) (locs : List Loc) (hS : va_S (fun q => ∃ o, o < 41 ∧ q = ad (b + o)) H Hn locs) (hz : Hn.size = H.size) (hA : zStA E ad b (zcR (zsWt (zsBx v (zBx w)) (zWt w)) w 0 i) Hn) (hB : zStA E ad b2 w Hn) (ls : Array Slot), lv_has ls 3 [(0, .ref (ad b)), (1, .ref (ad b2)), (2, .int (nI (i)))] → W p (zl E) e (zRm 3 103) s m args below meth c Hn locs 0 0 Q (F0 m 32 ls []) := by
    intro dd
    induction dd with
    | zero => intro i hdd; exact absurd hdd (Nat.not_lt_zero _)
    | succ dd ih32 =>
      intro i hdd32 hi Hn locs hS hz hA hB ls hl
      obtain ⟨h0, h1, h2, h3, h4, h5, h6, h7, hR⟩ := id hA
      obtain ⟨k0, k1, k2, k3, k4, k5, k6, k7, kR⟩ := id hB
      refine lv_iload_n hx hb dX3_becomeLike_32 rfl (lv_at hl 2 rfl) ?_
      refine lv_aload_n hx hb dX3_becomeLike_33 rfl (lv_at hl 0 rfl) ?_
      refine z_get (ref := RX3) (C := RX3) (T := TX3) (N := 5) hx hb hts hin3 hown hG h0 rfl 2 (by decide) (by decide +kernel) rfl rfl dX3_becomeLike_34 ?_
      refine z_alenR hx hb hG h3 dX3_becomeLike_37 ?_
      refine z_cge (tgt := 62) hx hb dX3_becomeLike_38 (by decide) ⟨by omega, by omega⟩ (fun c_5 => ?_) (fun c_5 => ?_)
      · refine lv_aload_n hx hb dX3_becomeLike_62 rfl (lv_at hl 0 rfl) ?_
        refine z_get (ref := RX3) (C := RX3) (T := TX3) (N := 5) hx hb hts hin3 hown hG h0 rfl 3 (by decide) (by decide +kernel) rfl rfl dX3_becomeLike_63 ?_
        refine lv_aload_n hx hb dX3_becomeLike_66 rfl (lv_at hl 1 rfl) ?_
        refine z_get (ref := RX3) (C := RX3) (T := TX3) (N := 5) hx hb hts hin3 hown hG k0 rfl 3 (by decide) (by decide +kernel) rfl rfl dX3_becomeLike_67 ?_
        refine z_wrVN (As := [.ref (ad (b2 + 4))]) (rest := []) (host := "CharmBracelets") (q := (RX0, TX0, 2)) S hG (c_X0_becomeLike E (mo := ad (b + 4)) (mk := ad (b + 5)) (b := ad (b2 + 4)) (kb := ad (b2 + 5)) (hinj.ne (by omega) (by omega) (by omega)) ⟨hinj.ne (by omega) (by omega) (by omega), hinj.ne (by omega) (by omega) (by omega), hinj.ne (by omega) (by omega) (by omega), hinj.ne (by omega) (by omega) (by omega)⟩) 1 gX3_becomeLike_X0_becomeLike_n49 (List.mem_of_getElem? (i := 9) rfl) (by decide +kernel) rfl kX0_becomeLike.2 ⟨Nat.le_of_ble_eq_true rfl, Nat.le_of_ble_eq_true rfl⟩ ⟨Nat.zero_le _, Nat.zero_le _⟩ (⟨h4, k4⟩) rfl h4.1 rfl hl.1 rfl rfl (Nat.le_of_ble_eq_true rfl) dX3_becomeLike_70 hS (fun q h => h.elim (fun e => ⟨4, by decide, e⟩) (fun e => ⟨5, by decide, e⟩)) (fun Hn locs h_7 q_6 o_8 hS => ?_)
        have hz : Hn.size = H.size := q_6.trans hz
        have hA := zSt_mo hA hinj hb0 o_8 h_7
        have hB := zSt_keep hB (fun o9 ho9 => o_8 _ (fun q => q.elim (hinj.ne (by omega) (by omega) (by omega)) (hinj.ne (by omega) (by omega) (by omega))))
        obtain ⟨h0, h1, h2, h3, h4, h5, h6, h7, hR⟩ := id hA
        obtain ⟨k0, k1, k2, k3, k4, k5, k6, k7, kR⟩ := id hB
        refine lv_aload_n hx hb dX3_becomeLike_73 rfl (lv_at hl 0 rfl) ?_
        refine z_get (ref := RX3) (C := RX3) (T := TX3) (N := 5) hx hb hts hin3 hown hG h0 rfl 4 (by decide) (by decide +kernel) rfl rfl dX3_becomeLike_74 ?_
        refine lv_aload_n hx hb dX3_becomeLike_77 rfl (lv_at hl 1 rfl) ?_
        refine z_get (ref := RX3) (C := RX3) (T := TX3) (N := 5) hx hb hts hin3 hown hG k0 rfl 4 (by decide) (by decide +kernel) rfl rfl dX3_becomeLike_78 ?_
        refine z_wrVN (As := [.ref (ad (b2 + 6))]) (rest := []) (host := "CharmBracelets") (q := (RX1, TX1, 3)) S hG (c_X1_becomeLike E hinj hb0 hb2 hbb) 1 gX3_becomeLike_X1_becomeLike_n52 (List.mem_of_getElem? (i := 10) rfl) (by decide +kernel) rfl kX1_becomeLike.2 ⟨Nat.le_of_ble_eq_true rfl, Nat.le_of_ble_eq_true rfl⟩ ⟨Nat.zero_le _, Nat.zero_le _⟩ (⟨hA, hB⟩) rfl h5 rfl hl.1 rfl rfl (Nat.le_of_ble_eq_true rfl) dX3_becomeLike_81 hS (fun _ h => h) (fun Hn locs h_10 q_9 o_11 hS => ?_)
        have hz : Hn.size = H.size := q_9.trans hz
        have hA := h_10
        exact hret _ _ _ _ hS (hz) dX3_becomeLike_84 (by have e9 : i = 6 := (by omega); subst e9; exact zSt_cong hA (fun _ _ => rfl) (fun _ _ => rfl) (fun r hr => ⟨zcc hr, zcc hr⟩) rfl (fun _ _ => rfl) rfl (fun _ _ => rfl))
      · refine lv_aload_n hx hb dX3_becomeLike_41 rfl (lv_at hl 0 rfl) ?_
        refine z_get (ref := RX3) (C := RX3) (T := TX3) (N := 5) hx hb hts hin3 hown hG h0 rfl 2 (by decide) (by decide +kernel) rfl rfl dX3_becomeLike_42 ?_
        refine lv_iload_n hx hb dX3_becomeLike_45 rfl (lv_at hl 2 rfl) ?_
        refine z_aaldR (j := i) (v := ad (b + 9 + 2 * i)) hx hb hG h3 ⟨by omega, by omega⟩ rfl dX3_becomeLike_46 ?_
        refine lv_aload_n hx hb dX3_becomeLike_47 rfl (lv_at hl 1 rfl) ?_
        refine z_get (ref := RX3) (C := RX3) (T := TX3) (N := 5) hx hb hts hin3 hown hG k0 rfl 2 (by decide) (by decide +kernel) rfl rfl dX3_becomeLike_48 ?_
        refine lv_iload_n hx hb dX3_becomeLike_51 rfl (lv_at hl 2 rfl) ?_
        refine z_aaldR (j := i) (v := ad (b2 + 9 + 2 * i)) hx hb hG k3 ⟨by omega, by omega⟩ rfl dX3_becomeLike_52 ?_
        refine z_wrVN (As := [.ref (ad (b2 + 9 + 2 * i))]) (rest := []) (host := "CharmBracelets") (q := (RX2, TX2, 2)) S hG (c_X2_becomeLike E (a := ad (b + 9 + 2 * i)) (k := ad (b + 10 + 2 * i)) (b := ad (b2 + 9 + 2 * i)) (kb := ad (b2 + 10 + 2 * i)) (hinj.ne (by omega) (by omega) (by omega)) ⟨hinj.ne (by omega) (by omega) (by omega), hinj.ne (by omega) (by omega) (by omega), hinj.ne (by omega) (by omega) (by omega), hinj.ne (by omega) (by omega) (by omega)⟩) 1 gX3_becomeLike_X2_becomeLike_n45 (List.mem_of_getElem? (i := 8) rfl) (by decide +kernel) rfl kX2_becomeLike.2 ⟨Nat.le_of_ble_eq_true rfl, Nat.le_of_ble_eq_true rfl⟩ ⟨Nat.zero_le _, Nat.zero_le _⟩ (⟨hR i (by omega), kR i (by omega)⟩) rfl (hR i (by omega)).1 rfl hl.1 rfl rfl (Nat.le_of_ble_eq_true rfl) dX3_becomeLike_53 hS (fun q h => h.elim (fun e => ⟨9 + 2 * i, by omega, by rw [e]; congr 1; omega⟩) (fun e => ⟨10 + 2 * i, by omega, by rw [e]; congr 1; omega⟩)) (fun Hn locs h_13 q_12 o_14 hS => ?_)
        have hz : Hn.size = H.size := q_12.trans hz
        have e0 : 0 + i = i := Nat.zero_add i
        have hA : zStA E ad b (zcR (zsWt (zsBx v (zBx w)) (zWt w)) w 0 (i + 1)) Hn := by have h9 := zSt_rg hA hinj hb0 (by omega) o_14 h_13; rw [← zcR_s, e0]; exact h9
        have hB := zSt_keep hB (fun o9 ho9 => o_14 _ (fun q => q.elim (hinj.ne (by omega) (by omega) (by omega)) (hinj.ne (by omega) (by omega) (by omega))))
        obtain ⟨h0, h1, h2, h3, h4, h5, h6, h7, hR⟩ := id hA
        obtain ⟨k0, k1, k2, k3, k4, k5, k6, k7, kR⟩ := id hB
        refine lv_iinc (v := nI (i + 1)) (lv' := [(2, .int (nI (i + 1))), (0, .ref (ad b)), (1, .ref (ad b2))]) hx hb dX3_becomeLike_56 hl (k := 2) rfl (z_inc1 _) (by decide) rfl (fun ls hl => ?_)
        refine lv_goto (tgt := 32) hx hb dX3_becomeLike_59 (by decide) ?_
        have hl9 := lv_sub hl [1, 2, 0] (l' := [(0, .ref (ad b)), (1, .ref (ad b2)), (2, .int (nI (i + 1)))]) rfl
        have e9_2 : (i + 1) = ((i + 1)) := by omega
        exact ih32 (i + 1) (by omega) (by omega) _ _ hS hz (hA) (hB) ls (by rw [← e9_2]; exact hl9)
  exact L32 ((6 - (0)) + 1) (0) (Nat.lt_succ_self _) (by decide) _ _ hS hz (by rw [zcR_0]; exact hA) (hB) ls (lv_sub hl [1, 2, 0] rfl)

set_option maxHeartbeats 4000000 in
set_option maxRecDepth 100000 in
theorem c_X1_count_new (E : zEnv) {ad : Nat → Nat} {b : Nat} {v : zS} {t a k n : Nat} {f : Nat → Int32} (hinj : zInj ad) (hb0 : b + 41 ≤ 293) (ht : t < 10) (htl : t = zNl v) (hne : a ≠ ad (b + 21 + 2 * t) ∧ k ≠ ad (b + 21 + 2 * t) ∧ a ≠ ad (b + 22 + 2 * t) ∧ k ≠ ad (b + 22 + 2 * t)) : zWR E yX1_count wsX1_count 2 81 [.ref (ad (b + 6)), .int (nI (t)), .ref (a)] (fun H => zStA E ad b v H ∧ zRing E a k n f H) (none) (fun H => zStA E ad b (zsTm (zsNl (zsRg v (6 + t) n f) (t + 1)) (upd (upd (zTm v) t (nI 0)) t ((upd (zTm v) t (nI 0)) t + nI 1))) H) (fun q => ∃ o, o < 41 ∧ q = ad (b + o)) := by
  refine zWR.ofV (maxL := 3) rfl (Nat.le_of_ble_eq_true rfl) (fun p e s m args below meth c H Q hF hP hret ls hl => ?_)
  have S : CallFix p m c cX1_count 3 s args wsX1_count RX1 := hF.1
  have hG := hF.2
  obtain ⟨hx, hb, hml, hown, hts⟩ := id S
  have hS : va_S (fun q => ∃ o, o < 41 ∧ q = ad (b + o)) H H [] := va_S.rf
  obtain ⟨locs, hlocs⟩ : ∃ x : List Loc, x = [] := ⟨_, rfl⟩
  rw [← hlocs] at hS ⊢
  have hz : H.size = H.size := rfl
  obtain ⟨hA, g1, g2⟩ := hP
  obtain ⟨h0, h1, h2, h3, h4, h5, h6, h7, hR⟩ := id hA
  have hl : lv_has ls 3 [(0, .ref (ad (b + 6))), (1, .int (nI (t))), (2, .ref (a))] := hl
  have hin1 : ∀ w ∈ u_ws RX1 TX1 3, w ∈ wsX1_count := by decide +kernel
  refine lv_iload_n hx hb dX1_count_0 rfl (lv_at hl 1 rfl) ?_
  refine z_flt (tgt := 13) hx hb dX1_count_1 (by decide) (by omega) ?_
  refine lv_iload_n hx hb dX1_count_4 rfl (lv_at hl 1 rfl) ?_
  refine lv_aload_n hx hb dX1_count_5 rfl (lv_at hl 0 rfl) ?_
  refine z_get (ref := RX1) (C := RX1) (T := TX1) (N := 3) hx hb hts hin1 hown hG h5 rfl 1 (by decide) (by decide +kernel) rfl rfl dX1_count_6 ?_
  refine z_alenR hx hb hG h6 dX1_count_9 ?_
  refine z_clt (tgt := 14) hx hb dX1_count_10 (by decide) ⟨by omega, by omega⟩ (fun c_2 => ?_) (fun c_2 => by exfalso; omega)
  refine lv_iload_n hx hb dX1_count_14 rfl (lv_at hl 1 rfl) ?_
  refine lv_aload_n hx hb dX1_count_15 rfl (lv_at hl 0 rfl) ?_
  refine z_get (ref := RX1) (C := RX1) (T := TX1) (N := 3) hx hb hts hin1 hown hG h5 rfl 0 (by decide) (by decide +kernel) rfl rfl dX1_count_16 ?_
  refine z_cne (tgt := 49) hx hb dX1_count_19 (by decide) ⟨by omega, by omega⟩ (fun c_3 => by exfalso; omega) (fun c_3 => ?_)
  refine lv_aload_n hx hb dX1_count_22 rfl (lv_at hl 0 rfl) ?_
  refine z_get (ref := RX1) (C := RX1) (T := TX1) (N := 3) hx hb hts hin1 hown hG h5 rfl 1 (by decide) (by decide +kernel) rfl rfl dX1_count_23 ?_
  refine lv_iload_n hx hb dX1_count_26 rfl (lv_at hl 1 rfl) ?_
  refine z_aaldR (j := t) (v := ad (b + 21 + 2 * t)) hx hb hG h6 ⟨by omega, by omega⟩ rfl dX1_count_27 ?_
  refine lv_aload_n hx hb dX1_count_28 rfl (lv_at hl 2 rfl) ?_
  refine z_wrVN (As := [.ref (a)]) (rest := []) (host := "CharmBracelets") (q := (RX2, TX2, 2)) S hG (c_X2_becomeLike E (a := ad (b + 21 + 2 * t)) (k := ad (b + 22 + 2 * t)) (b := a) (kb := k) (hinj.ne (by omega) (by omega) (by omega)) hne) 1 gX1_count_X2_becomeLike_n26 (List.mem_of_getElem? (i := 11) rfl) (by decide +kernel) rfl kX2_becomeLike.2 ⟨Nat.le_of_ble_eq_true rfl, Nat.le_of_ble_eq_true rfl⟩ ⟨Nat.zero_le _, Nat.zero_le _⟩ (⟨zfr (hR (6 + t) (by omega)), g1, g2⟩) rfl (zfr_1 (hR (6 + t) (by omega))) rfl hl.1 rfl rfl (Nat.le_of_ble_eq_true rfl) dX1_count_29 hS (fun q h => h.elim (fun e => ⟨21 + 2 * t, by omega, by rw [e]; congr 1; omega⟩) (fun e => ⟨22 + 2 * t, by omega, by rw [e]; congr 1; omega⟩)) (fun Hn locs h_5 q_4 o_6 hS => ?_)
  have hz : Hn.size = H.size := q_4.trans hz
  rw [show b + 21 + 2 * t = b + 9 + 2 * (6 + t) by omega, show b + 22 + 2 * t = b + 10 + 2 * (6 + t) by omega] at h_5 o_6
  have hA := zSt_rg hA hinj hb0 (by omega) o_6 h_5
  obtain ⟨h0, h1, h2, h3, h4, h5, h6, h7, hR⟩ := id hA
  refine lv_aload_n hx hb dX1_count_32 rfl (lv_at hl 0 rfl) ?_
  refine z_get (ref := RX1) (C := RX1) (T := TX1) (N := 3) hx hb hts hin1 hown hG h5 rfl 2 (by decide) (by decide +kernel) rfl rfl dX1_count_33 ?_
  refine lv_iload_n hx hb dX1_count_36 rfl (lv_at hl 1 rfl) ?_
  refine lv_iconst (v := nI (0)) hx hb dX1_count_37 (by decide) ?_
  refine z_iast (j := t) hx hb hG h7 ⟨by omega, by omega⟩ hS (⟨8, by decide, rfl⟩) dX1_count_38 (fun Hn locs h_7 o_8 hS => ?_)
  have hA := zSt_tm hA hinj hb0 o_8.2 (h_7)
  have hz : Hn.size = H.size := o_8.1.trans hz
  obtain ⟨h0, h1, h2, h3, h4, h5, h6, h7, hR⟩ := id hA
  refine lv_aload_n hx hb dX1_count_39 rfl (lv_at hl 0 rfl) ?_
  refine lv_dup hx hb dX1_count_40 rfl ?_
  refine z_get (ref := RX1) (C := RX1) (T := TX1) (N := 3) hx hb hts hin1 hown hG h5 rfl 0 (by decide) (by decide +kernel) rfl rfl dX1_count_41 ?_
  refine lv_iconst (v := nI (1)) hx hb dX1_count_44 (by decide) ?_
  refine z_iadd hx hb dX1_count_45 ?_
  refine z_put (ref := RX1) (C := RX1) (T := TX1) (N := 3) hx hb hts hin1 tyX1_ok nmX1 hown hG h5 rfl 0 (by decide) (by decide +kernel) rfl rfl rfl rfl (Nat.le_of_ble_eq_true rfl) hS (⟨6, by decide, rfl⟩) dX1_count_46 (fun Hn locs h_9 o_10 hS => ?_)
  have hA := zSt_nl (nl := t + 1) hA hinj hb0 o_10.2 (by rw [htl]; exact h_9)
  have hz : Hn.size = H.size := o_10.1.trans hz
  obtain ⟨h0, h1, h2, h3, h4, h5, h6, h7, hR⟩ := id hA
  refine lv_aload_n hx hb dX1_count_49 rfl (lv_at hl 0 rfl) ?_
  refine z_get (ref := RX1) (C := RX1) (T := TX1) (N := 3) hx hb hts hin1 hown hG h5 rfl 2 (by decide) (by decide +kernel) rfl rfl dX1_count_50 ?_
  refine lv_iload_n hx hb dX1_count_53 rfl (lv_at hl 1 rfl) ?_
  refine lv_dup2_11 hx hb dX1_count_54 rfl rfl ?_
  refine z_iald (j := t) hx hb hG h7 ⟨by omega, by omega⟩ dX1_count_55 ?_
  refine z_top (y := ((upd (zTm v) t (nI 0)) t)) (rfl) ?_
  refine lv_iconst (v := nI (1)) hx hb dX1_count_56 (by decide) ?_
  refine lv_iadd hx hb dX1_count_57 ?_
  refine z_iast (j := t) hx hb hG h7 ⟨by omega, by omega⟩ hS (⟨8, by decide, rfl⟩) dX1_count_58 (fun Hn locs h_11 o_12 hS => ?_)
  have hA := zSt_tm hA hinj hb0 o_12.2 (h_11)
  have hz : Hn.size = H.size := o_12.1.trans hz
  obtain ⟨h0, h1, h2, h3, h4, h5, h6, h7, hR⟩ := id hA
  exact hret _ _ _ _ hS (hz) dX1_count_59 (hA)

set_option maxHeartbeats 4000000 in
set_option maxRecDepth 100000 in
theorem c_X1_count_old (E : zEnv) {ad : Nat → Nat} {b : Nat} {v : zS} {t a : Nat} (hinj : zInj ad) (hb0 : b + 41 ≤ 293) (ht : t < 10) (htl : t < zNl v ∧ zNl v ≤ 10) : zWR E yX1_count wsX1_count 2 81 [.ref (ad (b + 6)), .int (nI (t)), .ref (a)] (fun H => zStA E ad b v H) (none) (fun H => zStA E ad b (zsTm v (upd (zTm v) t (zTm v t + nI 1))) H) (fun q => ∃ o, o < 41 ∧ q = ad (b + o)) := by
  refine zWR.ofV (maxL := 3) rfl (Nat.le_of_ble_eq_true rfl) (fun p e s m args below meth c H Q hF hP hret ls hl => ?_)
  have S : CallFix p m c cX1_count 3 s args wsX1_count RX1 := hF.1
  have hG := hF.2
  obtain ⟨hx, hb, hml, hown, hts⟩ := id S
  have hS : va_S (fun q => ∃ o, o < 41 ∧ q = ad (b + o)) H H [] := va_S.rf
  obtain ⟨locs, hlocs⟩ : ∃ x : List Loc, x = [] := ⟨_, rfl⟩
  rw [← hlocs] at hS ⊢
  have hz : H.size = H.size := rfl
  have hA := hP
  obtain ⟨h0, h1, h2, h3, h4, h5, h6, h7, hR⟩ := id hA
  have hl : lv_has ls 3 [(0, .ref (ad (b + 6))), (1, .int (nI (t))), (2, .ref (a))] := hl
  have hin1 : ∀ w ∈ u_ws RX1 TX1 3, w ∈ wsX1_count := by decide +kernel
  refine lv_iload_n hx hb dX1_count_0 rfl (lv_at hl 1 rfl) ?_
  refine z_flt (tgt := 13) hx hb dX1_count_1 (by decide) (by omega) ?_
  refine lv_iload_n hx hb dX1_count_4 rfl (lv_at hl 1 rfl) ?_
  refine lv_aload_n hx hb dX1_count_5 rfl (lv_at hl 0 rfl) ?_
  refine z_get (ref := RX1) (C := RX1) (T := TX1) (N := 3) hx hb hts hin1 hown hG h5 rfl 1 (by decide) (by decide +kernel) rfl rfl dX1_count_6 ?_
  refine z_alenR hx hb hG h6 dX1_count_9 ?_
  refine z_clt (tgt := 14) hx hb dX1_count_10 (by decide) ⟨by omega, by omega⟩ (fun c_2 => ?_) (fun c_2 => by exfalso; omega)
  refine lv_iload_n hx hb dX1_count_14 rfl (lv_at hl 1 rfl) ?_
  refine lv_aload_n hx hb dX1_count_15 rfl (lv_at hl 0 rfl) ?_
  refine z_get (ref := RX1) (C := RX1) (T := TX1) (N := 3) hx hb hts hin1 hown hG h5 rfl 0 (by decide) (by decide +kernel) rfl rfl dX1_count_16 ?_
  refine z_cne (tgt := 49) hx hb dX1_count_19 (by decide) ⟨by omega, by omega⟩ (fun c_3 => ?_) (fun c_3 => by exfalso; omega)
  refine lv_aload_n hx hb dX1_count_49 rfl (lv_at hl 0 rfl) ?_
  refine z_get (ref := RX1) (C := RX1) (T := TX1) (N := 3) hx hb hts hin1 hown hG h5 rfl 2 (by decide) (by decide +kernel) rfl rfl dX1_count_50 ?_
  refine lv_iload_n hx hb dX1_count_53 rfl (lv_at hl 1 rfl) ?_
  refine lv_dup2_11 hx hb dX1_count_54 rfl rfl ?_
  refine z_iald (j := t) hx hb hG h7 ⟨by omega, by omega⟩ dX1_count_55 ?_
  refine z_top (y := (zTm v t)) (rfl) ?_
  refine lv_iconst (v := nI (1)) hx hb dX1_count_56 (by decide) ?_
  refine lv_iadd hx hb dX1_count_57 ?_
  refine z_iast (j := t) hx hb hG h7 ⟨by omega, by omega⟩ hS (⟨8, by decide, rfl⟩) dX1_count_58 (fun Hn locs h_4 o_5 hS => ?_)
  have hA := zSt_tm hA hinj hb0 o_5.2 (h_4)
  have hz : Hn.size = H.size := o_5.1.trans hz
  obtain ⟨h0, h1, h2, h3, h4, h5, h6, h7, hR⟩ := id hA
  exact hret _ _ _ _ hS (hz) dX1_count_59 (hA)
