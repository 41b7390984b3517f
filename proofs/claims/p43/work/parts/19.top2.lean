set_option maxHeartbeats 4000000 in
set_option maxRecDepth 100000 in
theorem c_X5_record (E : zEnv) {ad : Nat → Nat} {nw sv : zS} {an : Bool} {hs : Nat → zS} {ct ln : Nat} {cd : Nat → Int32} {π : Nat → Nat} {tn tt nb : Nat} {tf : Nat → Int32} (hinj : zInj ad) (hp : zPi π) (hct : ct ≤ 5) : zWR E yX5_record wsX5_record 4 125 [.ref (ad 287)] (fun H => zCX E ad nw sv an hs ct ln cd π tn tt nb tf H) (none) (fun H => ∃ π : Nat → Nat, zPi π ∧ zCX E ad nw sv an (zrH hs ct nw) (zrC ct) ln cd π tn tt nb tf H) (zAC ad) := by
  refine zWR.ofV (maxL := 1) rfl (Nat.le_of_ble_eq_true rfl) (fun p e s m args below meth c H Q hF hP hret ls hl => ?_)
  have S : CallFix p m c cX5_record 1 s args wsX5_record RX5 := hF.1
  have hG := hF.2
  obtain ⟨hx, hb, hml, hown, hts⟩ := id S
  have hS : va_S (zAC ad) H H [] := va_S.rf
  obtain ⟨locs, hlocs⟩ : ∃ x : List Loc, x = [] := ⟨_, rfl⟩
  rw [← hlocs] at hS ⊢
  have hz : H.size = H.size := rfl
  have hX := hP
  obtain ⟨hA, hsv, hhs, t5, t8, t9, t10, t11⟩ := id hX
  obtain ⟨h0, h1, h2, h3, h4, h5, h6, h7, hR⟩ := id hA
  have hl : lv_has ls 1 [(0, .ref (ad 287))] := hl
  have hin5 : ∀ w ∈ u_ws RX5 TX5 7, w ∈ wsX5_record := by decide +kernel
  refine lv_aload_n hx hb dX5_record_0 rfl (lv_at hl 0 rfl) ?_
  refine z_get (ref := RX5) (C := RX5) (T := TX5) (N := 7) hx hb hts hin5 hown hG t5 rfl 6 (by decide) (by decide +kernel) rfl rfl dX5_record_1 ?_
  refine lv_iconst (v := nI (5)) hx hb dX5_record_4 (by decide) ?_
  refine z_clt (tgt := 12) hx hb dX5_record_5 (by decide) ⟨by omega, by omega⟩ (fun c_1 => ?_) (fun c_1 => ?_)
  · refine lv_aload_n hx hb dX5_record_12 rfl (lv_at hl 0 rfl) ?_
    refine z_get (ref := RX5) (C := RX5) (T := TX5) (N := 7) hx hb hts hin5 hown hG t5 rfl 2 (by decide) (by decide +kernel) rfl rfl dX5_record_13 ?_
    refine lv_aload_n hx hb dX5_record_16 rfl (lv_at hl 0 rfl) ?_
    refine z_get (ref := RX5) (C := RX5) (T := TX5) (N := 7) hx hb hts hin5 hown hG t5 rfl 6 (by decide) (by decide +kernel) rfl rfl dX5_record_17 ?_
    refine z_aaldS (j := ct) (v := ad (41 * (2 + π ct))) hx hb hG t8 ⟨by omega, by omega⟩ (rfl) dX5_record_20 ?_
    refine lv_aload_n hx hb dX5_record_21 rfl (lv_at hl 0 rfl) ?_
    refine z_get (ref := RX5) (C := RX5) (T := TX5) (N := 7) hx hb hts hin5 hown hG t5 rfl 0 (by decide) (by decide +kernel) rfl rfl dX5_record_22 ?_
    refine z_wrVN (As := [.ref (ad 0)]) (rest := []) (host := "CharmBracelets") (q := (RX3, TX3, 5)) S hG (c_X3_becomeLike E hinj (b := 41 * (2 + π ct)) (b2 := 0) (by have := hp.1 ct (by omega); omega) (by decide) (by omega)) 1 gX5_record_X3_becomeLike_n234 (List.mem_of_getElem? (i := 7) rfl) (by decide +kernel) rfl kX3_becomeLike.2 ⟨Nat.le_of_ble_eq_true rfl, Nat.le_of_ble_eq_true rfl⟩ ⟨Nat.zero_le _, Nat.zero_le _⟩ (⟨hhs ct (by omega), hA⟩) rfl (hhs ct (by omega)).1 rfl hl.1 rfl rfl (Nat.le_of_ble_eq_true rfl) dX5_record_25 hS (fun q ⟨o9, h9, e9⟩ => ⟨_, by have := hp.1 ct (by omega); omega, e9⟩) (fun Hn locs h_3 q_2 o_4 hS => ?_)
    have hz : Hn.size = H.size := q_2.trans hz
    have hX := zX_hs (j := ct) (by omega) hinj hp hX (fun q hq => o_4 q (fun ⟨o9, h9, e9⟩ => hq (41 * (2 + π ct) + o9) ⟨by omega, by omega⟩ e9)) h_3
    obtain ⟨hA, hsv, hhs, t5, t8, t9, t10, t11⟩ := id hX
    obtain ⟨h0, h1, h2, h3, h4, h5, h6, h7, hR⟩ := id hA
    refine lv_aload_n hx hb dX5_record_28 rfl (lv_at hl 0 rfl) ?_
    refine lv_dup hx hb dX5_record_29 rfl ?_
    refine z_get (ref := RX5) (C := RX5) (T := TX5) (N := 7) hx hb hts hin5 hown hG t5 rfl 6 (by decide) (by decide +kernel) rfl rfl dX5_record_30 ?_
    refine lv_iconst (v := nI (1)) hx hb dX5_record_33 (by decide) ?_
    refine z_iadd hx hb dX5_record_34 ?_
    refine z_put (ref := RX5) (C := RX5) (T := TX5) (N := 7) hx hb hts hin5 tyX5_ok nmX5 hown hG t5 rfl 6 (by decide) (by decide +kernel) rfl rfl rfl rfl (Nat.le_of_ble_eq_true rfl) hS (⟨287, by decide, rfl⟩) dX5_record_35 (fun Hn locs h_5 o_6 hS => ?_)
    have hX := zX_top hinj hp hX o_6.2 h_5
    have hz : Hn.size = H.size := o_6.1.trans hz
    exact hret _ _ _ _ hS (hz) dX5_record_38 (⟨π, hp, by rw [zrH_lt c_1, show zrC ct = ct + 1 from if_pos c_1]; exact hX⟩)
  · refine lv_aload_n hx hb dX5_record_8 rfl (lv_at hl 0 rfl) ?_
    refine z_wrV (As := []) (rest := []) (q := (RX5, TX5, 7)) S hG (c_X5_discardOldest E hinj hp) 0 gX5_record_X5_discardOldest rfl kX5_discardOldest ⟨Nat.le_of_ble_eq_true rfl, Nat.le_of_ble_eq_true rfl⟩ ⟨Nat.zero_le _, Nat.zero_le _⟩ (hX) rfl t5 rfl hl.1 rfl rfl (Nat.le_of_ble_eq_true rfl) dX5_record_9 hS (fun q h => h.elim (fun e => ⟨287, by decide, e⟩) (fun e => ⟨288, by decide, e⟩)) (fun Hn locs h_8 q_7 o_9 hS => ?_)
    have hz : Hn.size = H.size := q_7.trans hz
    obtain ⟨hs2, e1, e2, hX⟩ := h_8
    have hp := zroF_pi hp
    generalize zroF π = π at hp hX
    obtain ⟨hA, hsv, hhs, t5, t8, t9, t10, t11⟩ := id hX
    obtain ⟨h0, h1, h2, h3, h4, h5, h6, h7, hR⟩ := id hA
    refine lv_aload_n hx hb dX5_record_12 rfl (lv_at hl 0 rfl) ?_
    refine z_get (ref := RX5) (C := RX5) (T := TX5) (N := 7) hx hb hts hin5 hown hG t5 rfl 2 (by decide) (by decide +kernel) rfl rfl dX5_record_13 ?_
    refine lv_aload_n hx hb dX5_record_16 rfl (lv_at hl 0 rfl) ?_
    refine z_get (ref := RX5) (C := RX5) (T := TX5) (N := 7) hx hb hts hin5 hown hG t5 rfl 6 (by decide) (by decide +kernel) rfl rfl dX5_record_17 ?_
    refine z_aaldS (j := 4) (v := ad (41 * (2 + π 4))) hx hb hG t8 ⟨by omega, by omega⟩ (rfl) dX5_record_20 ?_
    refine lv_aload_n hx hb dX5_record_21 rfl (lv_at hl 0 rfl) ?_
    refine z_get (ref := RX5) (C := RX5) (T := TX5) (N := 7) hx hb hts hin5 hown hG t5 rfl 0 (by decide) (by decide +kernel) rfl rfl dX5_record_22 ?_
    refine z_wrVN (As := [.ref (ad 0)]) (rest := []) (host := "CharmBracelets") (q := (RX3, TX3, 5)) S hG (c_X3_becomeLike E hinj (b := 41 * (2 + π 4)) (b2 := 0) (by have := hp.1 4 (by omega); omega) (by decide) (by omega)) 1 gX5_record_X3_becomeLike_n234 (List.mem_of_getElem? (i := 7) rfl) (by decide +kernel) rfl kX3_becomeLike.2 ⟨Nat.le_of_ble_eq_true rfl, Nat.le_of_ble_eq_true rfl⟩ ⟨Nat.zero_le _, Nat.zero_le _⟩ (⟨hhs 4 (by omega), hA⟩) rfl (hhs 4 (by omega)).1 rfl hl.1 rfl rfl (Nat.le_of_ble_eq_true rfl) dX5_record_25 hS (fun q ⟨o9, h9, e9⟩ => ⟨_, by have := hp.1 4 (by omega); omega, e9⟩) (fun Hn locs h_11 q_10 o_12 hS => ?_)
    have hz : Hn.size = H.size := q_10.trans hz
    have hX := zX_hs (j := 4) (by omega) hinj hp hX (fun q hq => o_12 q (fun ⟨o9, h9, e9⟩ => hq (41 * (2 + π 4) + o9) ⟨by omega, by omega⟩ e9)) h_11
    obtain ⟨hA, hsv, hhs, t5, t8, t9, t10, t11⟩ := id hX
    obtain ⟨h0, h1, h2, h3, h4, h5, h6, h7, hR⟩ := id hA
    refine lv_aload_n hx hb dX5_record_28 rfl (lv_at hl 0 rfl) ?_
    refine lv_dup hx hb dX5_record_29 rfl ?_
    refine z_get (ref := RX5) (C := RX5) (T := TX5) (N := 7) hx hb hts hin5 hown hG t5 rfl 6 (by decide) (by decide +kernel) rfl rfl dX5_record_30 ?_
    refine lv_iconst (v := nI (1)) hx hb dX5_record_33 (by decide) ?_
    refine z_iadd hx hb dX5_record_34 ?_
    refine z_put (ref := RX5) (C := RX5) (T := TX5) (N := 7) hx hb hts hin5 tyX5_ok nmX5 hown hG t5 rfl 6 (by decide) (by decide +kernel) rfl rfl rfl rfl (Nat.le_of_ble_eq_true rfl) hS (⟨287, by decide, rfl⟩) dX5_record_35 (fun Hn locs h_13 o_14 hS => ?_)
    have hX := zX_top hinj hp hX o_14.2 h_13
    have hz : Hn.size = H.size := o_14.1.trans hz
    exact hret _ _ _ _ hS (hz) dX5_record_38 (⟨π, hp, by rw [show zrC ct = 4 + 1 from if_neg (by omega)]; exact zX_hc hX (fun i hi => zrH_ge (by omega) e1 hi)⟩)

set_option maxHeartbeats 4000000 in
set_option maxRecDepth 100000 in
theorem c_X5_addFromBox_t0 (E : zEnv) {ad : Nat → Nat} {nw sv : zS} {an : Bool} {hs : Nat → zS} {ct ln : Nat} {cd : Nat → Int32} {π : Nat → Nat} {tn tt nb : Nat} {tf : Nat → Int32} (hok : zOk nw) (htn : tn ≤ 16) (hbx : zall (fun t => decide (nI (zcn tf (nI (t + 1)) tn) ≤ zBx nw (t + 1))) 5 = false) : zRO E yX5_addFromBox wsX5_addFromBox 5 145 [.ref (ad 287), .ref (ad 291)] (fun H => zCX E ad nw sv an hs ct ln cd π tn tt nb tf H) (some (.int (-3))) := by
  refine zRO.ofI (maxL := 3) rfl (Nat.le_of_ble_eq_true rfl) (fun p e s m args below meth c H Q hF hP hret ls hl => ?_)
  have S : CallFix p m c cX5_addFromBox 3 s args wsX5_addFromBox RX5 := hF.1
  have hG := hF.2
  obtain ⟨hx, hb, hml, hown, hts⟩ := id S
  have hX := hP
  obtain ⟨hA, hsv, hhs, t5, t8, t9, t10, t11⟩ := id hX
  obtain ⟨h0, h1, h2, h3, h4, h5, h6, h7, hR⟩ := id hA
  have h69 := zfd_le (zSz nw) 6
  have hl : lv_has ls 3 [(0, .ref (ad 287)), (1, .ref (ad 291))] := hl
  have hin3 : ∀ w ∈ u_ws RX3 TX3 5, w ∈ wsX5_addFromBox := by decide +kernel
  have hin5 : ∀ w ∈ u_ws RX5 TX5 7, w ∈ wsX5_addFromBox := by decide +kernel
  refine lv_aload_n hx hb dX5_addFromBox_0 rfl (lv_at hl 0 rfl) ?_
  refine z_get (ref := RX5) (C := RX5) (T := TX5) (N := 7) hx hb hts hin5 hown hG t5 rfl 0 (by decide) (by decide +kernel) rfl rfl dX5_addFromBox_1 ?_
  refine lv_aload_n hx hb dX5_addFromBox_4 rfl (lv_at hl 1 rfl) ?_
  refine z_roVN (As := [.ref (ad 291)]) (rest := []) (host := "CharmBracelets") (q := (RX3, TX3, 5)) S hG (c_X3_boxHasCharmsFor E (ad := ad) (b := 0) (v := nw) (a := ad 291) (k := ad 292) (n := tn) (f := tf) htn) 1 gX5_addFromBox_X3_boxHasCharmsFor_n244 (List.mem_of_getElem? (i := 13) rfl) (by decide +kernel) rfl kX3_boxHasCharmsFor.2 ⟨Nat.le_of_ble_eq_true rfl, Nat.le_of_ble_eq_true rfl⟩ ⟨Nat.zero_le _, Nat.zero_le _⟩ (⟨hA, t11⟩) rfl h0 rfl hl.1 rfl rfl (Nat.le_of_ble_eq_true rfl) dX5_addFromBox_5 ?_
  refine z_bne (tgt := 14) hx hb dX5_addFromBox_8 (by decide) (fun c_1 => by exfalso; rw [hbx] at c_1; cases c_1) (fun c_1 => ?_)
  refine lv_bipush (v := (-3)) hx hb dX5_addFromBox_11 (by decide) ?_
  exact hret _ _ _ dX5_addFromBox_13 (rfl)

set_option maxHeartbeats 4000000 in
set_option maxRecDepth 100000 in
theorem c_X5_addFromBox_t1 (E : zEnv) {ad : Nat → Nat} {nw sv : zS} {an : Bool} {hs : Nat → zS} {ct ln : Nat} {cd : Nat → Int32} {π : Nat → Nat} {tn tt nb : Nat} {tf : Nat → Int32} (hok : zOk nw) (htn : tn ≤ 16) (hbx : zall (fun t => decide (nI (zcn tf (nI (t + 1)) tn) ≤ zBx nw (t + 1))) 5 = true) (hfr : zfd (zSz nw) 6 = 6) : zRO E yX5_addFromBox wsX5_addFromBox 5 145 [.ref (ad 287), .ref (ad 291)] (fun H => zCX E ad nw sv an hs ct ln cd π tn tt nb tf H) (some (.int (-4))) := by
  refine zRO.ofI (maxL := 3) rfl (Nat.le_of_ble_eq_true rfl) (fun p e s m args below meth c H Q hF hP hret ls hl => ?_)
  have S : CallFix p m c cX5_addFromBox 3 s args wsX5_addFromBox RX5 := hF.1
  have hG := hF.2
  obtain ⟨hx, hb, hml, hown, hts⟩ := id S
  have hX := hP
  obtain ⟨hA, hsv, hhs, t5, t8, t9, t10, t11⟩ := id hX
  obtain ⟨h0, h1, h2, h3, h4, h5, h6, h7, hR⟩ := id hA
  have h69 := zfd_le (zSz nw) 6
  have hl : lv_has ls 3 [(0, .ref (ad 287)), (1, .ref (ad 291))] := hl
  have hin3 : ∀ w ∈ u_ws RX3 TX3 5, w ∈ wsX5_addFromBox := by decide +kernel
  have hin5 : ∀ w ∈ u_ws RX5 TX5 7, w ∈ wsX5_addFromBox := by decide +kernel
  refine lv_aload_n hx hb dX5_addFromBox_0 rfl (lv_at hl 0 rfl) ?_
  refine z_get (ref := RX5) (C := RX5) (T := TX5) (N := 7) hx hb hts hin5 hown hG t5 rfl 0 (by decide) (by decide +kernel) rfl rfl dX5_addFromBox_1 ?_
  refine lv_aload_n hx hb dX5_addFromBox_4 rfl (lv_at hl 1 rfl) ?_
  refine z_roVN (As := [.ref (ad 291)]) (rest := []) (host := "CharmBracelets") (q := (RX3, TX3, 5)) S hG (c_X3_boxHasCharmsFor E (ad := ad) (b := 0) (v := nw) (a := ad 291) (k := ad 292) (n := tn) (f := tf) htn) 1 gX5_addFromBox_X3_boxHasCharmsFor_n244 (List.mem_of_getElem? (i := 13) rfl) (by decide +kernel) rfl kX3_boxHasCharmsFor.2 ⟨Nat.le_of_ble_eq_true rfl, Nat.le_of_ble_eq_true rfl⟩ ⟨Nat.zero_le _, Nat.zero_le _⟩ (⟨hA, t11⟩) rfl h0 rfl hl.1 rfl rfl (Nat.le_of_ble_eq_true rfl) dX5_addFromBox_5 ?_
  refine z_bne (tgt := 14) hx hb dX5_addFromBox_8 (by decide) (fun c_1 => ?_) (fun c_1 => by exfalso; rw [hbx] at c_1; cases c_1)
  refine lv_aload_n hx hb dX5_addFromBox_14 rfl (lv_at hl 0 rfl) ?_
  refine z_get (ref := RX5) (C := RX5) (T := TX5) (N := 7) hx hb hts hin5 hown hG t5 rfl 0 (by decide) (by decide +kernel) rfl rfl dX5_addFromBox_15 ?_
  refine z_roVN (As := []) (rest := []) (host := "CharmBracelets") (q := (RX3, TX3, 5)) S hG (c_X3_freeNumber E hok.h16) 0 gX5_addFromBox_X3_freeNumber_n247 (List.mem_of_getElem? (i := 15) rfl) (by decide +kernel) rfl kX3_freeNumber.2 ⟨Nat.le_of_ble_eq_true rfl, Nat.le_of_ble_eq_true rfl⟩ ⟨Nat.zero_le _, Nat.zero_le _⟩ (hA) rfl h0 rfl hl.1 rfl rfl (Nat.le_of_ble_eq_true rfl) dX5_addFromBox_18 ?_
  refine lv_istore_n (lv' := [(2, .int (nI (zfd (zSz nw) 6))), (0, .ref (ad 287)), (1, .ref (ad 291))]) hx hb dX5_addFromBox_21 rfl hl (by decide) rfl (fun ls hl => ?_)
  refine lv_iload_n hx hb dX5_addFromBox_22 rfl (lv_at hl 0 rfl) ?_
  refine lv_bipush (v := nI (6)) hx hb dX5_addFromBox_23 (by decide) ?_
  refine z_clt (tgt := 31) hx hb dX5_addFromBox_25 (by decide) ⟨by omega, by omega⟩ (fun c_2 => by exfalso; omega) (fun c_2 => ?_)
  refine lv_bipush (v := (-4)) hx hb dX5_addFromBox_28 (by decide) ?_
  exact hret _ _ _ dX5_addFromBox_30 (rfl)

set_option maxHeartbeats 4000000 in
set_option maxRecDepth 100000 in
theorem c_X5_addFromBox_t2 (E : zEnv) {ad : Nat → Nat} {nw sv : zS} {an : Bool} {hs : Nat → zS} {ct ln : Nat} {cd : Nat → Int32} {π : Nat → Nat} {tn tt nb : Nat} {tf : Nat → Int32} (hinj : zInj ad) (hp : zPi π) (hct : ct ≤ 5) (hok : zOk nw) (htn : tn ≤ 16) (hbx : zall (fun t => decide (nI (zcn tf (nI (t + 1)) tn) ≤ zBx nw (t + 1))) 5 = true) (hfr : zfd (zSz nw) 6 < 6) : zWR E yX5_addFromBox wsX5_addFromBox 5 145 [.ref (ad 287), .ref (ad 291)] (fun H => zCX E ad nw sv an hs ct ln cd π tn tt nb tf H) (some (.int (nI (zfd (zSz nw) 6)))) (fun H => ∃ π : Nat → Nat, zPi π ∧ zCX E ad (zsRg (zsBx nw (zto (zBx nw) (fun t => zcn tf (nI t) tn) 5)) (zfd (zSz nw) 6) (tn) (tf)) sv an (zrH hs ct nw) (zrC ct) ln cd π tn tt nb tf H) (zAC ad) := by
  refine zWR.ofI (maxL := 3) rfl (Nat.le_of_ble_eq_true rfl) (fun p e s m args below meth c H Q hF hP hret ls hl => ?_)
  have S : CallFix p m c cX5_addFromBox 3 s args wsX5_addFromBox RX5 := hF.1
  have hG := hF.2
  obtain ⟨hx, hb, hml, hown, hts⟩ := id S
  have hS : va_S (zAC ad) H H [] := va_S.rf
  obtain ⟨locs, hlocs⟩ : ∃ x : List Loc, x = [] := ⟨_, rfl⟩
  rw [← hlocs] at hS ⊢
  have hz : H.size = H.size := rfl
  have hX := hP
  obtain ⟨hA, hsv, hhs, t5, t8, t9, t10, t11⟩ := id hX
  obtain ⟨h0, h1, h2, h3, h4, h5, h6, h7, hR⟩ := id hA
  have h69 := zfd_le (zSz nw) 6
  have hl : lv_has ls 3 [(0, .ref (ad 287)), (1, .ref (ad 291))] := hl
  have hin3 : ∀ w ∈ u_ws RX3 TX3 5, w ∈ wsX5_addFromBox := by decide +kernel
  have hin5 : ∀ w ∈ u_ws RX5 TX5 7, w ∈ wsX5_addFromBox := by decide +kernel
  refine lv_aload_n hx hb dX5_addFromBox_0 rfl (lv_at hl 0 rfl) ?_
  refine z_get (ref := RX5) (C := RX5) (T := TX5) (N := 7) hx hb hts hin5 hown hG t5 rfl 0 (by decide) (by decide +kernel) rfl rfl dX5_addFromBox_1 ?_
  refine lv_aload_n hx hb dX5_addFromBox_4 rfl (lv_at hl 1 rfl) ?_
  refine z_roVN (As := [.ref (ad 291)]) (rest := []) (host := "CharmBracelets") (q := (RX3, TX3, 5)) S hG (c_X3_boxHasCharmsFor E (ad := ad) (b := 0) (v := nw) (a := ad 291) (k := ad 292) (n := tn) (f := tf) htn) 1 gX5_addFromBox_X3_boxHasCharmsFor_n244 (List.mem_of_getElem? (i := 13) rfl) (by decide +kernel) rfl kX3_boxHasCharmsFor.2 ⟨Nat.le_of_ble_eq_true rfl, Nat.le_of_ble_eq_true rfl⟩ ⟨Nat.zero_le _, Nat.zero_le _⟩ (⟨hA, t11⟩) rfl h0 rfl hl.1 rfl rfl (Nat.le_of_ble_eq_true rfl) dX5_addFromBox_5 ?_
  refine z_bne (tgt := 14) hx hb dX5_addFromBox_8 (by decide) (fun c_1 => ?_) (fun c_1 => by exfalso; rw [hbx] at c_1; cases c_1)
  refine lv_aload_n hx hb dX5_addFromBox_14 rfl (lv_at hl 0 rfl) ?_
  refine z_get (ref := RX5) (C := RX5) (T := TX5) (N := 7) hx hb hts hin5 hown hG t5 rfl 0 (by decide) (by decide +kernel) rfl rfl dX5_addFromBox_15 ?_
  refine z_roVN (As := []) (rest := []) (host := "CharmBracelets") (q := (RX3, TX3, 5)) S hG (c_X3_freeNumber E hok.h16) 0 gX5_addFromBox_X3_freeNumber_n247 (List.mem_of_getElem? (i := 15) rfl) (by decide +kernel) rfl kX3_freeNumber.2 ⟨Nat.le_of_ble_eq_true rfl, Nat.le_of_ble_eq_true rfl⟩ ⟨Nat.zero_le _, Nat.zero_le _⟩ (hA) rfl h0 rfl hl.1 rfl rfl (Nat.le_of_ble_eq_true rfl) dX5_addFromBox_18 ?_
  refine lv_istore_n (lv' := [(2, .int (nI (zfd (zSz nw) 6))), (0, .ref (ad 287)), (1, .ref (ad 291))]) hx hb dX5_addFromBox_21 rfl hl (by decide) rfl (fun ls hl => ?_)
  refine lv_iload_n hx hb dX5_addFromBox_22 rfl (lv_at hl 0 rfl) ?_
  refine lv_bipush (v := nI (6)) hx hb dX5_addFromBox_23 (by decide) ?_
  refine z_clt (tgt := 31) hx hb dX5_addFromBox_25 (by decide) ⟨by omega, by omega⟩ (fun c_2 => ?_) (fun c_2 => by exfalso; omega)
  refine lv_aload_n hx hb dX5_addFromBox_31 rfl (lv_at hl 1 rfl) ?_
  refine z_wrV (As := []) (rest := []) (q := (RX5, TX5, 7)) S hG (c_X5_record E hinj hp hct) 0 gX5_addFromBox_X5_record rfl kX5_record ⟨Nat.le_of_ble_eq_true rfl, Nat.le_of_ble_eq_true rfl⟩ ⟨Nat.zero_le _, Nat.zero_le _⟩ (hX) rfl t5 rfl hl.1 rfl rfl (Nat.le_of_ble_eq_true rfl) dX5_addFromBox_32 hS (fun _ h => h) (fun Hn locs h_4 q_3 o_5 hS => ?_)
  have hz : Hn.size = H.size := q_3.trans hz
  obtain ⟨π, hp, hX⟩ := h_4
  obtain ⟨hA, hsv, hhs, t5, t8, t9, t10, t11⟩ := id hX
  obtain ⟨h0, h1, h2, h3, h4, h5, h6, h7, hR⟩ := id hA
  refine lv_aload_n hx hb dX5_addFromBox_35 rfl (lv_at hl 1 rfl) ?_
  refine z_get (ref := RX5) (C := RX5) (T := TX5) (N := 7) hx hb hts hin5 hown hG t5 rfl 0 (by decide) (by decide +kernel) rfl rfl dX5_addFromBox_36 ?_
  refine lv_aload_n hx hb dX5_addFromBox_39 rfl (lv_at hl 2 rfl) ?_
  refine z_wrVN (As := [.ref (ad 291)]) (rest := []) (host := "CharmBracelets") (q := (RX3, TX3, 5)) S hG (c_X3_takeOut E (ad := ad) (b := 0) (v := nw) (a := ad 291) (k := ad 292) (n := tn) (f := tf) hinj (by decide) ⟨hinj.ne (by omega) (by omega) (by omega), hinj.ne (by omega) (by omega) (by omega)⟩ htn) 1 gX5_addFromBox_X3_takeOut_n250 (List.mem_of_getElem? (i := 16) rfl) (by decide +kernel) rfl kX3_takeOut.2 ⟨Nat.le_of_ble_eq_true rfl, Nat.le_of_ble_eq_true rfl⟩ ⟨Nat.zero_le _, Nat.zero_le _⟩ (⟨hA, t11⟩) rfl h0 rfl hl.1 rfl rfl (Nat.le_of_ble_eq_true rfl) dX5_addFromBox_40 hS (fun q h => ⟨0 + 1, by decide, h⟩) (fun Hn locs h_7 q_6 o_8 hS => ?_)
  have hz : Hn.size = H.size := q_6.trans hz
  have hX := zX_now hinj hp hX (fun q hq => o_8 q (hq (0 + 1) (by decide))) h_7
  obtain ⟨hA, hsv, hhs, t5, t8, t9, t10, t11⟩ := id hX
  obtain ⟨h0, h1, h2, h3, h4, h5, h6, h7, hR⟩ := id hA
  refine lv_aload_n hx hb dX5_addFromBox_43 rfl (lv_at hl 1 rfl) ?_
  refine z_get (ref := RX5) (C := RX5) (T := TX5) (N := 7) hx hb hts hin5 hown hG t5 rfl 0 (by decide) (by decide +kernel) rfl rfl dX5_addFromBox_44 ?_
  refine z_getN (own := RX5) (ref := RX3) (host := "CharmBracelets") (C := RX3) (T := TX3) (N := 5) hx hb hts hin3 hown hG h0 rfl 2 (by decide) (List.mem_of_getElem? (i := 10) rfl) rfl rfl dX5_addFromBox_47 ?_
  refine lv_iload_n hx hb dX5_addFromBox_50 rfl (lv_at hl 0 rfl) ?_
  refine z_aaldR (j := zfd (zSz nw) 6) (v := ad (0 + 9 + 2 * (zfd (zSz nw) 6))) hx hb hG h3 ⟨by omega, by omega⟩ (rfl) dX5_addFromBox_51 ?_
  refine lv_aload_n hx hb dX5_addFromBox_52 rfl (lv_at hl 2 rfl) ?_
  refine z_wrVN (As := [.ref (ad 291)]) (rest := []) (host := "CharmBracelets") (q := (RX2, TX2, 2)) S hG (c_X2_becomeLike E (a := ad (0 + 9 + 2 * (zfd (zSz nw) 6))) (k := ad (0 + 10 + 2 * (zfd (zSz nw) 6))) (b := ad 291) (kb := ad 292) (n2 := tn) (g := tf) (hinj.ne (by omega) (by omega) (by omega)) ⟨hinj.ne (by omega) (by omega) (by omega), hinj.ne (by omega) (by omega) (by omega), hinj.ne (by omega) (by omega) (by omega), hinj.ne (by omega) (by omega) (by omega)⟩) 1 gX5_addFromBox_X2_becomeLike_n215 (List.mem_of_getElem? (i := 17) rfl) (by decide +kernel) rfl kX2_becomeLike.2 ⟨Nat.le_of_ble_eq_true rfl, Nat.le_of_ble_eq_true rfl⟩ ⟨Nat.zero_le _, Nat.zero_le _⟩ (⟨hR (zfd (zSz nw) 6) (by omega), t11⟩) rfl (hR (zfd (zSz nw) 6) (by omega)).1 rfl hl.1 rfl rfl (Nat.le_of_ble_eq_true rfl) dX5_addFromBox_53 hS (fun q h => h.elim (fun e => ⟨_, by omega, e⟩) (fun e => ⟨_, by omega, e⟩)) (fun Hn locs h_10 q_9 o_11 hS => ?_)
  have hz : Hn.size = H.size := q_9.trans hz
  have hA1 := zSt_rg hA hinj (by decide) (r := zfd (zSz nw) 6) (by omega) o_11 h_10
  have hX := zX_now hinj hp hX (fun q hq => o_11 q (fun z => z.elim (hq (0 + 9 + 2 * (zfd (zSz nw) 6)) (by omega)) (hq (0 + 10 + 2 * (zfd (zSz nw) 6)) (by omega)))) hA1
  refine lv_iload_n hx hb dX5_addFromBox_56 rfl (lv_at hl 0 rfl) ?_
  exact hret _ _ _ _ _ hS (hz) dX5_addFromBox_57 (rfl) (⟨π, hp, hX⟩)

set_option maxHeartbeats 4000000 in
set_option maxRecDepth 100000 in
theorem c_X5_addFromBox_r0 (E : zEnv) {ad : Nat → Nat} {nw sv : zS} {an : Bool} {hs : Nat → zS} {ct ln : Nat} {cd : Nat → Int32} {π : Nat → Nat} {tn tt nb : Nat} {tf : Nat → Int32} {r : Nat} (hok : zOk nw) (hr : r < 6) (hr0 : zSz nw r ≠ 0) (hbx : zall (fun t => decide (nI (zcn (zKd nw r) (nI (t + 1)) (zSz nw r)) ≤ zBx nw (t + 1))) 5 = false) : zRO E yX5_addFromBox wsX5_addFromBox 5 145 [.ref (ad 287), .ref (ad (0 + 9 + 2 * r))] (fun H => zCX E ad nw sv an hs ct ln cd π tn tt nb tf H) (some (.int (-3))) := by
  refine zRO.ofI (maxL := 3) rfl (Nat.le_of_ble_eq_true rfl) (fun p e s m args below meth c H Q hF hP hret ls hl => ?_)
  have S : CallFix p m c cX5_addFromBox 3 s args wsX5_addFromBox RX5 := hF.1
  have hG := hF.2
  obtain ⟨hx, hb, hml, hown, hts⟩ := id S
  have hX := hP
  obtain ⟨hA, hsv, hhs, t5, t8, t9, t10, t11⟩ := id hX
  obtain ⟨h0, h1, h2, h3, h4, h5, h6, h7, hR⟩ := id hA
  have h69 := zfd_le (zSz nw) 6
  have hl : lv_has ls 3 [(0, .ref (ad 287)), (1, .ref (ad (0 + 9 + 2 * r)))] := hl
  have hin3 : ∀ w ∈ u_ws RX3 TX3 5, w ∈ wsX5_addFromBox := by decide +kernel
  have hin5 : ∀ w ∈ u_ws RX5 TX5 7, w ∈ wsX5_addFromBox := by decide +kernel
  refine lv_aload_n hx hb dX5_addFromBox_0 rfl (lv_at hl 0 rfl) ?_
  refine z_get (ref := RX5) (C := RX5) (T := TX5) (N := 7) hx hb hts hin5 hown hG t5 rfl 0 (by decide) (by decide +kernel) rfl rfl dX5_addFromBox_1 ?_
  refine lv_aload_n hx hb dX5_addFromBox_4 rfl (lv_at hl 1 rfl) ?_
  refine z_roVN (As := [.ref (ad (0 + 9 + 2 * r))]) (rest := []) (host := "CharmBracelets") (q := (RX3, TX3, 5)) S hG (c_X3_boxHasCharmsFor E (ad := ad) (b := 0) (v := nw) (a := ad (0 + 9 + 2 * r)) (k := ad (0 + 10 + 2 * r)) (n := zSz nw r) (f := zKd nw r) (hok.h16 r (by omega))) 1 gX5_addFromBox_X3_boxHasCharmsFor_n244 (List.mem_of_getElem? (i := 13) rfl) (by decide +kernel) rfl kX3_boxHasCharmsFor.2 ⟨Nat.le_of_ble_eq_true rfl, Nat.le_of_ble_eq_true rfl⟩ ⟨Nat.zero_le _, Nat.zero_le _⟩ (⟨hA, (hR r (by omega))⟩) rfl h0 rfl hl.1 rfl rfl (Nat.le_of_ble_eq_true rfl) dX5_addFromBox_5 ?_
  refine z_bne (tgt := 14) hx hb dX5_addFromBox_8 (by decide) (fun c_1 => by exfalso; rw [hbx] at c_1; cases c_1) (fun c_1 => ?_)
  refine lv_bipush (v := (-3)) hx hb dX5_addFromBox_11 (by decide) ?_
  exact hret _ _ _ dX5_addFromBox_13 (rfl)

set_option maxHeartbeats 4000000 in
set_option maxRecDepth 100000 in
theorem c_X5_addFromBox_r1 (E : zEnv) {ad : Nat → Nat} {nw sv : zS} {an : Bool} {hs : Nat → zS} {ct ln : Nat} {cd : Nat → Int32} {π : Nat → Nat} {tn tt nb : Nat} {tf : Nat → Int32} {r : Nat} (hok : zOk nw) (hr : r < 6) (hr0 : zSz nw r ≠ 0) (hbx : zall (fun t => decide (nI (zcn (zKd nw r) (nI (t + 1)) (zSz nw r)) ≤ zBx nw (t + 1))) 5 = true) (hfr : zfd (zSz nw) 6 = 6) : zRO E yX5_addFromBox wsX5_addFromBox 5 145 [.ref (ad 287), .ref (ad (0 + 9 + 2 * r))] (fun H => zCX E ad nw sv an hs ct ln cd π tn tt nb tf H) (some (.int (-4))) := by
  refine zRO.ofI (maxL := 3) rfl (Nat.le_of_ble_eq_true rfl) (fun p e s m args below meth c H Q hF hP hret ls hl => ?_)
  have S : CallFix p m c cX5_addFromBox 3 s args wsX5_addFromBox RX5 := hF.1
  have hG := hF.2
  obtain ⟨hx, hb, hml, hown, hts⟩ := id S
  have hX := hP
  obtain ⟨hA, hsv, hhs, t5, t8, t9, t10, t11⟩ := id hX
  obtain ⟨h0, h1, h2, h3, h4, h5, h6, h7, hR⟩ := id hA
  have h69 := zfd_le (zSz nw) 6
  have hl : lv_has ls 3 [(0, .ref (ad 287)), (1, .ref (ad (0 + 9 + 2 * r)))] := hl
  have hin3 : ∀ w ∈ u_ws RX3 TX3 5, w ∈ wsX5_addFromBox := by decide +kernel
  have hin5 : ∀ w ∈ u_ws RX5 TX5 7, w ∈ wsX5_addFromBox := by decide +kernel
  refine lv_aload_n hx hb dX5_addFromBox_0 rfl (lv_at hl 0 rfl) ?_
  refine z_get (ref := RX5) (C := RX5) (T := TX5) (N := 7) hx hb hts hin5 hown hG t5 rfl 0 (by decide) (by decide +kernel) rfl rfl dX5_addFromBox_1 ?_
  refine lv_aload_n hx hb dX5_addFromBox_4 rfl (lv_at hl 1 rfl) ?_
  refine z_roVN (As := [.ref (ad (0 + 9 + 2 * r))]) (rest := []) (host := "CharmBracelets") (q := (RX3, TX3, 5)) S hG (c_X3_boxHasCharmsFor E (ad := ad) (b := 0) (v := nw) (a := ad (0 + 9 + 2 * r)) (k := ad (0 + 10 + 2 * r)) (n := zSz nw r) (f := zKd nw r) (hok.h16 r (by omega))) 1 gX5_addFromBox_X3_boxHasCharmsFor_n244 (List.mem_of_getElem? (i := 13) rfl) (by decide +kernel) rfl kX3_boxHasCharmsFor.2 ⟨Nat.le_of_ble_eq_true rfl, Nat.le_of_ble_eq_true rfl⟩ ⟨Nat.zero_le _, Nat.zero_le _⟩ (⟨hA, (hR r (by omega))⟩) rfl h0 rfl hl.1 rfl rfl (Nat.le_of_ble_eq_true rfl) dX5_addFromBox_5 ?_
  refine z_bne (tgt := 14) hx hb dX5_addFromBox_8 (by decide) (fun c_1 => ?_) (fun c_1 => by exfalso; rw [hbx] at c_1; cases c_1)
  refine lv_aload_n hx hb dX5_addFromBox_14 rfl (lv_at hl 0 rfl) ?_
  refine z_get (ref := RX5) (C := RX5) (T := TX5) (N := 7) hx hb hts hin5 hown hG t5 rfl 0 (by decide) (by decide +kernel) rfl rfl dX5_addFromBox_15 ?_
  refine z_roVN (As := []) (rest := []) (host := "CharmBracelets") (q := (RX3, TX3, 5)) S hG (c_X3_freeNumber E hok.h16) 0 gX5_addFromBox_X3_freeNumber_n247 (List.mem_of_getElem? (i := 15) rfl) (by decide +kernel) rfl kX3_freeNumber.2 ⟨Nat.le_of_ble_eq_true rfl, Nat.le_of_ble_eq_true rfl⟩ ⟨Nat.zero_le _, Nat.zero_le _⟩ (hA) rfl h0 rfl hl.1 rfl rfl (Nat.le_of_ble_eq_true rfl) dX5_addFromBox_18 ?_
  refine lv_istore_n (lv' := [(2, .int (nI (zfd (zSz nw) 6))), (0, .ref (ad 287)), (1, .ref (ad (0 + 9 + 2 * r)))]) hx hb dX5_addFromBox_21 rfl hl (by decide) rfl (fun ls hl => ?_)
  refine lv_iload_n hx hb dX5_addFromBox_22 rfl (lv_at hl 0 rfl) ?_
  refine lv_bipush (v := nI (6)) hx hb dX5_addFromBox_23 (by decide) ?_
  refine z_clt (tgt := 31) hx hb dX5_addFromBox_25 (by decide) ⟨by omega, by omega⟩ (fun c_2 => by exfalso; omega) (fun c_2 => ?_)
  refine lv_bipush (v := (-4)) hx hb dX5_addFromBox_28 (by decide) ?_
  exact hret _ _ _ dX5_addFromBox_30 (rfl)

set_option maxHeartbeats 4000000 in
set_option maxRecDepth 100000 in
theorem c_X5_addFromBox_r2 (E : zEnv) {ad : Nat → Nat} {nw sv : zS} {an : Bool} {hs : Nat → zS} {ct ln : Nat} {cd : Nat → Int32} {π : Nat → Nat} {tn tt nb : Nat} {tf : Nat → Int32} {r : Nat} (hinj : zInj ad) (hp : zPi π) (hct : ct ≤ 5) (hok : zOk nw) (hr : r < 6) (hr0 : zSz nw r ≠ 0) (hbx : zall (fun t => decide (nI (zcn (zKd nw r) (nI (t + 1)) (zSz nw r)) ≤ zBx nw (t + 1))) 5 = true) (hfr : zfd (zSz nw) 6 < 6) : zWR E yX5_addFromBox wsX5_addFromBox 5 145 [.ref (ad 287), .ref (ad (0 + 9 + 2 * r))] (fun H => zCX E ad nw sv an hs ct ln cd π tn tt nb tf H) (some (.int (nI (zfd (zSz nw) 6)))) (fun H => ∃ π : Nat → Nat, zPi π ∧ zCX E ad (zsRg (zsBx nw (zto (zBx nw) (fun t => zcn (zKd nw r) (nI t) (zSz nw r)) 5)) (zfd (zSz nw) 6) (zSz nw r) (zKd nw r)) sv an (zrH hs ct nw) (zrC ct) ln cd π tn tt nb tf H) (zAC ad) := by
  refine zWR.ofI (maxL := 3) rfl (Nat.le_of_ble_eq_true rfl) (fun p e s m args below meth c H Q hF hP hret ls hl => ?_)
  have S : CallFix p m c cX5_addFromBox 3 s args wsX5_addFromBox RX5 := hF.1
  have hG := hF.2
  obtain ⟨hx, hb, hml, hown, hts⟩ := id S
  have hS : va_S (zAC ad) H H [] := va_S.rf
  obtain ⟨locs, hlocs⟩ : ∃ x : List Loc, x = [] := ⟨_, rfl⟩
  rw [← hlocs] at hS ⊢
  have hz : H.size = H.size := rfl
  have hX := hP
  obtain ⟨hA, hsv, hhs, t5, t8, t9, t10, t11⟩ := id hX
  obtain ⟨h0, h1, h2, h3, h4, h5, h6, h7, hR⟩ := id hA
  have h69 := zfd_le (zSz nw) 6
  have hri : r ≠ zfd (zSz nw) 6 := fun w => hr0 (by rw [w]; exact zfd_0 rfl hfr)
  have hl : lv_has ls 3 [(0, .ref (ad 287)), (1, .ref (ad (0 + 9 + 2 * r)))] := hl
  have hin3 : ∀ w ∈ u_ws RX3 TX3 5, w ∈ wsX5_addFromBox := by decide +kernel
  have hin5 : ∀ w ∈ u_ws RX5 TX5 7, w ∈ wsX5_addFromBox := by decide +kernel
  refine lv_aload_n hx hb dX5_addFromBox_0 rfl (lv_at hl 0 rfl) ?_
  refine z_get (ref := RX5) (C := RX5) (T := TX5) (N := 7) hx hb hts hin5 hown hG t5 rfl 0 (by decide) (by decide +kernel) rfl rfl dX5_addFromBox_1 ?_
  refine lv_aload_n hx hb dX5_addFromBox_4 rfl (lv_at hl 1 rfl) ?_
  refine z_roVN (As := [.ref (ad (0 + 9 + 2 * r))]) (rest := []) (host := "CharmBracelets") (q := (RX3, TX3, 5)) S hG (c_X3_boxHasCharmsFor E (ad := ad) (b := 0) (v := nw) (a := ad (0 + 9 + 2 * r)) (k := ad (0 + 10 + 2 * r)) (n := zSz nw r) (f := zKd nw r) (hok.h16 r (by omega))) 1 gX5_addFromBox_X3_boxHasCharmsFor_n244 (List.mem_of_getElem? (i := 13) rfl) (by decide +kernel) rfl kX3_boxHasCharmsFor.2 ⟨Nat.le_of_ble_eq_true rfl, Nat.le_of_ble_eq_true rfl⟩ ⟨Nat.zero_le _, Nat.zero_le _⟩ (⟨hA, (hR r (by omega))⟩) rfl h0 rfl hl.1 rfl rfl (Nat.le_of_ble_eq_true rfl) dX5_addFromBox_5 ?_
  refine z_bne (tgt := 14) hx hb dX5_addFromBox_8 (by decide) (fun c_1 => ?_) (fun c_1 => by exfalso; rw [hbx] at c_1; cases c_1)
  refine lv_aload_n hx hb dX5_addFromBox_14 rfl (lv_at hl 0 rfl) ?_
  refine z_get (ref := RX5) (C := RX5) (T := TX5) (N := 7) hx hb hts hin5 hown hG t5 rfl 0 (by decide) (by decide +kernel) rfl rfl dX5_addFromBox_15 ?_
  refine z_roVN (As := []) (rest := []) (host := "CharmBracelets") (q := (RX3, TX3, 5)) S hG (c_X3_freeNumber E hok.h16) 0 gX5_addFromBox_X3_freeNumber_n247 (List.mem_of_getElem? (i := 15) rfl) (by decide +kernel) rfl kX3_freeNumber.2 ⟨Nat.le_of_ble_eq_true rfl, Nat.le_of_ble_eq_true rfl⟩ ⟨Nat.zero_le _, Nat.zero_le _⟩ (hA) rfl h0 rfl hl.1 rfl rfl (Nat.le_of_ble_eq_true rfl) dX5_addFromBox_18 ?_
  refine lv_istore_n (lv' := [(2, .int (nI (zfd (zSz nw) 6))), (0, .ref (ad 287)), (1, .ref (ad (0 + 9 + 2 * r)))]) hx hb dX5_addFromBox_21 rfl hl (by decide) rfl (fun ls hl => ?_)
  refine lv_iload_n hx hb dX5_addFromBox_22 rfl (lv_at hl 0 rfl) ?_
  refine lv_bipush (v := nI (6)) hx hb dX5_addFromBox_23 (by decide) ?_
  refine z_clt (tgt := 31) hx hb dX5_addFromBox_25 (by decide) ⟨by omega, by omega⟩ (fun c_2 => ?_) (fun c_2 => by exfalso; omega)
  refine lv_aload_n hx hb dX5_addFromBox_31 rfl (lv_at hl 1 rfl) ?_
  refine z_wrV (As := []) (rest := []) (q := (RX5, TX5, 7)) S hG (c_X5_record E hinj hp hct) 0 gX5_addFromBox_X5_record rfl kX5_record ⟨Nat.le_of_ble_eq_true rfl, Nat.le_of_ble_eq_true rfl⟩ ⟨Nat.zero_le _, Nat.zero_le _⟩ (hX) rfl t5 rfl hl.1 rfl rfl (Nat.le_of_ble_eq_true rfl) dX5_addFromBox_32 hS (fun _ h => h) (fun Hn locs h_4 q_3 o_5 hS => ?_)
  have hz : Hn.size = H.size := q_3.trans hz
  obtain ⟨π, hp, hX⟩ := h_4
  obtain ⟨hA, hsv, hhs, t5, t8, t9, t10, t11⟩ := id hX
  obtain ⟨h0, h1, h2, h3, h4, h5, h6, h7, hR⟩ := id hA
  refine lv_aload_n hx hb dX5_addFromBox_35 rfl (lv_at hl 1 rfl) ?_
  refine z_get (ref := RX5) (C := RX5) (T := TX5) (N := 7) hx hb hts hin5 hown hG t5 rfl 0 (by decide) (by decide +kernel) rfl rfl dX5_addFromBox_36 ?_
  refine lv_aload_n hx hb dX5_addFromBox_39 rfl (lv_at hl 2 rfl) ?_
  refine z_wrVN (As := [.ref (ad (0 + 9 + 2 * r))]) (rest := []) (host := "CharmBracelets") (q := (RX3, TX3, 5)) S hG (c_X3_takeOut E (ad := ad) (b := 0) (v := nw) (a := ad (0 + 9 + 2 * r)) (k := ad (0 + 10 + 2 * r)) (n := zSz nw r) (f := zKd nw r) hinj (by decide) ⟨hinj.ne (by omega) (by omega) (by omega), hinj.ne (by omega) (by omega) (by omega)⟩ (hok.h16 r (by omega))) 1 gX5_addFromBox_X3_takeOut_n250 (List.mem_of_getElem? (i := 16) rfl) (by decide +kernel) rfl kX3_takeOut.2 ⟨Nat.le_of_ble_eq_true rfl, Nat.le_of_ble_eq_true rfl⟩ ⟨Nat.zero_le _, Nat.zero_le _⟩ (⟨hA, (hR r (by omega))⟩) rfl h0 rfl hl.1 rfl rfl (Nat.le_of_ble_eq_true rfl) dX5_addFromBox_40 hS (fun q h => ⟨0 + 1, by decide, h⟩) (fun Hn locs h_7 q_6 o_8 hS => ?_)
  have hz : Hn.size = H.size := q_6.trans hz
  have hX := zX_now hinj hp hX (fun q hq => o_8 q (hq (0 + 1) (by decide))) h_7
  obtain ⟨hA, hsv, hhs, t5, t8, t9, t10, t11⟩ := id hX
  obtain ⟨h0, h1, h2, h3, h4, h5, h6, h7, hR⟩ := id hA
  refine lv_aload_n hx hb dX5_addFromBox_43 rfl (lv_at hl 1 rfl) ?_
  refine z_get (ref := RX5) (C := RX5) (T := TX5) (N := 7) hx hb hts hin5 hown hG t5 rfl 0 (by decide) (by decide +kernel) rfl rfl dX5_addFromBox_44 ?_
  refine z_getN (own := RX5) (ref := RX3) (host := "CharmBracelets") (C := RX3) (T := TX3) (N := 5) hx hb hts hin3 hown hG h0 rfl 2 (by decide) (List.mem_of_getElem? (i := 10) rfl) rfl rfl dX5_addFromBox_47 ?_
  refine lv_iload_n hx hb dX5_addFromBox_50 rfl (lv_at hl 0 rfl) ?_
  refine z_aaldR (j := zfd (zSz nw) 6) (v := ad (0 + 9 + 2 * (zfd (zSz nw) 6))) hx hb hG h3 ⟨by omega, by omega⟩ (rfl) dX5_addFromBox_51 ?_
  refine lv_aload_n hx hb dX5_addFromBox_52 rfl (lv_at hl 2 rfl) ?_
  refine z_wrVN (As := [.ref (ad (0 + 9 + 2 * r))]) (rest := []) (host := "CharmBracelets") (q := (RX2, TX2, 2)) S hG (c_X2_becomeLike E (a := ad (0 + 9 + 2 * (zfd (zSz nw) 6))) (k := ad (0 + 10 + 2 * (zfd (zSz nw) 6))) (b := ad (0 + 9 + 2 * r)) (kb := ad (0 + 10 + 2 * r)) (n2 := zSz nw r) (g := zKd nw r) (hinj.ne (by omega) (by omega) (by omega)) ⟨hinj.ne (by omega) (by omega) (by omega), hinj.ne (by omega) (by omega) (by omega), hinj.ne (by omega) (by omega) (by omega), hinj.ne (by omega) (by omega) (by omega)⟩) 1 gX5_addFromBox_X2_becomeLike_n215 (List.mem_of_getElem? (i := 17) rfl) (by decide +kernel) rfl kX2_becomeLike.2 ⟨Nat.le_of_ble_eq_true rfl, Nat.le_of_ble_eq_true rfl⟩ ⟨Nat.zero_le _, Nat.zero_le _⟩ (⟨hR (zfd (zSz nw) 6) (by omega), (hR r (by omega))⟩) rfl (hR (zfd (zSz nw) 6) (by omega)).1 rfl hl.1 rfl rfl (Nat.le_of_ble_eq_true rfl) dX5_addFromBox_53 hS (fun q h => h.elim (fun e => ⟨_, by omega, e⟩) (fun e => ⟨_, by omega, e⟩)) (fun Hn locs h_10 q_9 o_11 hS => ?_)
  have hz : Hn.size = H.size := q_9.trans hz
  have hA1 := zSt_rg hA hinj (by decide) (r := zfd (zSz nw) 6) (by omega) o_11 h_10
  have hX := zX_now hinj hp hX (fun q hq => o_11 q (fun z => z.elim (hq (0 + 9 + 2 * (zfd (zSz nw) 6)) (by omega)) (hq (0 + 10 + 2 * (zfd (zSz nw) 6)) (by omega)))) hA1
  refine lv_iload_n hx hb dX5_addFromBox_56 rfl (lv_at hl 0 rfl) ?_
  exact hret _ _ _ _ _ hS (hz) dX5_addFromBox_57 (rfl) (⟨π, hp, hX⟩)

set_option maxHeartbeats 4000000 in
set_option maxRecDepth 100000 in
theorem c_X5_change (E : zEnv) {ad : Nat → Nat} {nw sv : zS} {an : Bool} {hs : Nat → zS} {ct ln : Nat} {cd : Nat → Int32} {π : Nat → Nat} {tn tt nb : Nat} {tf : Nat → Int32} {r ch : Nat} (hinj : zInj ad) (hp : zPi π) (hct : ct ≤ 5) (hok : zOk nw) (hr : r < 6) (hr0 : zSz nw r ≠ 0) (hch : ch < 2 * zSz nw r) : zWR E yX5_change wsX5_change 5 145 [.ref (ad 287), .ref (ad (0 + 9 + 2 * r)), .int (nI (ch))] (fun H => zCX E ad nw sv an hs ct ln cd π tn tt nb tf H) (some (.int (nI (zdf (zSz nw r) (zKd nw r) ch (zKd nw r))))) (fun H => ∃ (π : Nat → Nat) (tn : Nat) (tf : Nat → Int32), zPi π ∧ zCX E ad (zsRg nw r (zSz nw r) (zpm (zimg (zSz nw r) (zKd nw r) ch) (zKd nw r) (zSz nw r))) sv an (zrH hs ct nw) (zrC ct) ln cd π tn tt nb tf H) (zAC ad) := by
  refine zWR.ofI (maxL := 5) rfl (Nat.le_of_ble_eq_true rfl) (fun p e s m args below meth c H Q hF hP hret ls hl => ?_)
  have S : CallFix p m c cX5_change 5 s args wsX5_change RX5 := hF.1
  have hG := hF.2
  obtain ⟨hx, hb, hml, hown, hts⟩ := id S
  have hS : va_S (zAC ad) H H [] := va_S.rf
  obtain ⟨locs, hlocs⟩ : ∃ x : List Loc, x = [] := ⟨_, rfl⟩
  rw [← hlocs] at hS ⊢
  have hz : H.size = H.size := rfl
  have hX := hP
  obtain ⟨hA, hsv, hhs, t5, t8, t9, t10, t11⟩ := id hX
  obtain ⟨h0, h1, h2, h3, h4, h5, h6, h7, hR⟩ := id hA
  have hn := hok.sz hr hr0
  have hl : lv_has ls 5 [(0, .ref (ad 287)), (1, .ref (ad (0 + 9 + 2 * r))), (2, .int (nI (ch)))] := hl
  have hin2 : ∀ w ∈ u_ws RX2 TX2 2, w ∈ wsX5_change := by decide +kernel
  have hin5 : ∀ w ∈ u_ws RX5 TX5 7, w ∈ wsX5_change := by decide +kernel
  refine lv_aload_n hx hb dX5_change_0 rfl (lv_at hl 0 rfl) ?_
  refine z_wrV (As := []) (rest := []) (q := (RX5, TX5, 7)) S hG (c_X5_record E hinj hp hct) 0 gX5_change_X5_record rfl kX5_record ⟨Nat.le_of_ble_eq_true rfl, Nat.le_of_ble_eq_true rfl⟩ ⟨Nat.zero_le _, Nat.zero_le _⟩ (hX) rfl t5 rfl hl.1 rfl rfl (Nat.le_of_ble_eq_true rfl) dX5_change_1 hS (fun _ h => h) (fun Hn locs h_2 q_1 o_3 hS => ?_)
  have hz : Hn.size = H.size := q_1.trans hz
  obtain ⟨π, hp, hX⟩ := h_2
  obtain ⟨hA, hsv, hhs, t5, t8, t9, t10, t11⟩ := id hX
  obtain ⟨h0, h1, h2, h3, h4, h5, h6, h7, hR⟩ := id hA
  have hrr := (hR r (by omega)).1
  refine lv_aload_n hx hb dX5_change_4 rfl (lv_at hl 1 rfl) ?_
  refine lv_iload_n hx hb dX5_change_5 rfl (lv_at hl 2 rfl) ?_
  refine lv_aload_n hx hb dX5_change_6 rfl (lv_at hl 1 rfl) ?_
  refine z_roVN (As := [.int (nI (ch)), .ref (ad (0 + 9 + 2 * r))]) (rest := []) (host := "CharmBracelets") (q := (RX2, TX2, 2)) S hG (c_X2_differences E ⟨hch, hn.2⟩) 2 gX5_change_X2_differences_n137 (List.mem_of_getElem? (i := 30) rfl) (by decide +kernel) rfl kX2_differences.2 ⟨Nat.le_of_ble_eq_true rfl, Nat.le_of_ble_eq_true rfl⟩ ⟨Nat.zero_le _, Nat.zero_le _⟩ (⟨hR r (by omega), hR r (by omega)⟩) rfl hrr rfl hl.1 rfl rfl (Nat.le_of_ble_eq_true rfl) dX5_change_7 ?_
  refine lv_istore_n (lv' := [(3, .int (nI (zdf (zSz nw r) (zKd nw r) ch (zKd nw r)))), (0, .ref (ad 287)), (1, .ref (ad (0 + 9 + 2 * r))), (2, .int (nI (ch)))]) hx hb dX5_change_10 rfl hl (by decide) rfl (fun ls hl => ?_)
  refine lv_aload_n hx hb dX5_change_11 rfl (lv_at hl 1 rfl) ?_
  refine z_get (ref := RX5) (C := RX5) (T := TX5) (N := 7) hx hb hts hin5 hown hG t5 rfl 4 (by decide) (by decide +kernel) rfl rfl dX5_change_12 ?_
  have hrr := (hR r (by omega)).1
  refine lv_aload_n hx hb dX5_change_15 rfl (lv_at hl 2 rfl) ?_
  refine z_wrVN (As := [.ref (ad (0 + 9 + 2 * r))]) (rest := []) (host := "CharmBracelets") (q := (RX2, TX2, 2)) S hG (c_X2_becomeLike E (a := ad 291) (k := ad 292) (b := ad (0 + 9 + 2 * r)) (kb := ad (0 + 10 + 2 * r)) (hinj.ne (by omega) (by omega) (by omega)) ⟨hinj.ne (by omega) (by omega) (by omega), hinj.ne (by omega) (by omega) (by omega), hinj.ne (by omega) (by omega) (by omega), hinj.ne (by omega) (by omega) (by omega)⟩) 1 gX5_change_X2_becomeLike_n215 (List.mem_of_getElem? (i := 17) rfl) (by decide +kernel) rfl kX2_becomeLike.2 ⟨Nat.le_of_ble_eq_true rfl, Nat.le_of_ble_eq_true rfl⟩ ⟨Nat.zero_le _, Nat.zero_le _⟩ (⟨t11, hR r (by omega)⟩) rfl t11.1 rfl hl.1 rfl rfl (Nat.le_of_ble_eq_true rfl) dX5_change_16 hS (fun q h => h.elim (fun e => ⟨_, by decide, e⟩) (fun e => ⟨_, by decide, e⟩)) (fun Hn locs h_5 q_4 o_6 hS => ?_)
  have hz : Hn.size = H.size := q_4.trans hz
  have hX := zX_tr hinj hp hX o_6 h_5
  obtain ⟨hA, hsv, hhs, t5, t8, t9, t10, t11⟩ := id hX
  obtain ⟨h0, h1, h2, h3, h4, h5, h6, h7, hR⟩ := id hA
  refine lv_iconst (v := nI (0)) hx hb dX5_change_19 (by decide) ?_
  refine lv_istore (lv' := [(4, .int (nI (0))), (3, .int (nI (zdf (zSz nw r) (zKd nw r) ch (zKd nw r)))), (0, .ref (ad 287)), (1, .ref (ad (0 + 9 + 2 * r))), (2, .int (nI (ch)))]) hx hb dX5_change_20 hl (by decide) rfl (fun ls hl => ?_)
  have L22 : ∀ (dd : Nat) (i : Nat), zSz nw r - i < dd → (i ≤ zSz nw r) → ∀ (Hn : Heap) (locs : List Loc) (hS : va_S (zAC ad) H Hn locs) (hz : Hn.size = H.size) (hX : zCX E ad (zsRg nw r (zSz nw r) (zpm (zimg (zSz nw r) (zKd nw r) ch) (zKd nw r) (i))) sv an (zrH hs ct nw) (zrC ct) ln cd π (zSz nw r) tt nb (zKd nw r) Hn) (ls : Array Slot), lv_has ls 5 [(0, .ref (ad 287)), (1, .ref (ad (0 + 9 + 2 * r))), (2, .int (nI (ch))), (3, .int (nI (zdf (zSz nw r) (zKd nw r) ch (zKd nw r)))), (4, .int (nI (i)))] → W p (zl E) e (zRm 5 145) s m args below meth c Hn locs 0 0 Q (F0 m 22 ls []) := by
    intro dd
    induction dd with
    | zero => intro i hdd; exact absurd hdd (Nat.not_lt_zero _)
    | succ dd ih22 =>
      intro i hdd22 hi Hn locs hS hz hX ls hl
      obtain ⟨hA, hsv, hhs, t5, t8, t9, t10, t11⟩ := id hX
      obtain ⟨h0, h1, h2, h3, h4, h5, h6, h7, hR⟩ := id hA
      have hRr : zRing E (ad (0 + 9 + 2 * r)) (ad (0 + 10 + 2 * r)) (zSz nw r) (zpm (zimg (zSz nw r) (zKd nw r) ch) (zKd nw r) i) Hn := zsRg_at (hR r (by omega))
      have hrr := hRr.1
      refine lv_iload hx hb dX5_change_22 (lv_at hl 4 rfl) ?_
      refine lv_aload_n hx hb dX5_change_24 rfl (lv_at hl 1 rfl) ?_
      refine z_getN (own := RX5) (ref := RX2) (host := "CharmBracelets") (C := RX2) (T := TX2) (N := 2) hx hb hts hin2 hown hG hrr rfl 0 (by decide) (List.mem_of_getElem? (i := 4) rfl) rfl rfl dX5_change_25 ?_
      refine z_cge (tgt := 53) hx hb dX5_change_28 (by decide) ⟨by omega, by omega⟩ (fun c_7 => ?_) (fun c_7 => ?_)
      · refine lv_iload_n hx hb dX5_change_53 rfl (lv_at hl 3 rfl) ?_
        exact hret _ _ _ _ _ hS (hz) dX5_change_54 (rfl) (by have e9 : i = zSz nw r := (by omega); rw [e9] at hX; exact ⟨π, _, _, hp, hX⟩)
      · refine lv_aload_n hx hb dX5_change_31 rfl (lv_at hl 1 rfl) ?_
        refine lv_iload hx hb dX5_change_32 (lv_at hl 4 rfl) ?_
        refine lv_aload_n hx hb dX5_change_34 rfl (lv_at hl 0 rfl) ?_
        refine z_get (ref := RX5) (C := RX5) (T := TX5) (N := 7) hx hb hts hin5 hown hG t5 rfl 4 (by decide) (by decide +kernel) rfl rfl dX5_change_35 ?_
        refine lv_iload_n hx hb dX5_change_38 rfl (lv_at hl 2 rfl) ?_
        refine lv_iload hx hb dX5_change_39 (lv_at hl 4 rfl) ?_
        refine z_roVN (As := [.int (nI (ch)), .int (nI (i))]) (rest := [.int (nI (i)), .ref (ad (0 + 9 + 2 * r))]) (host := "CharmBracelets") (q := (RX2, TX2, 2)) S hG (c_X2_kindAfter E (ch := ch) (j := i) (by omega)) 2 gX5_change_X2_kindAfter_n130 (List.mem_of_getElem? (i := 31) rfl) (by decide +kernel) rfl kX2_kindAfter.2 ⟨Nat.le_of_ble_eq_true rfl, Nat.le_of_ble_eq_true rfl⟩ ⟨Nat.zero_le _, Nat.zero_le _⟩ (t11) rfl t11.1 rfl hl.1 rfl rfl (Nat.le_of_ble_eq_true rfl) dX5_change_41 ?_
        refine z_wrVN (As := [.int (nI (i)), .int (zimg (zSz nw r) (zKd nw r) ch i)]) (rest := []) (host := "CharmBracelets") (q := (RX2, TX2, 2)) S hG (c_X2_put E (j := i) (x := zimg (zSz nw r) (zKd nw r) ch i) (hinj.ne (by omega) (by omega) (by omega)) (by omega)) 2 gX5_change_X2_put_n88 (List.mem_of_getElem? (i := 25) rfl) (by decide +kernel) rfl kX2_put.2 ⟨Nat.le_of_ble_eq_true rfl, Nat.le_of_ble_eq_true rfl⟩ ⟨Nat.zero_le _, Nat.zero_le _⟩ (hRr) rfl hrr rfl hl.1 rfl rfl (Nat.le_of_ble_eq_true rfl) dX5_change_44 hS (fun q h => h.elim (fun e => ⟨_, by omega, e⟩) (fun e => ⟨_, by omega, e⟩)) (fun Hn locs h_9 q_8 o_10 hS => ?_)
        have hz : Hn.size = H.size := q_8.trans hz
        have hA1 := zSt_rg (r := r) hA hinj (by decide) (by omega) o_10 h_9
        have hX := zX_now hinj hp hX (fun q hq => o_10 q (fun z => z.elim (hq (0 + 9 + 2 * r) (by omega)) (hq (0 + 10 + 2 * r) (by omega)))) hA1
        rw [zsRg_2] at hX
        refine lv_iinc (v := nI (i + 1)) (lv' := [(4, .int (nI (i + 1))), (0, .ref (ad 287)), (1, .ref (ad (0 + 9 + 2 * r))), (2, .int (nI (ch))), (3, .int (nI (zdf (zSz nw r) (zKd nw r) ch (zKd nw r))))]) hx hb dX5_change_47 hl (k := 4) rfl (z_inc1 _) (by decide) rfl (fun ls hl => ?_)
        refine lv_goto (tgt := 22) hx hb dX5_change_50 (by decide) ?_
        have hl9 := lv_sub hl [1, 2, 3, 4, 0] (l' := [(0, .ref (ad 287)), (1, .ref (ad (0 + 9 + 2 * r))), (2, .int (nI (ch))), (3, .int (nI (zdf (zSz nw r) (zKd nw r) ch (zKd nw r)))), (4, .int (nI (i + 1)))]) rfl
        have e9_4 : (i + 1) = ((i + 1)) := by omega
        exact ih22 (i + 1) (by omega) (by omega) _ _ hS hz (by rw [← zpm_s]; exact hX) ls (by rw [← e9_4]; exact hl9)
  exact L22 ((zSz nw r - (0)) + 1) (0) (Nat.lt_succ_self _) (Nat.zero_le _) _ _ hS hz (by rw [zpm_0, zsRg_id]; exact hX) ls (lv_sub hl [2, 3, 4, 1, 0] rfl)

set_option maxHeartbeats 4000000 in
set_option maxRecDepth 100000 in
theorem c_X5_leanAfterSwap (E : zEnv) {ad : Nat → Nat} {nw sv : zS} {an : Bool} {hs : Nat → zS} {ct ln : Nat} {cd : Nat → Int32} {π : Nat → Nat} {tn tt nb : Nat} {tf : Nat → Int32} {i j : Nat} (hinj : zInj ad) (hp : zPi π) (htn : tn ≤ 16) (hij : i < tn ∧ j < tn) (hk : ∀ s, s < tn → zk (zxc tf i j s)) : zWR E yX5_leanAfterSwap wsX5_leanAfterSwap 4 90 [.ref (ad 287), .ref (ad 291), .int (nI (i)), .int (nI (j))] (fun H => zCX E ad nw sv an hs ct ln cd π tn tt nb tf H) (some (.int (zlean (zWt nw) tn (zxc tf i j)))) (fun H => zCX E ad nw sv an hs ct ln cd π tn tt nb tf H) (zAC ad) := by
  refine zWR.ofI (maxL := 5) rfl (Nat.le_of_ble_eq_true rfl) (fun p e s m args below meth c H Q hF hP hret ls hl => ?_)
  have S : CallFix p m c cX5_leanAfterSwap 5 s args wsX5_leanAfterSwap RX5 := hF.1
  have hG := hF.2
  obtain ⟨hx, hb, hml, hown, hts⟩ := id S
  have hS : va_S (zAC ad) H H [] := va_S.rf
  obtain ⟨locs, hlocs⟩ : ∃ x : List Loc, x = [] := ⟨_, rfl⟩
  rw [← hlocs] at hS ⊢
  have hz : H.size = H.size := rfl
  have hX := hP
  obtain ⟨hA, hsv, hhs, t5, t8, t9, t10, t11⟩ := id hX
  obtain ⟨h0, h1, h2, h3, h4, h5, h6, h7, hR⟩ := id hA
  have hl : lv_has ls 5 [(0, .ref (ad 287)), (1, .ref (ad 291)), (2, .int (nI (i))), (3, .int (nI (j)))] := hl
  have hin5 : ∀ w ∈ u_ws RX5 TX5 7, w ∈ wsX5_leanAfterSwap := by decide +kernel
  refine lv_aload_n hx hb dX5_leanAfterSwap_0 rfl (lv_at hl 1 rfl) ?_
  refine lv_iload_n hx hb dX5_leanAfterSwap_1 rfl (lv_at hl 2 rfl) ?_
  refine lv_iload_n hx hb dX5_leanAfterSwap_2 rfl (lv_at hl 3 rfl) ?_
  refine z_wrVN (As := [.int (nI (i)), .int (nI (j))]) (rest := []) (host := "CharmBracelets") (q := (RX2, TX2, 2)) S hG (c_X2_exchange E (a := ad 291) (k := ad 292) (hinj.ne (by omega) (by omega) (by omega)) (i := i) (j := j) (by omega) (by omega)) 2 gX5_leanAfterSwap_X2_exchange_n92 (List.mem_of_getElem? (i := 26) rfl) (by decide +kernel) rfl kX2_exchange.2 ⟨Nat.le_of_ble_eq_true rfl, Nat.le_of_ble_eq_true rfl⟩ ⟨Nat.zero_le _, Nat.zero_le _⟩ (t11) rfl t11.1 rfl hl.1 rfl rfl (Nat.le_of_ble_eq_true rfl) dX5_leanAfterSwap_3 hS (fun q h => h.elim (fun e => ⟨_, by decide, e⟩) (fun e => ⟨_, by decide, e⟩)) (fun Hn locs h_2 q_1 o_3 hS => ?_)
  have hz : Hn.size = H.size := q_1.trans hz
  have hX := zX_tr (f' := zxc tf i j) hinj hp hX o_3 h_2
  obtain ⟨hA, hsv, hhs, t5, t8, t9, t10, t11⟩ := id hX
  obtain ⟨h0, h1, h2, h3, h4, h5, h6, h7, hR⟩ := id hA
  refine lv_aload_n hx hb dX5_leanAfterSwap_6 rfl (lv_at hl 0 rfl) ?_
  refine z_get (ref := RX5) (C := RX5) (T := TX5) (N := 7) hx hb hts hin5 hown hG t5 rfl 0 (by decide) (by decide +kernel) rfl rfl dX5_leanAfterSwap_7 ?_
  refine lv_aload_n hx hb dX5_leanAfterSwap_10 rfl (lv_at hl 1 rfl) ?_
  refine z_roVN (As := [.ref (ad 291)]) (rest := []) (host := "CharmBracelets") (q := (RX3, TX3, 5)) S hG (c_X3_lean E (ad := ad) (b := 0) (v := nw) (n := tn) (f := zxc tf i j) htn hk) 1 gX5_leanAfterSwap_X3_lean_n95 (List.mem_of_getElem? (i := 27) rfl) (by decide +kernel) rfl kX3_lean.2 ⟨Nat.le_of_ble_eq_true rfl, Nat.le_of_ble_eq_true rfl⟩ ⟨Nat.zero_le _, Nat.zero_le _⟩ (⟨hA, t11⟩) rfl h0 rfl hl.1 rfl rfl (Nat.le_of_ble_eq_true rfl) dX5_leanAfterSwap_11 ?_
  refine lv_istore (lv' := [(4, .int (zlean (zWt nw) tn (zxc tf i j))), (0, .ref (ad 287)), (1, .ref (ad 291)), (2, .int (nI (i))), (3, .int (nI (j)))]) hx hb dX5_leanAfterSwap_14 hl (by decide) rfl (fun ls hl => ?_)
  refine lv_aload_n hx hb dX5_leanAfterSwap_16 rfl (lv_at hl 2 rfl) ?_
  refine lv_iload_n hx hb dX5_leanAfterSwap_17 rfl (lv_at hl 3 rfl) ?_
  refine lv_iload_n hx hb dX5_leanAfterSwap_18 rfl (lv_at hl 4 rfl) ?_
  refine z_wrVN (As := [.int (nI (i)), .int (nI (j))]) (rest := []) (host := "CharmBracelets") (q := (RX2, TX2, 2)) S hG (c_X2_exchange E (a := ad 291) (k := ad 292) (hinj.ne (by omega) (by omega) (by omega)) (i := i) (j := j) (by omega) (by omega)) 2 gX5_leanAfterSwap_X2_exchange_n92 (List.mem_of_getElem? (i := 26) rfl) (by decide +kernel) rfl kX2_exchange.2 ⟨Nat.le_of_ble_eq_true rfl, Nat.le_of_ble_eq_true rfl⟩ ⟨Nat.zero_le _, Nat.zero_le _⟩ (t11) rfl t11.1 rfl hl.1 rfl rfl (Nat.le_of_ble_eq_true rfl) dX5_leanAfterSwap_19 hS (fun q h => h.elim (fun e => ⟨_, by decide, e⟩) (fun e => ⟨_, by decide, e⟩)) (fun Hn locs h_5 q_4 o_6 hS => ?_)
  have hz : Hn.size = H.size := q_4.trans hz
  have hX := zX_tr (f' := zxc (zxc tf i j) i j) hinj hp hX o_6 h_5
  obtain ⟨hA, hsv, hhs, t5, t8, t9, t10, t11⟩ := id hX
  obtain ⟨h0, h1, h2, h3, h4, h5, h6, h7, hR⟩ := id hA
  refine lv_iload hx hb dX5_leanAfterSwap_22 (lv_at hl 0 rfl) ?_
  exact hret _ _ _ _ _ hS (hz) dX5_leanAfterSwap_24 (rfl) (by rw [zxc_2] at hX; exact hX)
