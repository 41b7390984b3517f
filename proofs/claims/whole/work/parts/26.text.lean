set_option maxHeartbeats 4000000 in
set_option maxRecDepth 100000 in
theorem c_X4_kindOf (E : zEnv) {w : Nat} (hw : w ≤ 126) : zRO E yX4_kindOf wsX4_kindOf 0 0 [.int (nI (w))] (fun _ => True) (some (.int (zkc w))) := by
  refine zRO.ofI (maxL := 1) rfl (Nat.le_of_ble_eq_true rfl) (fun p e s m args below meth c H Q hF hP hret ls hl => ?_)
  have S : CallFix p m c cX4_kindOf 1 s args wsX4_kindOf RX4 := hF.1
  have hG := hF.2
  obtain ⟨hx, hb, hml, hown, hts⟩ := id S
  have hl : lv_has ls 1 [(0, .int (nI (w)))] := hl
  refine lv_iload_n hx hb dX4_kindOf_0 rfl (lv_at hl 0 rfl) ?_
  refine lv_bipush (v := nI (45)) hx hb dX4_kindOf_1 (by decide) ?_
  refine z_cne (tgt := 8) hx hb dX4_kindOf_3 (by decide) ⟨by omega, by omega⟩ (fun c_1 => ?_) (fun c_1 => ?_)
  · refine lv_iload_n hx hb dX4_kindOf_8 rfl (lv_at hl 0 rfl) ?_
    refine lv_bipush (v := nI (97)) hx hb dX4_kindOf_9 (by decide) ?_
    refine z_clt (tgt := 29) hx hb dX4_kindOf_11 (by decide) ⟨by omega, by omega⟩ (fun c_2 => ?_) (fun c_2 => ?_)
    · refine lv_iconst (v := (-1)) hx hb dX4_kindOf_29 (by decide) ?_
      exact hret _ _ _ dX4_kindOf_30 (by unfold zkc; rw [if_neg (by omega), if_neg (by omega)])
    · refine lv_iload_n hx hb dX4_kindOf_14 rfl (lv_at hl 0 rfl) ?_
      refine lv_bipush (v := nI (101)) hx hb dX4_kindOf_15 (by decide) ?_
      refine z_cgt (tgt := 29) hx hb dX4_kindOf_17 (by decide) ⟨by omega, by omega⟩ (fun c_3 => ?_) (fun c_3 => ?_)
      · refine lv_iconst (v := (-1)) hx hb dX4_kindOf_29 (by decide) ?_
        exact hret _ _ _ dX4_kindOf_30 (by unfold zkc; rw [if_neg (by omega), if_neg (by omega)])
      · refine lv_iload_n hx hb dX4_kindOf_20 rfl (lv_at hl 0 rfl) ?_
        refine lv_bipush (v := nI (97)) hx hb dX4_kindOf_21 (by decide) ?_
        refine z_isub hx hb dX4_kindOf_23 (by omega) ?_
        refine lv_iconst (v := nI (1)) hx hb dX4_kindOf_24 (by decide) ?_
        refine z_iadd hx hb dX4_kindOf_25 ?_
        refine lv_goto (tgt := 30) hx hb dX4_kindOf_26 (by decide) ?_
        exact hret _ _ _ dX4_kindOf_30 (by unfold zkc; rw [if_neg (by omega), if_pos (by omega)])
  · refine lv_iconst (v := nI (0)) hx hb dX4_kindOf_6 (by decide) ?_
    exact hret _ _ _ dX4_kindOf_7 (by unfold zkc; rw [if_pos (by omega)])

set_option maxHeartbeats 4000000 in
set_option maxRecDepth 100000 in
theorem c_X4_isText (E : zEnv) {t co ln : Nat} {cd : Nat → Int32} {tt nb : Nat} {pos : Nat} (htn : tt ≤ 16 ∧ nb ≤ 16) (hpo : pos ≤ 60 ∧ ln ≤ 60) : zRO E yX4_isText wsX4_isText 1 20 [.ref (t), .int (nI (pos))] (fun H => zTxt E t co ln cd tt nb H) (some (.int (zb (decide (pos = ln ∧ nb = 0) && zsz (nI tt))))) := by
  refine zRO.ofZ (maxL := 2) rfl (Nat.le_of_ble_eq_true rfl) (fun p e s m args below meth c H Q hF hP hret ls hl => ?_)
  have S : CallFix p m c cX4_isText 2 s args wsX4_isText RX4 := hF.1
  have hG := hF.2
  obtain ⟨hx, hb, hml, hown, hts⟩ := id S
  obtain ⟨h1, h2⟩ := hP
  have hl : lv_has ls 2 [(0, .ref (t)), (1, .int (nI (pos)))] := hl
  have hin4 : ∀ w ∈ u_ws RX4 TX4 4, w ∈ wsX4_isText := by decide +kernel
  refine lv_iload_n hx hb dX4_isText_0 rfl (lv_at hl 1 rfl) ?_
  refine lv_aload_n hx hb dX4_isText_1 rfl (lv_at hl 0 rfl) ?_
  refine z_get (ref := RX4) (C := RX4) (T := TX4) (N := 4) hx hb hts hin4 hown hG h1 rfl 0 (by decide) (by decide +kernel) rfl rfl dX4_isText_2 ?_
  refine z_cne (tgt := 29) hx hb dX4_isText_5 (by decide) ⟨by omega, by omega⟩ (fun c_1 => ?_) (fun c_1 => ?_)
  · refine lv_iconst (v := nI (0)) hx hb dX4_isText_29 (by decide) ?_
    exact hret _ _ _ dX4_isText_30 (by first | exact Or.inl rfl | exact Or.inr rfl) (by first | exact zrf (by rw [decide_eq_false (by omega)]; rfl) | exact zrf (by rw [c_1, Bool.and_false]))
  · refine lv_aload_n hx hb dX4_isText_8 rfl (lv_at hl 0 rfl) ?_
    refine z_get (ref := RX4) (C := RX4) (T := TX4) (N := 4) hx hb hts hin4 hown hG h1 rfl 3 (by decide) (by decide +kernel) rfl rfl dX4_isText_9 ?_
    refine z_fne (tgt := 29) hx hb dX4_isText_12 (by decide) (by omega) (fun c_2 => ?_) (fun c_2 => ?_)
    · refine lv_iconst (v := nI (0)) hx hb dX4_isText_29 (by decide) ?_
      exact hret _ _ _ dX4_isText_30 (by first | exact Or.inl rfl | exact Or.inr rfl) (by first | exact zrf (by rw [decide_eq_false (by omega)]; rfl) | exact zrf (by rw [c_2, Bool.and_false]))
    · refine lv_aload_n hx hb dX4_isText_15 rfl (lv_at hl 0 rfl) ?_
      refine z_get (ref := RX4) (C := RX4) (T := TX4) (N := 4) hx hb hts hin4 hown hG h1 rfl 2 (by decide) (by decide +kernel) rfl rfl dX4_isText_16 ?_
      refine z_roSN (As := [.int (nI (tt))]) (rest := []) (host := "CharmBracelets") S hG (c_X5_isSize E) 1 gX4_isText_X5_isSize_n46 (List.mem_of_getElem? (i := 59) rfl) (by decide +kernel) rfl kX5_isSize.2 ⟨Nat.le_of_ble_eq_true rfl, Nat.le_of_ble_eq_true rfl⟩ ⟨Nat.zero_le _, Nat.zero_le _⟩ (trivial) rfl hl.1 rfl rfl (Nat.le_of_ble_eq_true rfl) dX4_isText_19 ?_
      refine z_beq (tgt := 29) hx hb dX4_isText_22 (by decide) (fun c_3 => ?_) (fun c_3 => ?_)
      · refine lv_iconst (v := nI (0)) hx hb dX4_isText_29 (by decide) ?_
        exact hret _ _ _ dX4_isText_30 (by first | exact Or.inl rfl | exact Or.inr rfl) (by first | exact zrf (by rw [decide_eq_false (by omega)]; rfl) | exact zrf (by rw [c_3, Bool.and_false]))
      · refine lv_iconst (v := nI (1)) hx hb dX4_isText_25 (by decide) ?_
        refine lv_goto (tgt := 30) hx hb dX4_isText_26 (by decide) ?_
        exact hret _ _ _ dX4_isText_30 (by first | exact Or.inl rfl | exact Or.inr rfl) (zrt (by rw [decide_eq_true ⟨by omega, by omega⟩, c_3]; rfl))

set_option maxHeartbeats 4000000 in
set_option maxRecDepth 100000 in
theorem c_X4_acceptDigit (E : zEnv) {t co ln : Nat} {cd : Nat → Int32} {tt nb : Nat} {d : Nat} (htn : tt ≤ 16 ∧ nb ≤ 16) (hd : d ≤ 9) (hct : co ≠ t) : zWR E yX4_acceptDigit wsX4_acceptDigit 0 0 [.ref (t), .int (nI (d))] (fun H => zTxt E t co ln cd tt nb H) (some (.int (zb (zdk tt nb d)))) (fun H => zTxt E t co ln cd tt (if zdk tt nb d then 10 * nb + d else nb) H) (fun q => q = t) := by
  refine zWR.ofZ (maxL := 4) rfl (Nat.le_of_ble_eq_true rfl) (fun p e s m args below meth c H Q hF hP hret ls hl => ?_)
  have S : CallFix p m c cX4_acceptDigit 4 s args wsX4_acceptDigit RX4 := hF.1
  have hG := hF.2
  obtain ⟨hx, hb, hml, hown, hts⟩ := id S
  have hS : va_S (fun q => q = t) H H [] := va_S.rf
  obtain ⟨locs, hlocs⟩ : ∃ x : List Loc, x = [] := ⟨_, rfl⟩
  rw [← hlocs] at hS ⊢
  have hz : H.size = H.size := rfl
  obtain ⟨h1, h2⟩ := hP
  have hl : lv_has ls 4 [(0, .ref (t)), (1, .int (nI (d)))] := hl
  have hin4 : ∀ w ∈ u_ws RX4 TX4 4, w ∈ wsX4_acceptDigit := by decide +kernel
  refine lv_bipush (v := nI (10)) hx hb dX4_acceptDigit_0 (by decide) ?_
  refine lv_aload_n hx hb dX4_acceptDigit_2 rfl (lv_at hl 0 rfl) ?_
  refine z_get (ref := RX4) (C := RX4) (T := TX4) (N := 4) hx hb hts hin4 hown hG h1 rfl 3 (by decide) (by decide +kernel) rfl rfl dX4_acceptDigit_3 ?_
  refine z_imul hx hb dX4_acceptDigit_6 ?_
  refine lv_iload_n hx hb dX4_acceptDigit_7 rfl (lv_at hl 1 rfl) ?_
  refine z_iadd hx hb dX4_acceptDigit_8 ?_
  refine lv_istore_n (lv' := [(2, .int (nI ((10 * nb) + d))), (0, .ref (t)), (1, .int (nI (d)))]) hx hb dX4_acceptDigit_9 rfl hl (by decide) rfl (fun ls hl => ?_)
  refine lv_iload_n hx hb dX4_acceptDigit_10 rfl (lv_at hl 0 rfl) ?_
  refine lv_iconst (v := nI (1)) hx hb dX4_acceptDigit_11 (by decide) ?_
  refine z_cne (tgt := 20) hx hb dX4_acceptDigit_12 (by decide) ⟨by omega, by omega⟩ (fun c_1 => ?_) (fun c_1 => ?_)
  · refine lv_iload_n hx hb dX4_acceptDigit_20 rfl (lv_at hl 0 rfl) ?_
    refine lv_istore_n (lv' := [(3, .int (nI ((10 * nb) + d))), (2, .int (nI ((10 * nb) + d))), (0, .ref (t)), (1, .int (nI (d)))]) hx hb dX4_acceptDigit_21 rfl hl (by decide) rfl (fun ls hl => ?_)
    refine lv_iload_n hx hb dX4_acceptDigit_22 rfl (lv_at hl 1 rfl) ?_
    refine z_feq (tgt := 37) hx hb dX4_acceptDigit_23 (by decide) (by omega) (fun c_2 => ?_) (fun c_2 => ?_)
    · have hk : zdk tt nb d = false := decide_eq_false (fun ⟨q1, q2⟩ => by split at q2 <;> omega)
      refine lv_iconst (v := nI (0)) hx hb dX4_acceptDigit_37 (by decide) ?_
      exact hret _ _ _ _ _ hS (hz) dX4_acceptDigit_38 (by first | exact Or.inl rfl | exact Or.inr rfl) (zrf hk) (⟨by rw [if_neg (by rw [hk]; decide)]; exact h1, h2⟩)
    · refine lv_aload_n hx hb dX4_acceptDigit_26 rfl (lv_at hl 2 rfl) ?_
      refine z_get (ref := RX4) (C := RX4) (T := TX4) (N := 4) hx hb hts hin4 hown hG h1 rfl 2 (by decide) (by decide +kernel) rfl rfl dX4_acceptDigit_27 ?_
      refine lv_iload_n hx hb dX4_acceptDigit_30 rfl (lv_at hl 0 rfl) ?_
      refine z_iadd hx hb dX4_acceptDigit_31 ?_
      refine lv_bipush (v := nI (16)) hx hb dX4_acceptDigit_32 (by decide) ?_
      refine z_cle (tgt := 39) hx hb dX4_acceptDigit_34 (by decide) ⟨by omega, by omega⟩ (fun c_3 => ?_) (fun c_3 => ?_)
      · have hk : zdk tt nb d = true := decide_eq_true ⟨by omega, by split <;> omega⟩
        refine lv_aload_n hx hb dX4_acceptDigit_39 rfl (lv_at hl 2 rfl) ?_
        refine lv_iload_n hx hb dX4_acceptDigit_40 rfl (lv_at hl 1 rfl) ?_
        refine z_put (ref := RX4) (C := RX4) (T := TX4) (N := 4) hx hb hts hin4 tyX4_ok nmX4 hown hG h1 rfl 3 (by decide) (by decide +kernel) rfl rfl rfl rfl (Nat.le_of_ble_eq_true rfl) hS (rfl) dX4_acceptDigit_41 (fun Hn locs h_4 o_5 hS => ?_)
        have k_6 := va_at.kept h2 (o_5.2 _ (hct))
        have hz : Hn.size = H.size := o_5.1.trans hz
        refine lv_iconst (v := nI (1)) hx hb dX4_acceptDigit_44 (by decide) ?_
        exact hret _ _ _ _ _ hS (hz) dX4_acceptDigit_45 (by first | exact Or.inl rfl | exact Or.inr rfl) (zrt hk) (⟨by rw [if_pos hk]; exact h_4, k_6⟩)
      · have hk : zdk tt nb d = false := decide_eq_false (fun ⟨q1, q2⟩ => by split at q2 <;> omega)
        refine lv_iconst (v := nI (0)) hx hb dX4_acceptDigit_37 (by decide) ?_
        exact hret _ _ _ _ _ hS (hz) dX4_acceptDigit_38 (by first | exact Or.inl rfl | exact Or.inr rfl) (zrf hk) (⟨by rw [if_neg (by rw [hk]; decide)]; exact h1, h2⟩)
  · refine lv_bipush (v := nI (10)) hx hb dX4_acceptDigit_15 (by decide) ?_
    refine lv_goto (tgt := 21) hx hb dX4_acceptDigit_17 (by decide) ?_
    refine lv_istore_n (lv' := [(3, .int (nI (10))), (2, .int (nI ((10 * nb) + d))), (0, .ref (t)), (1, .int (nI (d)))]) hx hb dX4_acceptDigit_21 rfl hl (by decide) rfl (fun ls hl => ?_)
    refine lv_iload_n hx hb dX4_acceptDigit_22 rfl (lv_at hl 1 rfl) ?_
    refine z_feq (tgt := 37) hx hb dX4_acceptDigit_23 (by decide) (by omega) (fun c_7 => ?_) (fun c_7 => ?_)
    · have hk : zdk tt nb d = false := decide_eq_false (fun ⟨q1, q2⟩ => by split at q2 <;> omega)
      refine lv_iconst (v := nI (0)) hx hb dX4_acceptDigit_37 (by decide) ?_
      exact hret _ _ _ _ _ hS (hz) dX4_acceptDigit_38 (by first | exact Or.inl rfl | exact Or.inr rfl) (zrf hk) (⟨by rw [if_neg (by rw [hk]; decide)]; exact h1, h2⟩)
    · refine lv_aload_n hx hb dX4_acceptDigit_26 rfl (lv_at hl 2 rfl) ?_
      refine z_get (ref := RX4) (C := RX4) (T := TX4) (N := 4) hx hb hts hin4 hown hG h1 rfl 2 (by decide) (by decide +kernel) rfl rfl dX4_acceptDigit_27 ?_
      refine lv_iload_n hx hb dX4_acceptDigit_30 rfl (lv_at hl 0 rfl) ?_
      refine z_iadd hx hb dX4_acceptDigit_31 ?_
      refine lv_bipush (v := nI (16)) hx hb dX4_acceptDigit_32 (by decide) ?_
      refine z_cle (tgt := 39) hx hb dX4_acceptDigit_34 (by decide) ⟨by omega, by omega⟩ (fun c_8 => ?_) (fun c_8 => ?_)
      · have hk : zdk tt nb d = true := decide_eq_true ⟨by omega, by split <;> omega⟩
        refine lv_aload_n hx hb dX4_acceptDigit_39 rfl (lv_at hl 2 rfl) ?_
        refine lv_iload_n hx hb dX4_acceptDigit_40 rfl (lv_at hl 1 rfl) ?_
        refine z_put (ref := RX4) (C := RX4) (T := TX4) (N := 4) hx hb hts hin4 tyX4_ok nmX4 hown hG h1 rfl 3 (by decide) (by decide +kernel) rfl rfl rfl rfl (Nat.le_of_ble_eq_true rfl) hS (rfl) dX4_acceptDigit_41 (fun Hn locs h_9 o_10 hS => ?_)
        have k_11 := va_at.kept h2 (o_10.2 _ (hct))
        have hz : Hn.size = H.size := o_10.1.trans hz
        refine lv_iconst (v := nI (1)) hx hb dX4_acceptDigit_44 (by decide) ?_
        exact hret _ _ _ _ _ hS (hz) dX4_acceptDigit_45 (by first | exact Or.inl rfl | exact Or.inr rfl) (zrt hk) (⟨by rw [if_pos hk]; exact h_9, k_11⟩)
      · have hk : zdk tt nb d = false := decide_eq_false (fun ⟨q1, q2⟩ => by split at q2 <;> omega)
        refine lv_iconst (v := nI (0)) hx hb dX4_acceptDigit_37 (by decide) ?_
        exact hret _ _ _ _ _ hS (hz) dX4_acceptDigit_38 (by first | exact Or.inl rfl | exact Or.inr rfl) (zrf hk) (⟨by rw [if_neg (by rw [hk]; decide)]; exact h1, h2⟩)

set_option maxHeartbeats 4000000 in
set_option maxRecDepth 100000 in
theorem c_X4_acceptRun (E : zEnv) {t co ln : Nat} {cd : Nat → Int32} {tt nb : Nat} {x : Int32} {a k : Nat} {f : Nat → Int32} (htn : tt ≤ 16 ∧ nb ≤ 16) (hak : a ≠ k) (hne : co ≠ t ∧ a ≠ t ∧ k ≠ t ∧ co ≠ a ∧ co ≠ k) : zWR E yX4_acceptRun wsX4_acceptRun 2 40 [.ref (t), .int (x), .ref (a)] (fun H => zTxt E t co ln cd tt nb H ∧ zRing E a k tt f H) (some (.int (zb (zrk tt nb x)))) (fun H => zTxt E t co ln cd (if zrk tt nb x then tt + zrl nb else tt) (if zrk tt nb x then 0 else nb) H ∧ zRing E a k (if zrk tt nb x then tt + zrl nb else tt) (if zrk tt nb x then zrn f tt (zrl nb) x else f) H) (fun q => q = t ∨ q = a ∨ q = k) := by
  refine zWR.ofZ (maxL := 5) rfl (Nat.le_of_ble_eq_true rfl) (fun p e s m args below meth c H Q hF hP hret ls hl => ?_)
  have S : CallFix p m c cX4_acceptRun 5 s args wsX4_acceptRun RX4 := hF.1
  have hG := hF.2
  obtain ⟨hx, hb, hml, hown, hts⟩ := id S
  have hS : va_S (fun q => q = t ∨ q = a ∨ q = k) H H [] := va_S.rf
  obtain ⟨locs, hlocs⟩ : ∃ x : List Loc, x = [] := ⟨_, rfl⟩
  rw [← hlocs] at hS ⊢
  have hz : H.size = H.size := rfl
  obtain ⟨⟨h1, h2⟩, h3, h4⟩ := hP
  have hl16 := zrl_3 htn.2
  have hl : lv_has ls 5 [(0, .ref (t)), (1, .int (x)), (2, .ref (a))] := hl
  have hin2 : ∀ w ∈ u_ws RX2 TX2 2, w ∈ wsX4_acceptRun := by decide +kernel
  have hin4 : ∀ w ∈ u_ws RX4 TX4 4, w ∈ wsX4_acceptRun := by decide +kernel
  refine lv_aload_n hx hb dX4_acceptRun_0 rfl (lv_at hl 0 rfl) ?_
  refine z_get (ref := RX4) (C := RX4) (T := TX4) (N := 4) hx hb hts hin4 hown hG h1 rfl 3 (by decide) (by decide +kernel) rfl rfl dX4_acceptRun_1 ?_
  refine z_fne (tgt := 11) hx hb dX4_acceptRun_4 (by decide) (by omega) (fun c_1 => ?_) (fun c_1 => ?_)
  · refine lv_aload_n hx hb dX4_acceptRun_11 rfl (lv_at hl 0 rfl) ?_
    refine z_get (ref := RX4) (C := RX4) (T := TX4) (N := 4) hx hb hts hin4 hown hG h1 rfl 3 (by decide) (by decide +kernel) rfl rfl dX4_acceptRun_12 ?_
    refine z_top (y := nI (zrl nb)) (by first | exact zrl_2 (by omega) | exact (zrl_2 (by omega)).symm) ?_
    refine lv_istore_n (lv' := [(3, .int (nI (zrl nb))), (0, .ref (t)), (1, .int (x)), (2, .ref (a))]) hx hb dX4_acceptRun_15 rfl hl (by decide) rfl (fun ls hl => ?_)
    refine lv_iload_n hx hb dX4_acceptRun_16 rfl (lv_at hl 2 rfl) ?_
    refine z_roSN (As := [.int (x)]) (rest := []) (host := "CharmBracelets") S hG (c_X5_isKindOrEmpty E) 1 gX4_acceptRun_X5_isKindOrEmpty_n49 (List.mem_of_getElem? (i := 56) rfl) (by decide +kernel) rfl kX5_isKindOrEmpty.2 ⟨Nat.le_of_ble_eq_true rfl, Nat.le_of_ble_eq_true rfl⟩ ⟨Nat.zero_le _, Nat.zero_le _⟩ (trivial) rfl hl.1 rfl rfl (Nat.le_of_ble_eq_true rfl) dX4_acceptRun_17 ?_
    refine z_beq (tgt := 42) hx hb dX4_acceptRun_20 (by decide) (fun c_2 => ?_) (fun c_2 => ?_)
    · have hk : zrk tt nb x = false := by first | exact zrk_n1 (by assumption) | exact zrk_n2 (by omega)
      refine lv_iconst (v := nI (0)) hx hb dX4_acceptRun_42 (by decide) ?_
      exact hret _ _ _ _ _ hS (hz) dX4_acceptRun_43 (by first | exact Or.inl rfl | exact Or.inr rfl) (zrf hk) (by rw [hk]; exact ⟨⟨h1, h2⟩, h3, h4⟩)
    · refine lv_aload_n hx hb dX4_acceptRun_23 rfl (lv_at hl 1 rfl) ?_
      refine z_get (ref := RX4) (C := RX4) (T := TX4) (N := 4) hx hb hts hin4 hown hG h1 rfl 3 (by decide) (by decide +kernel) rfl rfl dX4_acceptRun_24 ?_
      refine lv_iconst (v := nI (1)) hx hb dX4_acceptRun_27 (by decide) ?_
      refine z_ceq (tgt := 42) hx hb dX4_acceptRun_28 (by decide) ⟨by omega, by omega⟩ (fun c_3 => ?_) (fun c_3 => ?_)
      · have hk : zrk tt nb x = false := by first | exact zrk_n1 (by assumption) | exact zrk_n2 (by omega)
        refine lv_iconst (v := nI (0)) hx hb dX4_acceptRun_42 (by decide) ?_
        exact hret _ _ _ _ _ hS (hz) dX4_acceptRun_43 (by first | exact Or.inl rfl | exact Or.inr rfl) (zrf hk) (by rw [hk]; exact ⟨⟨h1, h2⟩, h3, h4⟩)
      · refine lv_aload_n hx hb dX4_acceptRun_31 rfl (lv_at hl 1 rfl) ?_
        refine z_get (ref := RX4) (C := RX4) (T := TX4) (N := 4) hx hb hts hin4 hown hG h1 rfl 2 (by decide) (by decide +kernel) rfl rfl dX4_acceptRun_32 ?_
        refine lv_iload_n hx hb dX4_acceptRun_35 rfl (lv_at hl 0 rfl) ?_
        refine z_iadd hx hb dX4_acceptRun_36 ?_
        refine lv_bipush (v := nI (16)) hx hb dX4_acceptRun_37 (by decide) ?_
        refine z_cle (tgt := 44) hx hb dX4_acceptRun_39 (by decide) ⟨by omega, by omega⟩ (fun c_4 => ?_) (fun c_4 => ?_)
        · have hk : zrk tt nb x = true := zrk_y (by assumption) ⟨by omega, by omega⟩
          refine lv_iconst (v := nI (0)) hx hb dX4_acceptRun_44 (by decide) ?_
          refine lv_istore (lv' := [(4, .int (nI (0))), (3, .int (nI (zrl nb))), (0, .ref (t)), (1, .int (x)), (2, .ref (a))]) hx hb dX4_acceptRun_45 hl (by decide) rfl (fun ls hl => ?_)
          have L47 : ∀ (dd : Nat) (i : Nat), zrl nb - i < dd → (i ≤ zrl nb) → ∀ (Hn : Heap) (locs : List Loc) (hS : va_S (fun q => q = t ∨ q = a ∨ q = k) H Hn locs) (hz : Hn.size = H.size) (h1 : zat E t (.inr (4, [.int (nI ln), .ref co, .int (nI tt), .int (nI nb)])) Hn) (h2 : zat E co (.inl (zI E, 60, .inl cd)) Hn) (h3 : zat E a (.inr (2, [.int (nI tt), .ref k])) Hn) (h4 : zat E k (.inl (zI E, 16, .inl (zrn f tt i x))) Hn) (ls : Array Slot), lv_has ls 5 [(0, .ref (t)), (1, .int (x)), (2, .ref (a)), (3, .int (nI (zrl nb))), (4, .int (nI (i)))] → W p (zl E) e (zRm 2 40) s m args below meth c Hn locs 0 0 Q (F0 m 47 ls []) := by
            intro dd
            induction dd with
            | zero => intro i hdd; exact absurd hdd (Nat.not_lt_zero _)
            | succ dd ih47 =>
              intro i hdd47 hi Hn locs hS hz h1 h2 h3 h4 ls hl
              refine lv_iload hx hb dX4_acceptRun_47 (lv_at hl 4 rfl) ?_
              refine lv_iload_n hx hb dX4_acceptRun_49 rfl (lv_at hl 3 rfl) ?_
              refine z_cge (tgt := 71) hx hb dX4_acceptRun_50 (by decide) ⟨by omega, by omega⟩ (fun c_5 => ?_) (fun c_5 => ?_)
              · obtain rfl : i = zrl nb := by omega
                refine lv_aload_n hx hb dX4_acceptRun_71 rfl (lv_at hl 0 rfl) ?_
                refine lv_dup hx hb dX4_acceptRun_72 rfl ?_
                refine z_get (ref := RX4) (C := RX4) (T := TX4) (N := 4) hx hb hts hin4 hown hG h1 rfl 2 (by decide) (by decide +kernel) rfl rfl dX4_acceptRun_73 ?_
                refine lv_iload_n hx hb dX4_acceptRun_76 rfl (lv_at hl 3 rfl) ?_
                refine z_iadd hx hb dX4_acceptRun_77 ?_
                refine z_put (ref := RX4) (C := RX4) (T := TX4) (N := 4) hx hb hts hin4 tyX4_ok nmX4 hown hG h1 rfl 2 (by decide) (by decide +kernel) rfl rfl rfl rfl (Nat.le_of_ble_eq_true rfl) hS (Or.inl rfl) dX4_acceptRun_78 (fun Hn locs h_6 o_7 hS => ?_)
                have k_8 := va_at.kept h2 (o_7.2 _ (hne.1))
                have k_9 := va_at.kept h3 (o_7.2 _ (hne.2.1))
                have k_10 := va_at.kept h4 (o_7.2 _ (hne.2.2.1))
                have hz : Hn.size = H.size := o_7.1.trans hz
                refine lv_aload_n hx hb dX4_acceptRun_81 rfl (lv_at hl 2 rfl) ?_
                refine lv_aload_n hx hb dX4_acceptRun_82 rfl (lv_at hl 0 rfl) ?_
                refine z_get (ref := RX4) (C := RX4) (T := TX4) (N := 4) hx hb hts hin4 hown hG h_6 rfl 2 (by decide) (by decide +kernel) rfl rfl dX4_acceptRun_83 ?_
                refine z_putN (own := RX4) (ref := RX2) (host := "CharmBracelets") (C := RX2) (T := TX2) (N := 2) hx hb hts hin2 tyX2_ok nmX2 hown hG k_9 rfl 0 (by decide) (List.mem_of_getElem? (i := 4) rfl) rfl rfl rfl rfl (Nat.le_of_ble_eq_true rfl) hS (Or.inr (Or.inl rfl)) dX4_acceptRun_86 (fun Hn locs h_11 o_12 hS => ?_)
                have k_13 := va_at.kept h_6 (o_12.2 _ (Ne.symm hne.2.1))
                have k_14 := va_at.kept k_8 (o_12.2 _ (hne.2.2.2.1))
                have k_15 := va_at.kept k_10 (o_12.2 _ (Ne.symm hak))
                have hz : Hn.size = H.size := o_12.1.trans hz
                refine lv_aload_n hx hb dX4_acceptRun_89 rfl (lv_at hl 0 rfl) ?_
                refine lv_iconst (v := nI (0)) hx hb dX4_acceptRun_90 (by decide) ?_
                refine z_put (ref := RX4) (C := RX4) (T := TX4) (N := 4) hx hb hts hin4 tyX4_ok nmX4 hown hG k_13 rfl 3 (by decide) (by decide +kernel) rfl rfl rfl rfl (Nat.le_of_ble_eq_true rfl) hS (Or.inl rfl) dX4_acceptRun_91 (fun Hn locs h_16 o_17 hS => ?_)
                have k_18 := va_at.kept k_14 (o_17.2 _ (hne.1))
                have k_19 := va_at.kept h_11 (o_17.2 _ (hne.2.1))
                have k_20 := va_at.kept k_15 (o_17.2 _ (hne.2.2.1))
                have hz : Hn.size = H.size := o_17.1.trans hz
                refine lv_iconst (v := nI (1)) hx hb dX4_acceptRun_94 (by decide) ?_
                exact hret _ _ _ _ _ hS (hz) dX4_acceptRun_95 (by first | exact Or.inl rfl | exact Or.inr rfl) (zrt hk) (by rw [hk]; exact ⟨⟨h_16, k_18⟩, k_19, k_20⟩)
              · refine lv_aload_n hx hb dX4_acceptRun_53 rfl (lv_at hl 2 rfl) ?_
                refine lv_aload_n hx hb dX4_acceptRun_54 rfl (lv_at hl 0 rfl) ?_
                refine z_get (ref := RX4) (C := RX4) (T := TX4) (N := 4) hx hb hts hin4 hown hG h1 rfl 2 (by decide) (by decide +kernel) rfl rfl dX4_acceptRun_55 ?_
                refine lv_iload hx hb dX4_acceptRun_58 (lv_at hl 4 rfl) ?_
                refine z_iadd hx hb dX4_acceptRun_60 ?_
                refine lv_iload_n hx hb dX4_acceptRun_61 rfl (lv_at hl 1 rfl) ?_
                refine z_wrVN (As := [.int (nI (tt + i)), .int (x)]) (rest := []) (host := "CharmBracelets") (q := (RX2, TX2, 2)) S hG (c_X2_put E (a := a) (k := k) (n := tt) (f := zrn f tt i x) (j := tt + i) (x := x) hak (by omega)) 2 gX4_acceptRun_X2_put_n52 (List.mem_of_getElem? (i := 57) rfl) (by decide +kernel) rfl kX2_put.2 ⟨Nat.le_of_ble_eq_true rfl, Nat.le_of_ble_eq_true rfl⟩ ⟨Nat.zero_le _, Nat.zero_le _⟩ (⟨h3, h4⟩) rfl h3 rfl hl.1 rfl rfl (Nat.le_of_ble_eq_true rfl) dX4_acceptRun_62 hS (fun q h => h.elim (fun e => Or.inr (Or.inl e)) (fun e => Or.inr (Or.inr e))) (fun Hn locs h_22 q_21 o_23 hS => ?_)
                have hz : Hn.size = H.size := q_21.trans hz
                have k_24 := va_at.kept h1 (o_23 _ (fun z => z.elim (Ne.symm hne.2.1) (Ne.symm hne.2.2.1)))
                have k_25 := va_at.kept h2 (o_23 _ (fun z => z.elim hne.2.2.2.1 hne.2.2.2.2))
                refine lv_iinc (v := nI (i + 1)) (lv' := [(4, .int (nI (i + 1))), (0, .ref (t)), (1, .int (x)), (2, .ref (a)), (3, .int (nI (zrl nb)))]) hx hb dX4_acceptRun_65 hl (k := 4) rfl (z_inc1 _) (by decide) rfl (fun ls hl => ?_)
                refine lv_goto (tgt := 47) hx hb dX4_acceptRun_68 (by decide) ?_
                have hl9 := lv_sub hl [1, 2, 3, 4, 0] (l' := [(0, .ref (t)), (1, .int (x)), (2, .ref (a)), (3, .int (nI (zrl nb))), (4, .int (nI (i + 1)))]) rfl
                have e9_4 : (i + 1) = ((i + 1)) := by omega
                exact ih47 (i + 1) (by omega) (by omega) _ _ hS hz (k_24) (k_25) (h_22.1) (by rw [← zrn_s]; exact h_22.2) ls (by rw [← e9_4]; exact hl9)
          exact L47 ((zrl nb - (0)) + 1) (0) (Nat.lt_succ_self _) (Nat.zero_le _) _ _ hS hz (h1) (h2) (h3) (by rw [zrn_0]; exact h4) ls (lv_sub hl [2, 3, 4, 1, 0] rfl)
        · have hk : zrk tt nb x = false := by first | exact zrk_n1 (by assumption) | exact zrk_n2 (by omega)
          refine lv_iconst (v := nI (0)) hx hb dX4_acceptRun_42 (by decide) ?_
          exact hret _ _ _ _ _ hS (hz) dX4_acceptRun_43 (by first | exact Or.inl rfl | exact Or.inr rfl) (zrf hk) (by rw [hk]; exact ⟨⟨h1, h2⟩, h3, h4⟩)
  · refine lv_iconst (v := nI (1)) hx hb dX4_acceptRun_7 (by decide) ?_
    refine z_top (y := nI (zrl nb)) (by first | exact zrl_1 (by omega) | exact (zrl_1 (by omega)).symm) ?_
    refine lv_goto (tgt := 15) hx hb dX4_acceptRun_8 (by decide) ?_
    refine lv_istore_n (lv' := [(3, .int (nI (zrl nb))), (0, .ref (t)), (1, .int (x)), (2, .ref (a))]) hx hb dX4_acceptRun_15 rfl hl (by decide) rfl (fun ls hl => ?_)
    refine lv_iload_n hx hb dX4_acceptRun_16 rfl (lv_at hl 2 rfl) ?_
    refine z_roSN (As := [.int (x)]) (rest := []) (host := "CharmBracelets") S hG (c_X5_isKindOrEmpty E) 1 gX4_acceptRun_X5_isKindOrEmpty_n49 (List.mem_of_getElem? (i := 56) rfl) (by decide +kernel) rfl kX5_isKindOrEmpty.2 ⟨Nat.le_of_ble_eq_true rfl, Nat.le_of_ble_eq_true rfl⟩ ⟨Nat.zero_le _, Nat.zero_le _⟩ (trivial) rfl hl.1 rfl rfl (Nat.le_of_ble_eq_true rfl) dX4_acceptRun_17 ?_
    refine z_beq (tgt := 42) hx hb dX4_acceptRun_20 (by decide) (fun c_26 => ?_) (fun c_26 => ?_)
    · have hk : zrk tt nb x = false := by first | exact zrk_n1 (by assumption) | exact zrk_n2 (by omega)
      refine lv_iconst (v := nI (0)) hx hb dX4_acceptRun_42 (by decide) ?_
      exact hret _ _ _ _ _ hS (hz) dX4_acceptRun_43 (by first | exact Or.inl rfl | exact Or.inr rfl) (zrf hk) (by rw [hk]; exact ⟨⟨h1, h2⟩, h3, h4⟩)
    · refine lv_aload_n hx hb dX4_acceptRun_23 rfl (lv_at hl 1 rfl) ?_
      refine z_get (ref := RX4) (C := RX4) (T := TX4) (N := 4) hx hb hts hin4 hown hG h1 rfl 3 (by decide) (by decide +kernel) rfl rfl dX4_acceptRun_24 ?_
      refine lv_iconst (v := nI (1)) hx hb dX4_acceptRun_27 (by decide) ?_
      refine z_ceq (tgt := 42) hx hb dX4_acceptRun_28 (by decide) ⟨by omega, by omega⟩ (fun c_27 => ?_) (fun c_27 => ?_)
      · have hk : zrk tt nb x = false := by first | exact zrk_n1 (by assumption) | exact zrk_n2 (by omega)
        refine lv_iconst (v := nI (0)) hx hb dX4_acceptRun_42 (by decide) ?_
        exact hret _ _ _ _ _ hS (hz) dX4_acceptRun_43 (by first | exact Or.inl rfl | exact Or.inr rfl) (zrf hk) (by rw [hk]; exact ⟨⟨h1, h2⟩, h3, h4⟩)
      · refine lv_aload_n hx hb dX4_acceptRun_31 rfl (lv_at hl 1 rfl) ?_
        refine z_get (ref := RX4) (C := RX4) (T := TX4) (N := 4) hx hb hts hin4 hown hG h1 rfl 2 (by decide) (by decide +kernel) rfl rfl dX4_acceptRun_32 ?_
        refine lv_iload_n hx hb dX4_acceptRun_35 rfl (lv_at hl 0 rfl) ?_
        refine z_iadd hx hb dX4_acceptRun_36 ?_
        refine lv_bipush (v := nI (16)) hx hb dX4_acceptRun_37 (by decide) ?_
        refine z_cle (tgt := 44) hx hb dX4_acceptRun_39 (by decide) ⟨by omega, by omega⟩ (fun c_28 => ?_) (fun c_28 => ?_)
        · have hk : zrk tt nb x = true := zrk_y (by assumption) ⟨by omega, by omega⟩
          refine lv_iconst (v := nI (0)) hx hb dX4_acceptRun_44 (by decide) ?_
          refine lv_istore (lv' := [(4, .int (nI (0))), (3, .int (nI (zrl nb))), (0, .ref (t)), (1, .int (x)), (2, .ref (a))]) hx hb dX4_acceptRun_45 hl (by decide) rfl (fun ls hl => ?_)
          have L47 : ∀ (dd : Nat) (i : Nat), zrl nb - i < dd → (i ≤ zrl nb) → ∀ (Hn : Heap) (locs : List Loc) (hS : va_S (fun q => q = t ∨ q = a ∨ q = k) H Hn locs) (hz : Hn.size = H.size) (h1 : zat E t (.inr (4, [.int (nI ln), .ref co, .int (nI tt), .int (nI nb)])) Hn) (h2 : zat E co (.inl (zI E, 60, .inl cd)) Hn) (h3 : zat E a (.inr (2, [.int (nI tt), .ref k])) Hn) (h4 : zat E k (.inl (zI E, 16, .inl (zrn f tt i x))) Hn) (ls : Array Slot), lv_has ls 5 [(0, .ref (t)), (1, .int (x)), (2, .ref (a)), (3, .int (nI (zrl nb))), (4, .int (nI (i)))] → W p (zl E) e (zRm 2 40) s m args below meth c Hn locs 0 0 Q (F0 m 47 ls []) := by
            intro dd
            induction dd with
            | zero => intro i hdd; exact absurd hdd (Nat.not_lt_zero _)
            | succ dd ih47 =>
              intro i hdd47 hi Hn locs hS hz h1 h2 h3 h4 ls hl
              refine lv_iload hx hb dX4_acceptRun_47 (lv_at hl 4 rfl) ?_
              refine lv_iload_n hx hb dX4_acceptRun_49 rfl (lv_at hl 3 rfl) ?_
              refine z_cge (tgt := 71) hx hb dX4_acceptRun_50 (by decide) ⟨by omega, by omega⟩ (fun c_29 => ?_) (fun c_29 => ?_)
              · obtain rfl : i = zrl nb := by omega
                refine lv_aload_n hx hb dX4_acceptRun_71 rfl (lv_at hl 0 rfl) ?_
                refine lv_dup hx hb dX4_acceptRun_72 rfl ?_
                refine z_get (ref := RX4) (C := RX4) (T := TX4) (N := 4) hx hb hts hin4 hown hG h1 rfl 2 (by decide) (by decide +kernel) rfl rfl dX4_acceptRun_73 ?_
                refine lv_iload_n hx hb dX4_acceptRun_76 rfl (lv_at hl 3 rfl) ?_
                refine z_iadd hx hb dX4_acceptRun_77 ?_
                refine z_put (ref := RX4) (C := RX4) (T := TX4) (N := 4) hx hb hts hin4 tyX4_ok nmX4 hown hG h1 rfl 2 (by decide) (by decide +kernel) rfl rfl rfl rfl (Nat.le_of_ble_eq_true rfl) hS (Or.inl rfl) dX4_acceptRun_78 (fun Hn locs h_30 o_31 hS => ?_)
                have k_32 := va_at.kept h2 (o_31.2 _ (hne.1))
                have k_33 := va_at.kept h3 (o_31.2 _ (hne.2.1))
                have k_34 := va_at.kept h4 (o_31.2 _ (hne.2.2.1))
                have hz : Hn.size = H.size := o_31.1.trans hz
                refine lv_aload_n hx hb dX4_acceptRun_81 rfl (lv_at hl 2 rfl) ?_
                refine lv_aload_n hx hb dX4_acceptRun_82 rfl (lv_at hl 0 rfl) ?_
                refine z_get (ref := RX4) (C := RX4) (T := TX4) (N := 4) hx hb hts hin4 hown hG h_30 rfl 2 (by decide) (by decide +kernel) rfl rfl dX4_acceptRun_83 ?_
                refine z_putN (own := RX4) (ref := RX2) (host := "CharmBracelets") (C := RX2) (T := TX2) (N := 2) hx hb hts hin2 tyX2_ok nmX2 hown hG k_33 rfl 0 (by decide) (List.mem_of_getElem? (i := 4) rfl) rfl rfl rfl rfl (Nat.le_of_ble_eq_true rfl) hS (Or.inr (Or.inl rfl)) dX4_acceptRun_86 (fun Hn locs h_35 o_36 hS => ?_)
                have k_37 := va_at.kept h_30 (o_36.2 _ (Ne.symm hne.2.1))
                have k_38 := va_at.kept k_32 (o_36.2 _ (hne.2.2.2.1))
                have k_39 := va_at.kept k_34 (o_36.2 _ (Ne.symm hak))
                have hz : Hn.size = H.size := o_36.1.trans hz
                refine lv_aload_n hx hb dX4_acceptRun_89 rfl (lv_at hl 0 rfl) ?_
                refine lv_iconst (v := nI (0)) hx hb dX4_acceptRun_90 (by decide) ?_
                refine z_put (ref := RX4) (C := RX4) (T := TX4) (N := 4) hx hb hts hin4 tyX4_ok nmX4 hown hG k_37 rfl 3 (by decide) (by decide +kernel) rfl rfl rfl rfl (Nat.le_of_ble_eq_true rfl) hS (Or.inl rfl) dX4_acceptRun_91 (fun Hn locs h_40 o_41 hS => ?_)
                have k_42 := va_at.kept k_38 (o_41.2 _ (hne.1))
                have k_43 := va_at.kept h_35 (o_41.2 _ (hne.2.1))
                have k_44 := va_at.kept k_39 (o_41.2 _ (hne.2.2.1))
                have hz : Hn.size = H.size := o_41.1.trans hz
                refine lv_iconst (v := nI (1)) hx hb dX4_acceptRun_94 (by decide) ?_
                exact hret _ _ _ _ _ hS (hz) dX4_acceptRun_95 (by first | exact Or.inl rfl | exact Or.inr rfl) (zrt hk) (by rw [hk]; exact ⟨⟨h_40, k_42⟩, k_43, k_44⟩)
              · refine lv_aload_n hx hb dX4_acceptRun_53 rfl (lv_at hl 2 rfl) ?_
                refine lv_aload_n hx hb dX4_acceptRun_54 rfl (lv_at hl 0 rfl) ?_
                refine z_get (ref := RX4) (C := RX4) (T := TX4) (N := 4) hx hb hts hin4 hown hG h1 rfl 2 (by decide) (by decide +kernel) rfl rfl dX4_acceptRun_55 ?_
                refine lv_iload hx hb dX4_acceptRun_58 (lv_at hl 4 rfl) ?_
                refine z_iadd hx hb dX4_acceptRun_60 ?_
                refine lv_iload_n hx hb dX4_acceptRun_61 rfl (lv_at hl 1 rfl) ?_
                refine z_wrVN (As := [.int (nI (tt + i)), .int (x)]) (rest := []) (host := "CharmBracelets") (q := (RX2, TX2, 2)) S hG (c_X2_put E (a := a) (k := k) (n := tt) (f := zrn f tt i x) (j := tt + i) (x := x) hak (by omega)) 2 gX4_acceptRun_X2_put_n52 (List.mem_of_getElem? (i := 57) rfl) (by decide +kernel) rfl kX2_put.2 ⟨Nat.le_of_ble_eq_true rfl, Nat.le_of_ble_eq_true rfl⟩ ⟨Nat.zero_le _, Nat.zero_le _⟩ (⟨h3, h4⟩) rfl h3 rfl hl.1 rfl rfl (Nat.le_of_ble_eq_true rfl) dX4_acceptRun_62 hS (fun q h => h.elim (fun e => Or.inr (Or.inl e)) (fun e => Or.inr (Or.inr e))) (fun Hn locs h_46 q_45 o_47 hS => ?_)
                have hz : Hn.size = H.size := q_45.trans hz
                have k_48 := va_at.kept h1 (o_47 _ (fun z => z.elim (Ne.symm hne.2.1) (Ne.symm hne.2.2.1)))
                have k_49 := va_at.kept h2 (o_47 _ (fun z => z.elim hne.2.2.2.1 hne.2.2.2.2))
                refine lv_iinc (v := nI (i + 1)) (lv' := [(4, .int (nI (i + 1))), (0, .ref (t)), (1, .int (x)), (2, .ref (a)), (3, .int (nI (zrl nb)))]) hx hb dX4_acceptRun_65 hl (k := 4) rfl (z_inc1 _) (by decide) rfl (fun ls hl => ?_)
                refine lv_goto (tgt := 47) hx hb dX4_acceptRun_68 (by decide) ?_
                have hl9 := lv_sub hl [1, 2, 3, 4, 0] (l' := [(0, .ref (t)), (1, .int (x)), (2, .ref (a)), (3, .int (nI (zrl nb))), (4, .int (nI (i + 1)))]) rfl
                have e9_4 : (i + 1) = ((i + 1)) := by omega
                exact ih47 (i + 1) (by omega) (by omega) _ _ hS hz (k_48) (k_49) (h_46.1) (by rw [← zrn_s]; exact h_46.2) ls (by rw [← e9_4]; exact hl9)
          exact L47 ((zrl nb - (0)) + 1) (0) (Nat.lt_succ_self _) (Nat.zero_le _) _ _ hS hz (h1) (h2) (h3) (by rw [zrn_0]; exact h4) ls (lv_sub hl [2, 3, 4, 1, 0] rfl)
        · have hk : zrk tt nb x = false := by first | exact zrk_n1 (by assumption) | exact zrk_n2 (by omega)
          refine lv_iconst (v := nI (0)) hx hb dX4_acceptRun_42 (by decide) ?_
          exact hret _ _ _ _ _ hS (hz) dX4_acceptRun_43 (by first | exact Or.inl rfl | exact Or.inr rfl) (zrf hk) (by rw [hk]; exact ⟨⟨h1, h2⟩, h3, h4⟩)

set_option maxHeartbeats 4000000 in
set_option maxRecDepth 100000 in
theorem c_X4_parse (E : zEnv) {t co ln : Nat} {cd : Nat → Int32} {tt nb : Nat} {a k n0 : Nat} {f : Nat → Int32} {cw : Nat → Nat} (hak : a ≠ k) (hne : co ≠ t ∧ a ≠ t ∧ k ≠ t ∧ co ≠ a ∧ co ≠ k) (hcd : ∀ j, j < ln → 33 ≤ cw j ∧ cw j ≤ 126 ∧ cd j = nI (cw j)) (hln : ln ≤ 60) : zWR E yX4_parse wsX4_parse 3 64 [.ref (t), .ref (a)] (fun H => zTxt E t co ln cd tt nb H ∧ zRing E a k n0 f H) (some (.int (nI (zpl cw ln)))) (fun H => zTxt E t co ln cd (zpf cw (zpl cw ln)).1 (zpf cw (zpl cw ln)).2.1 H ∧ zRing E a k (zpf cw (zpl cw ln)).1 (zpf cw (zpl cw ln)).2.2 H) (fun q => q = t ∨ q = a ∨ q = k) := by
  refine zWR.ofI (maxL := 5) rfl (Nat.le_of_ble_eq_true rfl) (fun p e s m args below meth c H Q hF hP hret ls hl => ?_)
  have S : CallFix p m c cX4_parse 5 s args wsX4_parse RX4 := hF.1
  have hG := hF.2
  obtain ⟨hx, hb, hml, hown, hts⟩ := id S
  have hS : va_S (fun q => q = t ∨ q = a ∨ q = k) H H [] := va_S.rf
  obtain ⟨locs, hlocs⟩ : ∃ x : List Loc, x = [] := ⟨_, rfl⟩
  rw [← hlocs] at hS ⊢
  have hz : H.size = H.size := rfl
  obtain ⟨⟨h1, h2⟩, h3, h4⟩ := hP
  have hl : lv_has ls 5 [(0, .ref (t)), (1, .ref (a))] := hl
  have hin4 : ∀ w ∈ u_ws RX4 TX4 4, w ∈ wsX4_parse := by decide +kernel
  refine lv_aload_n hx hb dX4_parse_0 rfl (lv_at hl 1 rfl) ?_
  refine lv_iconst (v := nI (0)) hx hb dX4_parse_1 (by decide) ?_
  refine z_wrVN (As := [.int (nI (0))]) (rest := []) (host := "CharmBracelets") (q := (RX2, TX2, 2)) S hG (c_X2_becomeEmpty E (a := a) (k := k) (n := n0) (f := f) (n2 := 0) hak) 1 gX4_parse_X2_becomeEmpty_n15 (List.mem_of_getElem? (i := 55) rfl) (by decide +kernel) rfl kX2_becomeEmpty.2 ⟨Nat.le_of_ble_eq_true rfl, Nat.le_of_ble_eq_true rfl⟩ ⟨Nat.zero_le _, Nat.zero_le _⟩ (⟨h3, h4⟩) rfl h3 rfl hl.1 rfl rfl (Nat.le_of_ble_eq_true rfl) dX4_parse_2 hS (fun q h => h.elim (fun e => Or.inr (Or.inl e)) (fun e => Or.inr (Or.inr e))) (fun Hn locs h_2 q_1 o_3 hS => ?_)
  have hz : Hn.size = H.size := q_1.trans hz
  have k9 := va_at.kept h1 (o_3 _ (fun z => z.elim (Ne.symm hne.2.1) (Ne.symm hne.2.2.1)))
  have k8 := va_at.kept h2 (o_3 _ (fun z => z.elim hne.2.2.2.1 hne.2.2.2.2))
  refine lv_aload_n hx hb dX4_parse_5 rfl (lv_at hl 0 rfl) ?_
  refine lv_iconst (v := nI (0)) hx hb dX4_parse_6 (by decide) ?_
  refine z_put (ref := RX4) (C := RX4) (T := TX4) (N := 4) hx hb hts hin4 tyX4_ok nmX4 hown hG k9 rfl 2 (by decide) (by decide +kernel) rfl rfl rfl rfl (Nat.le_of_ble_eq_true rfl) hS (Or.inl rfl) dX4_parse_7 (fun Hn locs h_4 o_5 hS => ?_)
  have k_6 := va_at.kept k8 (o_5.2 _ (hne.1))
  have k_7 := va_at.kept h_2.1 (o_5.2 _ (hne.2.1))
  have k_8 := va_at.kept h_2.2 (o_5.2 _ (hne.2.2.1))
  have hz : Hn.size = H.size := o_5.1.trans hz
  refine lv_aload_n hx hb dX4_parse_10 rfl (lv_at hl 0 rfl) ?_
  refine lv_iconst (v := nI (0)) hx hb dX4_parse_11 (by decide) ?_
  refine z_put (ref := RX4) (C := RX4) (T := TX4) (N := 4) hx hb hts hin4 tyX4_ok nmX4 hown hG h_4 rfl 3 (by decide) (by decide +kernel) rfl rfl rfl rfl (Nat.le_of_ble_eq_true rfl) hS (Or.inl rfl) dX4_parse_12 (fun Hn locs h_9 o_10 hS => ?_)
  have k_11 := va_at.kept k_6 (o_10.2 _ (hne.1))
  have k_12 := va_at.kept k_7 (o_10.2 _ (hne.2.1))
  have k_13 := va_at.kept k_8 (o_10.2 _ (hne.2.2.1))
  have hz : Hn.size = H.size := o_10.1.trans hz
  refine lv_iconst (v := nI (0)) hx hb dX4_parse_15 (by decide) ?_
  refine lv_istore_n (lv' := [(2, .int (nI (0))), (0, .ref (t)), (1, .ref (a))]) hx hb dX4_parse_16 rfl hl (by decide) rfl (fun ls hl => ?_)
  have L17 : ∀ (dd : Nat) (i : Nat), ln - i < dd → (i ≤ ln) → (∀ j, j < i → zpe cw j = false) → ∀ (Hn : Heap) (locs : List Loc) (hS : va_S (fun q => q = t ∨ q = a ∨ q = k) H Hn locs) (hz : Hn.size = H.size) (hst : zTxt E t co ln cd (zpf cw i).1 (zpf cw i).2.1 Hn ∧ zRing E a k (zpf cw i).1 (zpf cw i).2.2 Hn) (ls : Array Slot), lv_has ls 5 [(0, .ref (t)), (1, .ref (a)), (2, .int (nI (i)))] → W p (zl E) e (zRm 3 64) s m args below meth c Hn locs 0 0 Q (F0 m 17 ls []) := by
    intro dd
    induction dd with
    | zero => intro i hdd; exact absurd hdd (Nat.not_lt_zero _)
    | succ dd ih17 =>
      intro i hdd17 hi hno Hn locs hS hz hst ls hl
      refine lv_iload_n hx hb dX4_parse_17 rfl (lv_at hl 2 rfl) ?_
      refine lv_aload_n hx hb dX4_parse_18 rfl (lv_at hl 0 rfl) ?_
      refine z_get (ref := RX4) (C := RX4) (T := TX4) (N := 4) hx hb hts hin4 hown hG hst.1.1 rfl 0 (by decide) (by decide +kernel) rfl rfl dX4_parse_19 ?_
      refine z_cge (tgt := 83) hx hb dX4_parse_22 (by decide) ⟨by omega, by omega⟩ (fun c_14 => ?_) (fun c_14 => ?_)
      · refine lv_aload_n hx hb dX4_parse_83 rfl (lv_at hl 0 rfl) ?_
        refine z_get (ref := RX4) (C := RX4) (T := TX4) (N := 4) hx hb hts hin4 hown hG hst.1.1 rfl 0 (by decide) (by decide +kernel) rfl rfl dX4_parse_84 ?_
        exact hret _ _ _ _ _ hS (hz) dX4_parse_87 (by rw [zpl_no (fun j hj => hno j (by omega))]) (by rw [zpl_no (fun j hj => hno j (by omega)), show ln = i by omega] ; rw [show ln = i by omega] at hst; exact hst)
      · refine lv_iload_n hx hb dX4_parse_25 rfl (lv_at hl 2 rfl) ?_
        refine lv_aload_n hx hb dX4_parse_26 rfl (lv_at hl 0 rfl) ?_
        refine z_get (ref := RX4) (C := RX4) (T := TX4) (N := 4) hx hb hts hin4 hown hG hst.1.1 rfl 1 (by decide) (by decide +kernel) rfl rfl dX4_parse_27 ?_
        refine z_alenI hx hb hG hst.1.2 dX4_parse_30 ?_
        refine z_cge (tgt := 83) hx hb dX4_parse_31 (by decide) ⟨by omega, by omega⟩ (fun c_15 => by exfalso; omega) (fun c_15 => ?_)
        refine lv_aload_n hx hb dX4_parse_34 rfl (lv_at hl 0 rfl) ?_
        refine z_get (ref := RX4) (C := RX4) (T := TX4) (N := 4) hx hb hts hin4 hown hG hst.1.1 rfl 1 (by decide) (by decide +kernel) rfl rfl dX4_parse_35 ?_
        refine lv_iload_n hx hb dX4_parse_38 rfl (lv_at hl 2 rfl) ?_
        obtain ⟨hw1, hw2, hw3⟩ := hcd i (by omega)
        refine z_iald (j := i) hx hb hG hst.1.2 ⟨by omega, by omega⟩ dX4_parse_39 ?_
        refine z_top (y := nI (cw i)) (by first | exact hw3 | exact hw3.symm) ?_
        refine lv_istore_n (lv' := [(3, .int (nI (cw i))), (0, .ref (t)), (1, .ref (a)), (2, .int (nI (i)))]) hx hb dX4_parse_40 rfl hl (by decide) rfl (fun ls hl => ?_)
        refine lv_iload_n hx hb dX4_parse_41 rfl (lv_at hl 0 rfl) ?_
        refine z_roSX (As := [.int (nI (cw i))]) (rest := []) S hG (c_X4_isDigit E) 1 gX4_parse_X4_isDigit rfl kX4_isDigit.2 ⟨Nat.le_of_ble_eq_true rfl, Nat.le_of_ble_eq_true rfl⟩ ⟨Nat.zero_le _, Nat.zero_le _⟩ (trivial) rfl hl.1 rfl rfl (Nat.le_of_ble_eq_true rfl) dX4_parse_42 ?_
        refine z_top (y := zb (zdg (cw i))) (by rw [zin_nI (by omega) (by decide) (by decide)]; rfl) ?_
        refine z_beq (tgt := 59) hx hb dX4_parse_45 (by decide) (fun c_16 => ?_) (fun c_16 => ?_)
        · have hdg : zdg (cw i) = false := c_16
          refine lv_aload_n hx hb dX4_parse_59 rfl (lv_at hl 1 rfl) ?_
          refine lv_iload_n hx hb dX4_parse_60 rfl (lv_at hl 0 rfl) ?_
          refine z_roSX (As := [.int (nI (cw i))]) (rest := [.ref (t)]) S hG (c_X4_kindOf E hw2) 1 gX4_parse_X4_kindOf rfl kX4_kindOf.2 ⟨Nat.le_of_ble_eq_true rfl, Nat.le_of_ble_eq_true rfl⟩ ⟨Nat.zero_le _, Nat.zero_le _⟩ (trivial) rfl hl.1 rfl rfl (Nat.le_of_ble_eq_true rfl) dX4_parse_61 ?_
          refine lv_aload_n hx hb dX4_parse_64 rfl (lv_at hl 2 rfl) ?_
          refine z_wrV (As := [.int (zkc (cw i)), .ref (a)]) (rest := []) (q := (RX4, TX4, 4)) S hG (c_X4_acceptRun E (t := t) (co := co) (ln := ln) (cd := cd) (tt := (zpf cw i).1) (nb := (zpf cw i).2.1) (x := zkc (cw i)) (a := a) (k := k) (f := (zpf cw i).2.2) (zpf_b cw i) hak hne) 2 gX4_parse_X4_acceptRun rfl kX4_acceptRun ⟨Nat.le_of_ble_eq_true rfl, Nat.le_of_ble_eq_true rfl⟩ ⟨Nat.zero_le _, Nat.zero_le _⟩ (hst) rfl hst.1.1 rfl hl.1 rfl rfl (Nat.le_of_ble_eq_true rfl) dX4_parse_65 hS (fun q h => h) (fun Hn locs h_18 q_17 o_19 hS => ?_)
          have hz : Hn.size = H.size := q_17.trans hz
          have hst : zTxt E t co ln cd (zpf cw (i + 1)).1 (zpf cw (i + 1)).2.1 Hn ∧ zRing E a k (zpf cw (i + 1)).1 (zpf cw (i + 1)).2.2 Hn := by
            show zTxt E t co ln cd (zps (zpf cw i) (cw i)).1 (zps (zpf cw i) (cw i)).2.1 Hn ∧ zRing E a k (zps (zpf cw i) (cw i)).1 (zps (zpf cw i) (cw i)).2.2 Hn
            rw [zps_rr hdg]
            exact h_18
          refine z_top (y := zb (zpk (zpf cw i) (cw i))) (by rw [zpk_r hdg]) ?_
          refine lv_istore (lv' := [(4, .int (zb (zpk (zpf cw i) (cw i)))), (3, .int (nI (cw i))), (0, .ref (t)), (1, .ref (a)), (2, .int (nI (i)))]) hx hb dX4_parse_68 hl (by decide) rfl (fun ls hl => ?_)
          refine lv_iload hx hb dX4_parse_70 (lv_at hl 0 rfl) ?_
          refine z_bne (tgt := 77) hx hb dX4_parse_72 (by decide) (fun c_20 => ?_) (fun c_20 => ?_)
          · refine lv_iinc (v := nI (i + 1)) (lv' := [(2, .int (nI (i + 1))), (4, .int (zb (zpk (zpf cw i) (cw i)))), (3, .int (nI (cw i))), (0, .ref (t)), (1, .ref (a))]) hx hb dX4_parse_77 hl (k := 4) rfl (z_inc1 _) (by decide) rfl (fun ls hl => ?_)
            refine lv_goto (tgt := 17) hx hb dX4_parse_80 (by decide) ?_
            have hl9 := lv_sub hl [3, 4, 0] (l' := [(0, .ref (t)), (1, .ref (a)), (2, .int (nI (i + 1)))]) rfl
            have e9_2 : (i + 1) = ((i + 1)) := by omega
            exact ih17 (i + 1) (by omega) (by omega) (zpe_s hno c_20) _ _ hS hz (hst) ls (by rw [← e9_2]; exact hl9)
          · refine lv_iload_n hx hb dX4_parse_75 rfl (lv_at hl 4 rfl) ?_
            exact hret _ _ _ _ _ hS (hz) dX4_parse_76 (by rw [zpl_is (by omega) hno c_20]) (by rw [zpl_is (by omega) hno c_20, ← zpf_n c_20]; exact hst)
        · have hdg : zdg (cw i) = true := c_16
          have hdb := zdg_b hdg
          refine lv_aload_n hx hb dX4_parse_48 rfl (lv_at hl 1 rfl) ?_
          refine lv_iload_n hx hb dX4_parse_49 rfl (lv_at hl 0 rfl) ?_
          refine lv_bipush (v := nI (48)) hx hb dX4_parse_50 (by decide) ?_
          refine z_isub hx hb dX4_parse_52 (by omega) ?_
          refine z_wrV (As := [.int (nI ((cw i) - 48))]) (rest := []) (q := (RX4, TX4, 4)) S hG (c_X4_acceptDigit E (t := t) (co := co) (ln := ln) (cd := cd) (tt := (zpf cw i).1) (nb := (zpf cw i).2.1) (d := cw i - 48) (zpf_b cw i) (by have := zdg_b hdg; omega) hne.1) 1 gX4_parse_X4_acceptDigit rfl kX4_acceptDigit ⟨Nat.le_of_ble_eq_true rfl, Nat.le_of_ble_eq_true rfl⟩ ⟨Nat.zero_le _, Nat.zero_le _⟩ (hst.1) rfl hst.1.1 rfl hl.1 rfl rfl (Nat.le_of_ble_eq_true rfl) dX4_parse_53 hS (fun q h => Or.inl h) (fun Hn locs h_22 q_21 o_23 hS => ?_)
          have hz : Hn.size = H.size := q_21.trans hz
          have hst : zTxt E t co ln cd (zpf cw (i + 1)).1 (zpf cw (i + 1)).2.1 Hn ∧ zRing E a k (zpf cw (i + 1)).1 (zpf cw (i + 1)).2.2 Hn := by
            show zTxt E t co ln cd (zps (zpf cw i) (cw i)).1 (zps (zpf cw i) (cw i)).2.1 Hn ∧ zRing E a k (zps (zpf cw i) (cw i)).1 (zps (zpf cw i) (cw i)).2.2 Hn
            rw [zps_dd hdg]
            exact ⟨h_22, va_at.kept hst.2.1 (o_23 _ hne.2.1), va_at.kept hst.2.2 (o_23 _ hne.2.2.1)⟩
          refine z_top (y := zb (zpk (zpf cw i) (cw i))) (by rw [zpk_d hdg]) ?_
          refine lv_goto (tgt := 68) hx hb dX4_parse_56 (by decide) ?_
          refine lv_istore (lv' := [(4, .int (zb (zpk (zpf cw i) (cw i)))), (3, .int (nI (cw i))), (0, .ref (t)), (1, .ref (a)), (2, .int (nI (i)))]) hx hb dX4_parse_68 hl (by decide) rfl (fun ls hl => ?_)
          refine lv_iload hx hb dX4_parse_70 (lv_at hl 0 rfl) ?_
          refine z_bne (tgt := 77) hx hb dX4_parse_72 (by decide) (fun c_24 => ?_) (fun c_24 => ?_)
          · refine lv_iinc (v := nI (i + 1)) (lv' := [(2, .int (nI (i + 1))), (4, .int (zb (zpk (zpf cw i) (cw i)))), (3, .int (nI (cw i))), (0, .ref (t)), (1, .ref (a))]) hx hb dX4_parse_77 hl (k := 4) rfl (z_inc1 _) (by decide) rfl (fun ls hl => ?_)
            refine lv_goto (tgt := 17) hx hb dX4_parse_80 (by decide) ?_
            have hl9 := lv_sub hl [3, 4, 0] (l' := [(0, .ref (t)), (1, .ref (a)), (2, .int (nI (i + 1)))]) rfl
            have e9_2 : (i + 1) = ((i + 1)) := by omega
            exact ih17 (i + 1) (by omega) (by omega) (zpe_s hno c_24) _ _ hS hz (hst) ls (by rw [← e9_2]; exact hl9)
          · refine lv_iload_n hx hb dX4_parse_75 rfl (lv_at hl 4 rfl) ?_
            exact hret _ _ _ _ _ hS (hz) dX4_parse_76 (by rw [zpl_is (by omega) hno c_24]) (by rw [zpl_is (by omega) hno c_24, ← zpf_n c_24]; exact hst)
  exact L17 ((ln - (0)) + 1) (0) (Nat.lt_succ_self _) (Nat.zero_le _) (fun j hj => absurd hj (Nat.not_lt_zero _)) _ _ hS hz (⟨⟨h_9, k_11⟩, k_12, k_13⟩) ls (lv_sub hl [1, 2, 0] rfl)

set_option maxHeartbeats 4000000 in
set_option maxRecDepth 100000 in
theorem c_X5_errorPosition_0 (E : zEnv) {ad : Nat → Nat} {nw sv : zS} {an : Bool} {hs : Nat → zS} {ct ln : Nat} {cd : Nat → Int32} {cw : Nat → Nat} (hok : zOk nw) (hinj : zInj ad) (hct : ct ≤ 5) (hcd : ∀ j, j < ln → 33 ≤ cw j ∧ cw j ≤ 126 ∧ cd j = nI (cw j)) (hln : ln ≤ 60) (hT : zpt cw ln = true) : zWR E yX5_errorPosition wsX5_errorPosition 4 88 [.ref (ad 287)] (fun H => zCW E ad nw sv an hs ct ln cd H) (some (.int (-6))) (fun H => zCW E ad nw sv an hs ct ln cd H) (zAC ad) := by
  refine zWR.ofI (maxL := 2) rfl (Nat.le_of_ble_eq_true rfl) (fun p e s m args below meth c H Q hF hP hret ls hl => ?_)
  have S : CallFix p m c cX5_errorPosition 2 s args wsX5_errorPosition RX5 := hF.1
  have hG := hF.2
  obtain ⟨hx, hb, hml, hown, hts⟩ := id S
  have hS : va_S (zAC ad) H H [] := va_S.rf
  obtain ⟨locs, hlocs⟩ : ∃ x : List Loc, x = [] := ⟨_, rfl⟩
  rw [← hlocs] at hS ⊢
  have hz : H.size = H.size := rfl
  obtain ⟨π, tn, tt, nb, tf, hp, hX⟩ := hP
  obtain ⟨hA, hsv, hhs, t5, t8, t9, t10, t11⟩ := id hX
  obtain ⟨h0, h1, h2, h3, h4, h5, h6, h7, hR⟩ := id hA
  have hl : lv_has ls 2 [(0, .ref (ad 287))] := hl
  have hin5 : ∀ w ∈ u_ws RX5 TX5 7, w ∈ wsX5_errorPosition := by decide +kernel
  refine lv_aload_n hx hb dX5_errorPosition_0 rfl (lv_at hl 0 rfl) ?_
  refine z_get (ref := RX5) (C := RX5) (T := TX5) (N := 7) hx hb hts hin5 hown hG t5 rfl 3 (by decide) (by decide +kernel) rfl rfl dX5_errorPosition_1 ?_
  refine lv_aload_n hx hb dX5_errorPosition_4 rfl (lv_at hl 0 rfl) ?_
  refine z_get (ref := RX5) (C := RX5) (T := TX5) (N := 7) hx hb hts hin5 hown hG t5 rfl 4 (by decide) (by decide +kernel) rfl rfl dX5_errorPosition_5 ?_
  refine z_wrVN (As := [.ref (ad 291)]) (rest := []) (host := "CharmBracelets") (q := (RX4, TX4, 4)) S hG (c_X4_parse E (t := ad 289) (co := ad 290) (ln := ln) (cd := cd) (a := ad 291) (k := ad 292) (cw := cw) (hinj.ne (by omega) (by omega) (by omega)) ⟨hinj.ne (by omega) (by omega) (by omega), hinj.ne (by omega) (by omega) (by omega), hinj.ne (by omega) (by omega) (by omega), hinj.ne (by omega) (by omega) (by omega), hinj.ne (by omega) (by omega) (by omega)⟩ hcd hln) 1 gX5_errorPosition_X4_parse_n225 (List.mem_of_getElem? (i := 54) rfl) (by decide +kernel) rfl kX4_parse.2 ⟨Nat.le_of_ble_eq_true rfl, Nat.le_of_ble_eq_true rfl⟩ ⟨Nat.zero_le _, Nat.zero_le _⟩ (⟨⟨t9, t10⟩, t11⟩) rfl t9 rfl hl.1 rfl rfl (Nat.le_of_ble_eq_true rfl) dX5_errorPosition_8 hS (fun q h => h.elim (fun e => ⟨289, by decide, e⟩) (fun h => h.elim (fun e => ⟨291, by decide, e⟩) (fun e => ⟨292, by decide, e⟩))) (fun Hn locs h_2 q_1 o_3 hS => ?_)
  have hz : Hn.size = H.size := q_1.trans hz
  have hX := zX_tt hinj hp hX o_3 h_2.1 h_2.2
  obtain ⟨hA, hsv, hhs, t5, t8, t9, t10, t11⟩ := id hX
  obtain ⟨h0, h1, h2, h3, h4, h5, h6, h7, hR⟩ := id hA
  refine lv_istore_n (lv' := [(1, .int (nI (zpl cw ln))), (0, .ref (ad 287))]) hx hb dX5_errorPosition_11 rfl hl (by decide) rfl (fun ls hl => ?_)
  refine lv_aload_n hx hb dX5_errorPosition_12 rfl (lv_at hl 1 rfl) ?_
  refine z_get (ref := RX5) (C := RX5) (T := TX5) (N := 7) hx hb hts hin5 hown hG t5 rfl 3 (by decide) (by decide +kernel) rfl rfl dX5_errorPosition_13 ?_
  refine lv_iload_n hx hb dX5_errorPosition_16 rfl (lv_at hl 0 rfl) ?_
  refine z_roVN (As := [.int (nI (zpl cw ln))]) (rest := []) (host := "CharmBracelets") (q := (RX4, TX4, 4)) S hG (c_X4_isText E (t := ad 289) (co := ad 290) (ln := ln) (cd := cd) (tt := (zpf cw (zpl cw ln)).1) (nb := (zpf cw (zpl cw ln)).2.1) (pos := (zpl cw ln)) (zpf_b cw (zpl cw ln)) ⟨by have := zpl_le cw ln; omega, hln⟩) 1 gX5_errorPosition_X4_isText_n228 (List.mem_of_getElem? (i := 58) rfl) (by decide +kernel) rfl kX4_isText.2 ⟨Nat.le_of_ble_eq_true rfl, Nat.le_of_ble_eq_true rfl⟩ ⟨Nat.zero_le _, Nat.zero_le _⟩ (⟨t9, t10⟩) rfl t9 rfl hl.1 rfl rfl (Nat.le_of_ble_eq_true rfl) dX5_errorPosition_17 ?_
  refine z_top (y := zb (zpt cw ln)) (by rw [zpt_e]) ?_
  refine z_beq (tgt := 28) hx hb dX5_errorPosition_20 (by decide) (fun c_4 => by exfalso; rw [hT] at c_4; cases c_4) (fun c_4 => ?_)
  refine lv_bipush (v := (-6)) hx hb dX5_errorPosition_23 (by decide) ?_
  refine lv_goto (tgt := 29) hx hb dX5_errorPosition_25 (by decide) ?_
  exact hret _ _ _ _ _ hS (hz) dX5_errorPosition_29 (rfl) (zsc hp hX)

set_option maxHeartbeats 4000000 in
set_option maxRecDepth 100000 in
theorem c_X5_errorPosition_1 (E : zEnv) {ad : Nat → Nat} {nw sv : zS} {an : Bool} {hs : Nat → zS} {ct ln : Nat} {cd : Nat → Int32} {cw : Nat → Nat} (hok : zOk nw) (hinj : zInj ad) (hct : ct ≤ 5) (hcd : ∀ j, j < ln → 33 ≤ cw j ∧ cw j ≤ 126 ∧ cd j = nI (cw j)) (hln : ln ≤ 60) (hT : zpt cw ln = false) : zWR E yX5_errorPosition wsX5_errorPosition 4 88 [.ref (ad 287)] (fun H => zCW E ad nw sv an hs ct ln cd H) (some (.int (nI (zpl cw ln)))) (fun H => zCW E ad nw sv an hs ct ln cd H) (zAC ad) := by
  refine zWR.ofI (maxL := 2) rfl (Nat.le_of_ble_eq_true rfl) (fun p e s m args below meth c H Q hF hP hret ls hl => ?_)
  have S : CallFix p m c cX5_errorPosition 2 s args wsX5_errorPosition RX5 := hF.1
  have hG := hF.2
  obtain ⟨hx, hb, hml, hown, hts⟩ := id S
  have hS : va_S (zAC ad) H H [] := va_S.rf
  obtain ⟨locs, hlocs⟩ : ∃ x : List Loc, x = [] := ⟨_, rfl⟩
  rw [← hlocs] at hS ⊢
  have hz : H.size = H.size := rfl
  obtain ⟨π, tn, tt, nb, tf, hp, hX⟩ := hP
  obtain ⟨hA, hsv, hhs, t5, t8, t9, t10, t11⟩ := id hX
  obtain ⟨h0, h1, h2, h3, h4, h5, h6, h7, hR⟩ := id hA
  have hl : lv_has ls 2 [(0, .ref (ad 287))] := hl
  have hin5 : ∀ w ∈ u_ws RX5 TX5 7, w ∈ wsX5_errorPosition := by decide +kernel
  refine lv_aload_n hx hb dX5_errorPosition_0 rfl (lv_at hl 0 rfl) ?_
  refine z_get (ref := RX5) (C := RX5) (T := TX5) (N := 7) hx hb hts hin5 hown hG t5 rfl 3 (by decide) (by decide +kernel) rfl rfl dX5_errorPosition_1 ?_
  refine lv_aload_n hx hb dX5_errorPosition_4 rfl (lv_at hl 0 rfl) ?_
  refine z_get (ref := RX5) (C := RX5) (T := TX5) (N := 7) hx hb hts hin5 hown hG t5 rfl 4 (by decide) (by decide +kernel) rfl rfl dX5_errorPosition_5 ?_
  refine z_wrVN (As := [.ref (ad 291)]) (rest := []) (host := "CharmBracelets") (q := (RX4, TX4, 4)) S hG (c_X4_parse E (t := ad 289) (co := ad 290) (ln := ln) (cd := cd) (a := ad 291) (k := ad 292) (cw := cw) (hinj.ne (by omega) (by omega) (by omega)) ⟨hinj.ne (by omega) (by omega) (by omega), hinj.ne (by omega) (by omega) (by omega), hinj.ne (by omega) (by omega) (by omega), hinj.ne (by omega) (by omega) (by omega), hinj.ne (by omega) (by omega) (by omega)⟩ hcd hln) 1 gX5_errorPosition_X4_parse_n225 (List.mem_of_getElem? (i := 54) rfl) (by decide +kernel) rfl kX4_parse.2 ⟨Nat.le_of_ble_eq_true rfl, Nat.le_of_ble_eq_true rfl⟩ ⟨Nat.zero_le _, Nat.zero_le _⟩ (⟨⟨t9, t10⟩, t11⟩) rfl t9 rfl hl.1 rfl rfl (Nat.le_of_ble_eq_true rfl) dX5_errorPosition_8 hS (fun q h => h.elim (fun e => ⟨289, by decide, e⟩) (fun h => h.elim (fun e => ⟨291, by decide, e⟩) (fun e => ⟨292, by decide, e⟩))) (fun Hn locs h_2 q_1 o_3 hS => ?_)
  have hz : Hn.size = H.size := q_1.trans hz
  have hX := zX_tt hinj hp hX o_3 h_2.1 h_2.2
  obtain ⟨hA, hsv, hhs, t5, t8, t9, t10, t11⟩ := id hX
  obtain ⟨h0, h1, h2, h3, h4, h5, h6, h7, hR⟩ := id hA
  refine lv_istore_n (lv' := [(1, .int (nI (zpl cw ln))), (0, .ref (ad 287))]) hx hb dX5_errorPosition_11 rfl hl (by decide) rfl (fun ls hl => ?_)
  refine lv_aload_n hx hb dX5_errorPosition_12 rfl (lv_at hl 1 rfl) ?_
  refine z_get (ref := RX5) (C := RX5) (T := TX5) (N := 7) hx hb hts hin5 hown hG t5 rfl 3 (by decide) (by decide +kernel) rfl rfl dX5_errorPosition_13 ?_
  refine lv_iload_n hx hb dX5_errorPosition_16 rfl (lv_at hl 0 rfl) ?_
  refine z_roVN (As := [.int (nI (zpl cw ln))]) (rest := []) (host := "CharmBracelets") (q := (RX4, TX4, 4)) S hG (c_X4_isText E (t := ad 289) (co := ad 290) (ln := ln) (cd := cd) (tt := (zpf cw (zpl cw ln)).1) (nb := (zpf cw (zpl cw ln)).2.1) (pos := (zpl cw ln)) (zpf_b cw (zpl cw ln)) ⟨by have := zpl_le cw ln; omega, hln⟩) 1 gX5_errorPosition_X4_isText_n228 (List.mem_of_getElem? (i := 58) rfl) (by decide +kernel) rfl kX4_isText.2 ⟨Nat.le_of_ble_eq_true rfl, Nat.le_of_ble_eq_true rfl⟩ ⟨Nat.zero_le _, Nat.zero_le _⟩ (⟨t9, t10⟩) rfl t9 rfl hl.1 rfl rfl (Nat.le_of_ble_eq_true rfl) dX5_errorPosition_17 ?_
  refine z_top (y := zb (zpt cw ln)) (by rw [zpt_e]) ?_
  refine z_beq (tgt := 28) hx hb dX5_errorPosition_20 (by decide) (fun c_4 => ?_) (fun c_4 => by exfalso; rw [hT] at c_4; cases c_4)
  refine lv_iload_n hx hb dX5_errorPosition_28 rfl (lv_at hl 0 rfl) ?_
  exact hret _ _ _ _ _ hS (hz) dX5_errorPosition_29 (rfl) (zsc hp hX)

set_option maxHeartbeats 4000000 in
set_option maxRecDepth 100000 in
theorem c_X5_read_0 (E : zEnv) {ad : Nat → Nat} {nw sv : zS} {an : Bool} {hs : Nat → zS} {ct ln : Nat} {cd : Nat → Int32} {cw : Nat → Nat} (hok : zOk nw) (hinj : zInj ad) (hct : ct ≤ 5) (hcd : ∀ j, j < ln → 33 ≤ cw j ∧ cw j ≤ 126 ∧ cd j = nI (cw j)) (hln : ln ≤ 60) (hT : zpt cw ln = false) : zWR E yX5_read wsX5_read 6 167 [.ref (ad 287)] (fun H => zCW E ad nw sv an hs ct ln cd H) (some (.int (-5))) (fun H => zCW E ad nw sv an hs ct ln cd H) (zAC ad) := by
  refine zWR.ofI (maxL := 3) rfl (Nat.le_of_ble_eq_true rfl) (fun p e s m args below meth c H Q hF hP hret ls hl => ?_)
  have S : CallFix p m c cX5_read 3 s args wsX5_read RX5 := hF.1
  have hG := hF.2
  obtain ⟨hx, hb, hml, hown, hts⟩ := id S
  have hS : va_S (zAC ad) H H [] := va_S.rf
  obtain ⟨locs, hlocs⟩ : ∃ x : List Loc, x = [] := ⟨_, rfl⟩
  rw [← hlocs] at hS ⊢
  have hz : H.size = H.size := rfl
  obtain ⟨π, tn, tt, nb, tf, hp, hX⟩ := hP
  obtain ⟨hA, hsv, hhs, t5, t8, t9, t10, t11⟩ := id hX
  obtain ⟨h0, h1, h2, h3, h4, h5, h6, h7, hR⟩ := id hA
  have hl : lv_has ls 3 [(0, .ref (ad 287))] := hl
  have hin4 : ∀ w ∈ u_ws RX4 TX4 4, w ∈ wsX5_read := by decide +kernel
  have hin5 : ∀ w ∈ u_ws RX5 TX5 7, w ∈ wsX5_read := by decide +kernel
  refine lv_aload_n hx hb dX5_read_0 rfl (lv_at hl 0 rfl) ?_
  refine z_get (ref := RX5) (C := RX5) (T := TX5) (N := 7) hx hb hts hin5 hown hG t5 rfl 3 (by decide) (by decide +kernel) rfl rfl dX5_read_1 ?_
  refine lv_aload_n hx hb dX5_read_4 rfl (lv_at hl 0 rfl) ?_
  refine z_get (ref := RX5) (C := RX5) (T := TX5) (N := 7) hx hb hts hin5 hown hG t5 rfl 4 (by decide) (by decide +kernel) rfl rfl dX5_read_5 ?_
  refine z_wrVN (As := [.ref (ad 291)]) (rest := []) (host := "CharmBracelets") (q := (RX4, TX4, 4)) S hG (c_X4_parse E (t := ad 289) (co := ad 290) (ln := ln) (cd := cd) (a := ad 291) (k := ad 292) (cw := cw) (hinj.ne (by omega) (by omega) (by omega)) ⟨hinj.ne (by omega) (by omega) (by omega), hinj.ne (by omega) (by omega) (by omega), hinj.ne (by omega) (by omega) (by omega), hinj.ne (by omega) (by omega) (by omega), hinj.ne (by omega) (by omega) (by omega)⟩ hcd hln) 1 gX5_read_X4_parse_n225 (List.mem_of_getElem? (i := 54) rfl) (by decide +kernel) rfl kX4_parse.2 ⟨Nat.le_of_ble_eq_true rfl, Nat.le_of_ble_eq_true rfl⟩ ⟨Nat.zero_le _, Nat.zero_le _⟩ (⟨⟨t9, t10⟩, t11⟩) rfl t9 rfl hl.1 rfl rfl (Nat.le_of_ble_eq_true rfl) dX5_read_8 hS (fun q h => h.elim (fun e => ⟨289, by decide, e⟩) (fun h => h.elim (fun e => ⟨291, by decide, e⟩) (fun e => ⟨292, by decide, e⟩))) (fun Hn locs h_2 q_1 o_3 hS => ?_)
  have hz : Hn.size = H.size := q_1.trans hz
  have hX := zX_tt hinj hp hX o_3 h_2.1 h_2.2
  obtain ⟨hA, hsv, hhs, t5, t8, t9, t10, t11⟩ := id hX
  obtain ⟨h0, h1, h2, h3, h4, h5, h6, h7, hR⟩ := id hA
  refine lv_istore_n (lv' := [(1, .int (nI (zpl cw ln))), (0, .ref (ad 287))]) hx hb dX5_read_11 rfl hl (by decide) rfl (fun ls hl => ?_)
  refine lv_aload_n hx hb dX5_read_12 rfl (lv_at hl 1 rfl) ?_
  refine z_get (ref := RX5) (C := RX5) (T := TX5) (N := 7) hx hb hts hin5 hown hG t5 rfl 3 (by decide) (by decide +kernel) rfl rfl dX5_read_13 ?_
  refine lv_iload_n hx hb dX5_read_16 rfl (lv_at hl 0 rfl) ?_
  refine z_roVN (As := [.int (nI (zpl cw ln))]) (rest := []) (host := "CharmBracelets") (q := (RX4, TX4, 4)) S hG (c_X4_isText E (t := ad 289) (co := ad 290) (ln := ln) (cd := cd) (tt := (zpf cw (zpl cw ln)).1) (nb := (zpf cw (zpl cw ln)).2.1) (pos := (zpl cw ln)) (zpf_b cw (zpl cw ln)) ⟨by have := zpl_le cw ln; omega, hln⟩) 1 gX5_read_X4_isText_n228 (List.mem_of_getElem? (i := 58) rfl) (by decide +kernel) rfl kX4_isText.2 ⟨Nat.le_of_ble_eq_true rfl, Nat.le_of_ble_eq_true rfl⟩ ⟨Nat.zero_le _, Nat.zero_le _⟩ (⟨t9, t10⟩) rfl t9 rfl hl.1 rfl rfl (Nat.le_of_ble_eq_true rfl) dX5_read_17 ?_
  refine z_top (y := zb (zpt cw ln)) (by rw [zpt_e]) ?_
  refine z_bne (tgt := 26) hx hb dX5_read_20 (by decide) (fun c_4 => by exfalso; rw [hT] at c_4; cases c_4) (fun c_4 => ?_)
  refine lv_bipush (v := (-5)) hx hb dX5_read_23 (by decide) ?_
  exact hret _ _ _ _ _ hS (hz) dX5_read_25 (rfl) (zsc hp hX)

set_option maxHeartbeats 4000000 in
set_option maxRecDepth 100000 in
theorem c_X5_read_1 (E : zEnv) {ad : Nat → Nat} {nw sv : zS} {an : Bool} {hs : Nat → zS} {ct ln : Nat} {cd : Nat → Int32} {cw : Nat → Nat} (hok : zOk nw) (hinj : zInj ad) (hct : ct ≤ 5) (hcd : ∀ j, j < ln → 33 ≤ cw j ∧ cw j ≤ 126 ∧ cd j = nI (cw j)) (hln : ln ≤ 60) (hT : zpt cw ln = true) (hbx : zall (fun t => decide (nI (zcn (zpf cw ln).2.2 (nI (t + 1)) (zpf cw ln).1) ≤ zBx nw (t + 1))) 5 = false) : zWR E yX5_read wsX5_read 6 167 [.ref (ad 287)] (fun H => zCW E ad nw sv an hs ct ln cd H) (some (.int (-3))) (fun H => zCW E ad nw sv an hs ct ln cd H) (zAC ad) := by
  refine zWR.ofI (maxL := 3) rfl (Nat.le_of_ble_eq_true rfl) (fun p e s m args below meth c H Q hF hP hret ls hl => ?_)
  have S : CallFix p m c cX5_read 3 s args wsX5_read RX5 := hF.1
  have hG := hF.2
  obtain ⟨hx, hb, hml, hown, hts⟩ := id S
  have hS : va_S (zAC ad) H H [] := va_S.rf
  obtain ⟨locs, hlocs⟩ : ∃ x : List Loc, x = [] := ⟨_, rfl⟩
  rw [← hlocs] at hS ⊢
  have hz : H.size = H.size := rfl
  obtain ⟨π, tn, tt, nb, tf, hp, hX⟩ := hP
  obtain ⟨hA, hsv, hhs, t5, t8, t9, t10, t11⟩ := id hX
  obtain ⟨h0, h1, h2, h3, h4, h5, h6, h7, hR⟩ := id hA
  have he := zpt_h hT
  have hl : lv_has ls 3 [(0, .ref (ad 287))] := hl
  have hin4 : ∀ w ∈ u_ws RX4 TX4 4, w ∈ wsX5_read := by decide +kernel
  have hin5 : ∀ w ∈ u_ws RX5 TX5 7, w ∈ wsX5_read := by decide +kernel
  refine lv_aload_n hx hb dX5_read_0 rfl (lv_at hl 0 rfl) ?_
  refine z_get (ref := RX5) (C := RX5) (T := TX5) (N := 7) hx hb hts hin5 hown hG t5 rfl 3 (by decide) (by decide +kernel) rfl rfl dX5_read_1 ?_
  refine lv_aload_n hx hb dX5_read_4 rfl (lv_at hl 0 rfl) ?_
  refine z_get (ref := RX5) (C := RX5) (T := TX5) (N := 7) hx hb hts hin5 hown hG t5 rfl 4 (by decide) (by decide +kernel) rfl rfl dX5_read_5 ?_
  refine z_wrVN (As := [.ref (ad 291)]) (rest := []) (host := "CharmBracelets") (q := (RX4, TX4, 4)) S hG (c_X4_parse E (t := ad 289) (co := ad 290) (ln := ln) (cd := cd) (a := ad 291) (k := ad 292) (cw := cw) (hinj.ne (by omega) (by omega) (by omega)) ⟨hinj.ne (by omega) (by omega) (by omega), hinj.ne (by omega) (by omega) (by omega), hinj.ne (by omega) (by omega) (by omega), hinj.ne (by omega) (by omega) (by omega), hinj.ne (by omega) (by omega) (by omega)⟩ hcd hln) 1 gX5_read_X4_parse_n225 (List.mem_of_getElem? (i := 54) rfl) (by decide +kernel) rfl kX4_parse.2 ⟨Nat.le_of_ble_eq_true rfl, Nat.le_of_ble_eq_true rfl⟩ ⟨Nat.zero_le _, Nat.zero_le _⟩ (⟨⟨t9, t10⟩, t11⟩) rfl t9 rfl hl.1 rfl rfl (Nat.le_of_ble_eq_true rfl) dX5_read_8 hS (fun q h => h.elim (fun e => ⟨289, by decide, e⟩) (fun h => h.elim (fun e => ⟨291, by decide, e⟩) (fun e => ⟨292, by decide, e⟩))) (fun Hn locs h_2 q_1 o_3 hS => ?_)
  have hz : Hn.size = H.size := q_1.trans hz
  have hX := zX_tt hinj hp hX o_3 h_2.1 h_2.2
  rw [he] at hX
  obtain ⟨hA, hsv, hhs, t5, t8, t9, t10, t11⟩ := id hX
  obtain ⟨h0, h1, h2, h3, h4, h5, h6, h7, hR⟩ := id hA
  refine z_top (y := nI (ln)) (by rw [he]) ?_
  refine lv_istore_n (lv' := [(1, .int (nI (ln))), (0, .ref (ad 287))]) hx hb dX5_read_11 rfl hl (by decide) rfl (fun ls hl => ?_)
  refine lv_aload_n hx hb dX5_read_12 rfl (lv_at hl 1 rfl) ?_
  refine z_get (ref := RX5) (C := RX5) (T := TX5) (N := 7) hx hb hts hin5 hown hG t5 rfl 3 (by decide) (by decide +kernel) rfl rfl dX5_read_13 ?_
  refine lv_iload_n hx hb dX5_read_16 rfl (lv_at hl 0 rfl) ?_
  refine z_roVN (As := [.int (nI (ln))]) (rest := []) (host := "CharmBracelets") (q := (RX4, TX4, 4)) S hG (c_X4_isText E (t := ad 289) (co := ad 290) (ln := ln) (cd := cd) (tt := (zpf cw ln).1) (nb := (zpf cw ln).2.1) (pos := ln) (zpf_b cw ln) ⟨by have := zpl_le cw ln; omega, hln⟩) 1 gX5_read_X4_isText_n228 (List.mem_of_getElem? (i := 58) rfl) (by decide +kernel) rfl kX4_isText.2 ⟨Nat.le_of_ble_eq_true rfl, Nat.le_of_ble_eq_true rfl⟩ ⟨Nat.zero_le _, Nat.zero_le _⟩ (⟨t9, t10⟩) rfl t9 rfl hl.1 rfl rfl (Nat.le_of_ble_eq_true rfl) dX5_read_17 ?_
  refine z_top (y := zb (zpt cw ln)) (by rw [zpt_l hT]) ?_
  refine z_bne (tgt := 26) hx hb dX5_read_20 (by decide) (fun c_4 => ?_) (fun c_4 => by exfalso; rw [hT] at c_4; cases c_4)
  refine lv_aload_n hx hb dX5_read_26 rfl (lv_at hl 1 rfl) ?_
  refine lv_aload_n hx hb dX5_read_27 rfl (lv_at hl 1 rfl) ?_
  refine z_get (ref := RX5) (C := RX5) (T := TX5) (N := 7) hx hb hts hin5 hown hG t5 rfl 4 (by decide) (by decide +kernel) rfl rfl dX5_read_28 ?_
  refine z_roV (As := [.ref (ad 291)]) (rest := []) (q := (RX5, TX5, 7)) S hG (c_X5_addFromBox_t0 E hok (zpf_b cw ln).1 hbx) 1 gX5_read_X5_addFromBox rfl kX5_addFromBox ⟨Nat.le_of_ble_eq_true rfl, Nat.le_of_ble_eq_true rfl⟩ ⟨Nat.zero_le _, Nat.zero_le _⟩ (hX) rfl t5 rfl hl.1 rfl rfl (Nat.le_of_ble_eq_true rfl) dX5_read_31 ?_
  refine lv_istore_n (lv' := [(2, .int (-3)), (1, .int (nI (ln))), (0, .ref (ad 287))]) hx hb dX5_read_34 rfl hl (by decide) rfl (fun ls hl => ?_)
  refine lv_iload_n hx hb dX5_read_35 rfl (lv_at hl 0 rfl) ?_
  refine lv_if_lt (tgt := 47) hx hb dX5_read_36 (by decide) (fun c_5 => ?_) (fun c_5 => by exfalso; exact absurd c_5 (by decide))
  refine lv_iload_n hx hb dX5_read_47 rfl (lv_at hl 0 rfl) ?_
  exact hret _ _ _ _ _ hS (hz) dX5_read_48 (rfl) (zsc hp hX)

set_option maxHeartbeats 4000000 in
set_option maxRecDepth 100000 in
theorem c_X5_read_2 (E : zEnv) {ad : Nat → Nat} {nw sv : zS} {an : Bool} {hs : Nat → zS} {ct ln : Nat} {cd : Nat → Int32} {cw : Nat → Nat} (hok : zOk nw) (hinj : zInj ad) (hct : ct ≤ 5) (hcd : ∀ j, j < ln → 33 ≤ cw j ∧ cw j ≤ 126 ∧ cd j = nI (cw j)) (hln : ln ≤ 60) (hT : zpt cw ln = true) (hbx : zall (fun t => decide (nI (zcn (zpf cw ln).2.2 (nI (t + 1)) (zpf cw ln).1) ≤ zBx nw (t + 1))) 5 = true) (hfr : zfd (zSz nw) 6 = 6) : zWR E yX5_read wsX5_read 6 167 [.ref (ad 287)] (fun H => zCW E ad nw sv an hs ct ln cd H) (some (.int (-4))) (fun H => zCW E ad nw sv an hs ct ln cd H) (zAC ad) := by
  refine zWR.ofI (maxL := 3) rfl (Nat.le_of_ble_eq_true rfl) (fun p e s m args below meth c H Q hF hP hret ls hl => ?_)
  have S : CallFix p m c cX5_read 3 s args wsX5_read RX5 := hF.1
  have hG := hF.2
  obtain ⟨hx, hb, hml, hown, hts⟩ := id S
  have hS : va_S (zAC ad) H H [] := va_S.rf
  obtain ⟨locs, hlocs⟩ : ∃ x : List Loc, x = [] := ⟨_, rfl⟩
  rw [← hlocs] at hS ⊢
  have hz : H.size = H.size := rfl
  obtain ⟨π, tn, tt, nb, tf, hp, hX⟩ := hP
  obtain ⟨hA, hsv, hhs, t5, t8, t9, t10, t11⟩ := id hX
  obtain ⟨h0, h1, h2, h3, h4, h5, h6, h7, hR⟩ := id hA
  have he := zpt_h hT
  have hl : lv_has ls 3 [(0, .ref (ad 287))] := hl
  have hin4 : ∀ w ∈ u_ws RX4 TX4 4, w ∈ wsX5_read := by decide +kernel
  have hin5 : ∀ w ∈ u_ws RX5 TX5 7, w ∈ wsX5_read := by decide +kernel
  refine lv_aload_n hx hb dX5_read_0 rfl (lv_at hl 0 rfl) ?_
  refine z_get (ref := RX5) (C := RX5) (T := TX5) (N := 7) hx hb hts hin5 hown hG t5 rfl 3 (by decide) (by decide +kernel) rfl rfl dX5_read_1 ?_
  refine lv_aload_n hx hb dX5_read_4 rfl (lv_at hl 0 rfl) ?_
  refine z_get (ref := RX5) (C := RX5) (T := TX5) (N := 7) hx hb hts hin5 hown hG t5 rfl 4 (by decide) (by decide +kernel) rfl rfl dX5_read_5 ?_
  refine z_wrVN (As := [.ref (ad 291)]) (rest := []) (host := "CharmBracelets") (q := (RX4, TX4, 4)) S hG (c_X4_parse E (t := ad 289) (co := ad 290) (ln := ln) (cd := cd) (a := ad 291) (k := ad 292) (cw := cw) (hinj.ne (by omega) (by omega) (by omega)) ⟨hinj.ne (by omega) (by omega) (by omega), hinj.ne (by omega) (by omega) (by omega), hinj.ne (by omega) (by omega) (by omega), hinj.ne (by omega) (by omega) (by omega), hinj.ne (by omega) (by omega) (by omega)⟩ hcd hln) 1 gX5_read_X4_parse_n225 (List.mem_of_getElem? (i := 54) rfl) (by decide +kernel) rfl kX4_parse.2 ⟨Nat.le_of_ble_eq_true rfl, Nat.le_of_ble_eq_true rfl⟩ ⟨Nat.zero_le _, Nat.zero_le _⟩ (⟨⟨t9, t10⟩, t11⟩) rfl t9 rfl hl.1 rfl rfl (Nat.le_of_ble_eq_true rfl) dX5_read_8 hS (fun q h => h.elim (fun e => ⟨289, by decide, e⟩) (fun h => h.elim (fun e => ⟨291, by decide, e⟩) (fun e => ⟨292, by decide, e⟩))) (fun Hn locs h_2 q_1 o_3 hS => ?_)
  have hz : Hn.size = H.size := q_1.trans hz
  have hX := zX_tt hinj hp hX o_3 h_2.1 h_2.2
  rw [he] at hX
  obtain ⟨hA, hsv, hhs, t5, t8, t9, t10, t11⟩ := id hX
  obtain ⟨h0, h1, h2, h3, h4, h5, h6, h7, hR⟩ := id hA
  refine z_top (y := nI (ln)) (by rw [he]) ?_
  refine lv_istore_n (lv' := [(1, .int (nI (ln))), (0, .ref (ad 287))]) hx hb dX5_read_11 rfl hl (by decide) rfl (fun ls hl => ?_)
  refine lv_aload_n hx hb dX5_read_12 rfl (lv_at hl 1 rfl) ?_
  refine z_get (ref := RX5) (C := RX5) (T := TX5) (N := 7) hx hb hts hin5 hown hG t5 rfl 3 (by decide) (by decide +kernel) rfl rfl dX5_read_13 ?_
  refine lv_iload_n hx hb dX5_read_16 rfl (lv_at hl 0 rfl) ?_
  refine z_roVN (As := [.int (nI (ln))]) (rest := []) (host := "CharmBracelets") (q := (RX4, TX4, 4)) S hG (c_X4_isText E (t := ad 289) (co := ad 290) (ln := ln) (cd := cd) (tt := (zpf cw ln).1) (nb := (zpf cw ln).2.1) (pos := ln) (zpf_b cw ln) ⟨by have := zpl_le cw ln; omega, hln⟩) 1 gX5_read_X4_isText_n228 (List.mem_of_getElem? (i := 58) rfl) (by decide +kernel) rfl kX4_isText.2 ⟨Nat.le_of_ble_eq_true rfl, Nat.le_of_ble_eq_true rfl⟩ ⟨Nat.zero_le _, Nat.zero_le _⟩ (⟨t9, t10⟩) rfl t9 rfl hl.1 rfl rfl (Nat.le_of_ble_eq_true rfl) dX5_read_17 ?_
  refine z_top (y := zb (zpt cw ln)) (by rw [zpt_l hT]) ?_
  refine z_bne (tgt := 26) hx hb dX5_read_20 (by decide) (fun c_4 => ?_) (fun c_4 => by exfalso; rw [hT] at c_4; cases c_4)
  refine lv_aload_n hx hb dX5_read_26 rfl (lv_at hl 1 rfl) ?_
  refine lv_aload_n hx hb dX5_read_27 rfl (lv_at hl 1 rfl) ?_
  refine z_get (ref := RX5) (C := RX5) (T := TX5) (N := 7) hx hb hts hin5 hown hG t5 rfl 4 (by decide) (by decide +kernel) rfl rfl dX5_read_28 ?_
  refine z_roV (As := [.ref (ad 291)]) (rest := []) (q := (RX5, TX5, 7)) S hG (c_X5_addFromBox_t1 E hok (zpf_b cw ln).1 hbx hfr) 1 gX5_read_X5_addFromBox rfl kX5_addFromBox ⟨Nat.le_of_ble_eq_true rfl, Nat.le_of_ble_eq_true rfl⟩ ⟨Nat.zero_le _, Nat.zero_le _⟩ (hX) rfl t5 rfl hl.1 rfl rfl (Nat.le_of_ble_eq_true rfl) dX5_read_31 ?_
  refine lv_istore_n (lv' := [(2, .int (-4)), (1, .int (nI (ln))), (0, .ref (ad 287))]) hx hb dX5_read_34 rfl hl (by decide) rfl (fun ls hl => ?_)
  refine lv_iload_n hx hb dX5_read_35 rfl (lv_at hl 0 rfl) ?_
  refine lv_if_lt (tgt := 47) hx hb dX5_read_36 (by decide) (fun c_5 => ?_) (fun c_5 => by exfalso; exact absurd c_5 (by decide))
  refine lv_iload_n hx hb dX5_read_47 rfl (lv_at hl 0 rfl) ?_
  exact hret _ _ _ _ _ hS (hz) dX5_read_48 (rfl) (zsc hp hX)

set_option maxHeartbeats 4000000 in
set_option maxRecDepth 100000 in
theorem c_X5_read_3 (E : zEnv) {ad : Nat → Nat} {nw sv : zS} {an : Bool} {hs : Nat → zS} {ct ln : Nat} {cd : Nat → Int32} {cw : Nat → Nat} (hok : zOk nw) (hinj : zInj ad) (hct : ct ≤ 5) (hcd : ∀ j, j < ln → 33 ≤ cw j ∧ cw j ≤ 126 ∧ cd j = nI (cw j)) (hln : ln ≤ 60) (hT : zpt cw ln = true) (hbx : zall (fun t => decide (nI (zcn (zpf cw ln).2.2 (nI (t + 1)) (zpf cw ln).1) ≤ zBx nw (t + 1))) 5 = true) (hfr : zfd (zSz nw) 6 < 6) : zWR E yX5_read wsX5_read 6 167 [.ref (ad 287)] (fun H => zCW E ad nw sv an hs ct ln cd H) (some (.int (nI (zfd (zSz nw) 6)))) (fun H => zCW E ad (zsRg (zsBx nw (zto (zBx nw) (fun t => zcn (zpf cw ln).2.2 (nI t) (zpf cw ln).1) 5)) (zfd (zSz nw) 6) (zpf cw ln).1 (zpf cw ln).2.2) sv an (zrH hs ct nw) (zrC ct) 0 cd H) (zAC ad) := by
  refine zWR.ofI (maxL := 3) rfl (Nat.le_of_ble_eq_true rfl) (fun p e s m args below meth c H Q hF hP hret ls hl => ?_)
  have S : CallFix p m c cX5_read 3 s args wsX5_read RX5 := hF.1
  have hG := hF.2
  obtain ⟨hx, hb, hml, hown, hts⟩ := id S
  have hS : va_S (zAC ad) H H [] := va_S.rf
  obtain ⟨locs, hlocs⟩ : ∃ x : List Loc, x = [] := ⟨_, rfl⟩
  rw [← hlocs] at hS ⊢
  have hz : H.size = H.size := rfl
  obtain ⟨π, tn, tt, nb, tf, hp, hX⟩ := hP
  obtain ⟨hA, hsv, hhs, t5, t8, t9, t10, t11⟩ := id hX
  obtain ⟨h0, h1, h2, h3, h4, h5, h6, h7, hR⟩ := id hA
  have he := zpt_h hT
  have hl : lv_has ls 3 [(0, .ref (ad 287))] := hl
  have hin4 : ∀ w ∈ u_ws RX4 TX4 4, w ∈ wsX5_read := by decide +kernel
  have hin5 : ∀ w ∈ u_ws RX5 TX5 7, w ∈ wsX5_read := by decide +kernel
  refine lv_aload_n hx hb dX5_read_0 rfl (lv_at hl 0 rfl) ?_
  refine z_get (ref := RX5) (C := RX5) (T := TX5) (N := 7) hx hb hts hin5 hown hG t5 rfl 3 (by decide) (by decide +kernel) rfl rfl dX5_read_1 ?_
  refine lv_aload_n hx hb dX5_read_4 rfl (lv_at hl 0 rfl) ?_
  refine z_get (ref := RX5) (C := RX5) (T := TX5) (N := 7) hx hb hts hin5 hown hG t5 rfl 4 (by decide) (by decide +kernel) rfl rfl dX5_read_5 ?_
  refine z_wrVN (As := [.ref (ad 291)]) (rest := []) (host := "CharmBracelets") (q := (RX4, TX4, 4)) S hG (c_X4_parse E (t := ad 289) (co := ad 290) (ln := ln) (cd := cd) (a := ad 291) (k := ad 292) (cw := cw) (hinj.ne (by omega) (by omega) (by omega)) ⟨hinj.ne (by omega) (by omega) (by omega), hinj.ne (by omega) (by omega) (by omega), hinj.ne (by omega) (by omega) (by omega), hinj.ne (by omega) (by omega) (by omega), hinj.ne (by omega) (by omega) (by omega)⟩ hcd hln) 1 gX5_read_X4_parse_n225 (List.mem_of_getElem? (i := 54) rfl) (by decide +kernel) rfl kX4_parse.2 ⟨Nat.le_of_ble_eq_true rfl, Nat.le_of_ble_eq_true rfl⟩ ⟨Nat.zero_le _, Nat.zero_le _⟩ (⟨⟨t9, t10⟩, t11⟩) rfl t9 rfl hl.1 rfl rfl (Nat.le_of_ble_eq_true rfl) dX5_read_8 hS (fun q h => h.elim (fun e => ⟨289, by decide, e⟩) (fun h => h.elim (fun e => ⟨291, by decide, e⟩) (fun e => ⟨292, by decide, e⟩))) (fun Hn locs h_2 q_1 o_3 hS => ?_)
  have hz : Hn.size = H.size := q_1.trans hz
  have hX := zX_tt hinj hp hX o_3 h_2.1 h_2.2
  rw [he] at hX
  obtain ⟨hA, hsv, hhs, t5, t8, t9, t10, t11⟩ := id hX
  obtain ⟨h0, h1, h2, h3, h4, h5, h6, h7, hR⟩ := id hA
  refine z_top (y := nI (ln)) (by rw [he]) ?_
  refine lv_istore_n (lv' := [(1, .int (nI (ln))), (0, .ref (ad 287))]) hx hb dX5_read_11 rfl hl (by decide) rfl (fun ls hl => ?_)
  refine lv_aload_n hx hb dX5_read_12 rfl (lv_at hl 1 rfl) ?_
  refine z_get (ref := RX5) (C := RX5) (T := TX5) (N := 7) hx hb hts hin5 hown hG t5 rfl 3 (by decide) (by decide +kernel) rfl rfl dX5_read_13 ?_
  refine lv_iload_n hx hb dX5_read_16 rfl (lv_at hl 0 rfl) ?_
  refine z_roVN (As := [.int (nI (ln))]) (rest := []) (host := "CharmBracelets") (q := (RX4, TX4, 4)) S hG (c_X4_isText E (t := ad 289) (co := ad 290) (ln := ln) (cd := cd) (tt := (zpf cw ln).1) (nb := (zpf cw ln).2.1) (pos := ln) (zpf_b cw ln) ⟨by have := zpl_le cw ln; omega, hln⟩) 1 gX5_read_X4_isText_n228 (List.mem_of_getElem? (i := 58) rfl) (by decide +kernel) rfl kX4_isText.2 ⟨Nat.le_of_ble_eq_true rfl, Nat.le_of_ble_eq_true rfl⟩ ⟨Nat.zero_le _, Nat.zero_le _⟩ (⟨t9, t10⟩) rfl t9 rfl hl.1 rfl rfl (Nat.le_of_ble_eq_true rfl) dX5_read_17 ?_
  refine z_top (y := zb (zpt cw ln)) (by rw [zpt_l hT]) ?_
  refine z_bne (tgt := 26) hx hb dX5_read_20 (by decide) (fun c_4 => ?_) (fun c_4 => by exfalso; rw [hT] at c_4; cases c_4)
  refine lv_aload_n hx hb dX5_read_26 rfl (lv_at hl 1 rfl) ?_
  refine lv_aload_n hx hb dX5_read_27 rfl (lv_at hl 1 rfl) ?_
  refine z_get (ref := RX5) (C := RX5) (T := TX5) (N := 7) hx hb hts hin5 hown hG t5 rfl 4 (by decide) (by decide +kernel) rfl rfl dX5_read_28 ?_
  refine z_wrV (As := [.ref (ad 291)]) (rest := []) (q := (RX5, TX5, 7)) S hG (c_X5_addFromBox_t2 E hinj hp hct hok (zpf_b cw ln).1 hbx hfr) 1 gX5_read_X5_addFromBox rfl kX5_addFromBox ⟨Nat.le_of_ble_eq_true rfl, Nat.le_of_ble_eq_true rfl⟩ ⟨Nat.zero_le _, Nat.zero_le _⟩ (hX) rfl t5 rfl hl.1 rfl rfl (Nat.le_of_ble_eq_true rfl) dX5_read_31 hS (fun _ h => h) (fun Hn locs h_6 q_5 o_7 hS => ?_)
  have hz : Hn.size = H.size := q_5.trans hz
  obtain ⟨π, hp, hX⟩ := h_6
  obtain ⟨hA, hsv, hhs, t5, t8, t9, t10, t11⟩ := id hX
  obtain ⟨h0, h1, h2, h3, h4, h5, h6, h7, hR⟩ := id hA
  refine lv_istore_n (lv' := [(2, .int (nI (zfd (zSz nw) 6))), (1, .int (nI (ln))), (0, .ref (ad 287))]) hx hb dX5_read_34 rfl hl (by decide) rfl (fun ls hl => ?_)
  refine lv_iload_n hx hb dX5_read_35 rfl (lv_at hl 0 rfl) ?_
  refine z_flt (tgt := 47) hx hb dX5_read_36 (by decide) (by omega) ?_
  refine lv_aload_n hx hb dX5_read_39 rfl (lv_at hl 2 rfl) ?_
  refine z_get (ref := RX5) (C := RX5) (T := TX5) (N := 7) hx hb hts hin5 hown hG t5 rfl 3 (by decide) (by decide +kernel) rfl rfl dX5_read_40 ?_
  refine lv_iconst (v := nI (0)) hx hb dX5_read_43 (by decide) ?_
  refine z_putN (own := RX5) (ref := RX4) (host := "CharmBracelets") (C := RX4) (T := TX4) (N := 4) hx hb hts hin4 tyX4_ok nmX4 hown hG t9 rfl 0 (by decide) (List.mem_of_getElem? (i := 14) rfl) rfl rfl rfl rfl (Nat.le_of_ble_eq_true rfl) hS (⟨289, by decide, rfl⟩) dX5_read_44 (fun Hn locs h_9 o_10 hS => ?_)
  have hX := zX_tx (ln' := 0) (tt' := (zpf cw ln).1) (nb' := (zpf cw ln).2.1) hinj hp hX o_10.2 h_9
  have hz : Hn.size = H.size := o_10.1.trans hz
  obtain ⟨hA, hsv, hhs, t5, t8, t9, t10, t11⟩ := id hX
  obtain ⟨h0, h1, h2, h3, h4, h5, h6, h7, hR⟩ := id hA
  refine lv_iload_n hx hb dX5_read_47 rfl (lv_at hl 0 rfl) ?_
  exact hret _ _ _ _ _ hS (hz) dX5_read_48 (rfl) (zsc hp hX)
