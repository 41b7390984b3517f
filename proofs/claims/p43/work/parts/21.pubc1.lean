set_option maxHeartbeats 4000000 in
set_option maxRecDepth 100000 in
theorem c_X5_fill_0 (E : zEnv) {ad : Nat → Nat} {nw sv : zS} {an : Bool} {hs : Nat → zS} {ct ln : Nat} {cd : Nat → Int32} {x y : Int32} (hok : zOk nw) (hinj : zInj ad) (hct : ct ≤ 5) (hx1 : zin x 1 5 = false) : zWR E yX5_fill wsX5_fill 5 145 [.ref (ad 287), .int (x), .int (y)] (fun H => zCW E ad nw sv an hs ct ln cd H) (some (.int (-1))) (fun H => zCW E ad nw sv an hs ct ln cd H) (zAC ad) := by
  refine zWR.ofI (maxL := 4) rfl (Nat.le_of_ble_eq_true rfl) (fun p e s m args below meth c H Q hF hP hret ls hl => ?_)
  have S : CallFix p m c cX5_fill 4 s args wsX5_fill RX5 := hF.1
  have hG := hF.2
  obtain ⟨hx, hb, hml, hown, hts⟩ := id S
  have hS : va_S (zAC ad) H H [] := va_S.rf
  obtain ⟨locs, hlocs⟩ : ∃ x : List Loc, x = [] := ⟨_, rfl⟩
  rw [← hlocs] at hS ⊢
  have hz : H.size = H.size := rfl
  obtain ⟨π, tn, tt, nb, tf, hp, hX⟩ := hP
  obtain ⟨hA, hsv, hhs, t5, t8, t9, t10, t11⟩ := id hX
  obtain ⟨h0, h1, h2, h3, h4, h5, h6, h7, hR⟩ := id hA
  have hl : lv_has ls 4 [(0, .ref (ad 287)), (1, .int (x)), (2, .int (y))] := hl
  have hin3 : ∀ w ∈ u_ws RX3 TX3 5, w ∈ wsX5_fill := by decide +kernel
  have hin5 : ∀ w ∈ u_ws RX5 TX5 7, w ∈ wsX5_fill := by decide +kernel
  refine lv_iload_n hx hb dX5_fill_0 rfl (lv_at hl 1 rfl) ?_
  refine z_roSX (As := [.int (x)]) (rest := []) S hG (c_X5_isCharm E) 1 gX5_fill_X5_isCharm rfl kX5_isCharm.2 ⟨Nat.le_of_ble_eq_true rfl, Nat.le_of_ble_eq_true rfl⟩ ⟨Nat.zero_le _, Nat.zero_le _⟩ (trivial) rfl hl.1 rfl rfl (Nat.le_of_ble_eq_true rfl) dX5_fill_1 ?_
  refine z_bne (tgt := 9) hx hb dX5_fill_4 (by decide) (fun c_1 => by exfalso; rw [hx1] at c_1; cases c_1) (fun c_1 => ?_)
  refine lv_iconst (v := (-1)) hx hb dX5_fill_7 (by decide) ?_
  exact hret _ _ _ _ _ hS (hz) dX5_fill_8 (rfl) (zsc hp hX)

set_option maxHeartbeats 4000000 in
set_option maxRecDepth 100000 in
theorem c_X5_fill_1 (E : zEnv) {ad : Nat → Nat} {nw sv : zS} {an : Bool} {hs : Nat → zS} {ct ln : Nat} {cd : Nat → Int32} {j : Nat} {y : Int32} (hok : zOk nw) (hinj : zInj ad) (hct : ct ≤ 5) (hj : 1 ≤ j ∧ j ≤ 5) (hy : zin y 0 99 = false) : zWR E yX5_fill wsX5_fill 5 145 [.ref (ad 287), .int (nI (j)), .int (y)] (fun H => zCW E ad nw sv an hs ct ln cd H) (some (.int (-2))) (fun H => zCW E ad nw sv an hs ct ln cd H) (zAC ad) := by
  refine zWR.ofI (maxL := 4) rfl (Nat.le_of_ble_eq_true rfl) (fun p e s m args below meth c H Q hF hP hret ls hl => ?_)
  have S : CallFix p m c cX5_fill 4 s args wsX5_fill RX5 := hF.1
  have hG := hF.2
  obtain ⟨hx, hb, hml, hown, hts⟩ := id S
  have hS : va_S (zAC ad) H H [] := va_S.rf
  obtain ⟨locs, hlocs⟩ : ∃ x : List Loc, x = [] := ⟨_, rfl⟩
  rw [← hlocs] at hS ⊢
  have hz : H.size = H.size := rfl
  obtain ⟨π, tn, tt, nb, tf, hp, hX⟩ := hP
  obtain ⟨hA, hsv, hhs, t5, t8, t9, t10, t11⟩ := id hX
  obtain ⟨h0, h1, h2, h3, h4, h5, h6, h7, hR⟩ := id hA
  have hl : lv_has ls 4 [(0, .ref (ad 287)), (1, .int (nI (j))), (2, .int (y))] := hl
  have hin3 : ∀ w ∈ u_ws RX3 TX3 5, w ∈ wsX5_fill := by decide +kernel
  have hin5 : ∀ w ∈ u_ws RX5 TX5 7, w ∈ wsX5_fill := by decide +kernel
  refine lv_iload_n hx hb dX5_fill_0 rfl (lv_at hl 1 rfl) ?_
  refine z_roSX (As := [.int (nI (j))]) (rest := []) S hG (c_X5_isCharm E) 1 gX5_fill_X5_isCharm rfl kX5_isCharm.2 ⟨Nat.le_of_ble_eq_true rfl, Nat.le_of_ble_eq_true rfl⟩ ⟨Nat.zero_le _, Nat.zero_le _⟩ (trivial) rfl hl.1 rfl rfl (Nat.le_of_ble_eq_true rfl) dX5_fill_1 ?_
  refine z_bne (tgt := 9) hx hb dX5_fill_4 (by decide) (fun c_1 => ?_) (fun c_1 => by exfalso; rw [zin_y hj.1 hj.2 (by decide)] at c_1; cases c_1)
  refine lv_iload_n hx hb dX5_fill_9 rfl (lv_at hl 2 rfl) ?_
  refine lv_if_lt (tgt := 19) hx hb dX5_fill_10 (by decide) (fun c_2 => ?_) (fun c_2 => ?_)
  · refine lv_bipush (v := (-2)) hx hb dX5_fill_19 (by decide) ?_
    exact hret _ _ _ _ _ hS (hz) dX5_fill_21 (rfl) (zsc hp hX)
  · refine lv_iload_n hx hb dX5_fill_13 rfl (lv_at hl 2 rfl) ?_
    refine lv_bipush (v := nI (99)) hx hb dX5_fill_14 (by decide) ?_
    refine lv_icmp_le (tgt := 22) hx hb dX5_fill_16 (by decide) (fun c_3 => by exfalso; exact zin_c1 hy c_2 c_3) (fun c_3 => ?_)
    refine lv_bipush (v := (-2)) hx hb dX5_fill_19 (by decide) ?_
    exact hret _ _ _ _ _ hS (hz) dX5_fill_21 (rfl) (zsc hp hX)

set_option maxHeartbeats 4000000 in
set_option maxRecDepth 100000 in
theorem c_X5_fill_2 (E : zEnv) {ad : Nat → Nat} {nw sv : zS} {an : Bool} {hs : Nat → zS} {ct ln : Nat} {cd : Nat → Int32} {j w : Nat} (hok : zOk nw) (hinj : zInj ad) (hct : ct ≤ 5) (hj : 1 ≤ j ∧ j ≤ 5) (hw : 0 ≤ w ∧ w ≤ 99) : zWR E yX5_fill wsX5_fill 5 145 [.ref (ad 287), .int (nI (j)), .int (nI (w))] (fun H => zCW E ad nw sv an hs ct ln cd H) (some (.int (zBx nw j))) (fun H => zCW E ad (zsBx nw (upd (zBx nw) j (nI w))) sv an (zrH hs ct nw) (zrC ct) ln cd H) (zAC ad) := by
  refine zWR.ofI (maxL := 4) rfl (Nat.le_of_ble_eq_true rfl) (fun p e s m args below meth c H Q hF hP hret ls hl => ?_)
  have S : CallFix p m c cX5_fill 4 s args wsX5_fill RX5 := hF.1
  have hG := hF.2
  obtain ⟨hx, hb, hml, hown, hts⟩ := id S
  have hS : va_S (zAC ad) H H [] := va_S.rf
  obtain ⟨locs, hlocs⟩ : ∃ x : List Loc, x = [] := ⟨_, rfl⟩
  rw [← hlocs] at hS ⊢
  have hz : H.size = H.size := rfl
  obtain ⟨π, tn, tt, nb, tf, hp, hX⟩ := hP
  obtain ⟨hA, hsv, hhs, t5, t8, t9, t10, t11⟩ := id hX
  obtain ⟨h0, h1, h2, h3, h4, h5, h6, h7, hR⟩ := id hA
  have hl : lv_has ls 4 [(0, .ref (ad 287)), (1, .int (nI (j))), (2, .int (nI (w)))] := hl
  have hin3 : ∀ w ∈ u_ws RX3 TX3 5, w ∈ wsX5_fill := by decide +kernel
  have hin5 : ∀ w ∈ u_ws RX5 TX5 7, w ∈ wsX5_fill := by decide +kernel
  refine lv_iload_n hx hb dX5_fill_0 rfl (lv_at hl 1 rfl) ?_
  refine z_roSX (As := [.int (nI (j))]) (rest := []) S hG (c_X5_isCharm E) 1 gX5_fill_X5_isCharm rfl kX5_isCharm.2 ⟨Nat.le_of_ble_eq_true rfl, Nat.le_of_ble_eq_true rfl⟩ ⟨Nat.zero_le _, Nat.zero_le _⟩ (trivial) rfl hl.1 rfl rfl (Nat.le_of_ble_eq_true rfl) dX5_fill_1 ?_
  refine z_bne (tgt := 9) hx hb dX5_fill_4 (by decide) (fun c_1 => ?_) (fun c_1 => by exfalso; rw [zin_y hj.1 hj.2 (by decide)] at c_1; cases c_1)
  refine lv_iload_n hx hb dX5_fill_9 rfl (lv_at hl 2 rfl) ?_
  refine z_flt (tgt := 19) hx hb dX5_fill_10 (by decide) (by omega) ?_
  refine lv_iload_n hx hb dX5_fill_13 rfl (lv_at hl 2 rfl) ?_
  refine lv_bipush (v := nI (99)) hx hb dX5_fill_14 (by decide) ?_
  refine z_cle (tgt := 22) hx hb dX5_fill_16 (by decide) ⟨by omega, by omega⟩ (fun c_3 => ?_) (fun c_3 => by exfalso; omega)
  refine lv_aload_n hx hb dX5_fill_22 rfl (lv_at hl 0 rfl) ?_
  refine z_wrV (As := []) (rest := []) (q := (RX5, TX5, 7)) S hG (c_X5_record E hinj hp hct) 0 gX5_fill_X5_record rfl kX5_record ⟨Nat.le_of_ble_eq_true rfl, Nat.le_of_ble_eq_true rfl⟩ ⟨Nat.zero_le _, Nat.zero_le _⟩ (hX) rfl t5 rfl hl.1 rfl rfl (Nat.le_of_ble_eq_true rfl) dX5_fill_23 hS (fun _ h => h) (fun Hn locs h_5 q_4 o_6 hS => ?_)
  have hz : Hn.size = H.size := q_4.trans hz
  obtain ⟨π, hp, hX⟩ := h_5
  obtain ⟨hA, hsv, hhs, t5, t8, t9, t10, t11⟩ := id hX
  obtain ⟨h0, h1, h2, h3, h4, h5, h6, h7, hR⟩ := id hA
  refine lv_aload_n hx hb dX5_fill_26 rfl (lv_at hl 0 rfl) ?_
  refine z_get (ref := RX5) (C := RX5) (T := TX5) (N := 7) hx hb hts hin5 hown hG t5 rfl 0 (by decide) (by decide +kernel) rfl rfl dX5_fill_27 ?_
  refine z_getN (own := RX5) (ref := RX3) (host := "CharmBracelets") (C := RX3) (T := TX3) (N := 5) hx hb hts hin3 hown hG h0 rfl 0 (by decide) (List.mem_of_getElem? (i := 8) rfl) rfl rfl dX5_fill_30 ?_
  refine lv_iload_n hx hb dX5_fill_33 rfl (lv_at hl 1 rfl) ?_
  refine z_iald (j := j) hx hb hG h1 ⟨by omega, by omega⟩ dX5_fill_34 ?_
  refine lv_istore_n (lv' := [(3, .int ((zBx nw) j)), (0, .ref (ad 287)), (1, .int (nI (j))), (2, .int (nI (w)))]) hx hb dX5_fill_35 rfl hl (by decide) rfl (fun ls hl => ?_)
  refine lv_aload_n hx hb dX5_fill_36 rfl (lv_at hl 1 rfl) ?_
  refine z_get (ref := RX5) (C := RX5) (T := TX5) (N := 7) hx hb hts hin5 hown hG t5 rfl 0 (by decide) (by decide +kernel) rfl rfl dX5_fill_37 ?_
  refine z_getN (own := RX5) (ref := RX3) (host := "CharmBracelets") (C := RX3) (T := TX3) (N := 5) hx hb hts hin3 hown hG h0 rfl 0 (by decide) (List.mem_of_getElem? (i := 8) rfl) rfl rfl dX5_fill_40 ?_
  refine lv_iload_n hx hb dX5_fill_43 rfl (lv_at hl 2 rfl) ?_
  refine lv_iload_n hx hb dX5_fill_44 rfl (lv_at hl 3 rfl) ?_
  refine z_iast (j := j) hx hb hG h1 ⟨by omega, by omega⟩ hS (⟨1, by decide, rfl⟩) dX5_fill_45 (fun Hn locs h_7 o_8 hS => ?_)
  have hA1 := zSt_bx hA hinj (by decide) o_8.2 (h_7)
  have hX := zX_now hinj hp hX (fun q hq => o_8.2 q (hq (0 + 1) (by decide))) hA1
  have hz : Hn.size = H.size := o_8.1.trans hz
  obtain ⟨hA, hsv, hhs, t5, t8, t9, t10, t11⟩ := id hX
  obtain ⟨h0, h1, h2, h3, h4, h5, h6, h7, hR⟩ := id hA
  refine lv_iload_n hx hb dX5_fill_46 rfl (lv_at hl 0 rfl) ?_
  exact hret _ _ _ _ _ hS (hz) dX5_fill_47 (rfl) (zsc hp hX)

set_option maxHeartbeats 4000000 in
set_option maxRecDepth 100000 in
theorem c_X5_weigh_0 (E : zEnv) {ad : Nat → Nat} {nw sv : zS} {an : Bool} {hs : Nat → zS} {ct ln : Nat} {cd : Nat → Int32} {x y : Int32} (hok : zOk nw) (hinj : zInj ad) (hct : ct ≤ 5) (hx1 : zin x 1 5 = false) : zWR E yX5_weigh wsX5_weigh 5 145 [.ref (ad 287), .int (x), .int (y)] (fun H => zCW E ad nw sv an hs ct ln cd H) (some (.int (-1))) (fun H => zCW E ad nw sv an hs ct ln cd H) (zAC ad) := by
  refine zWR.ofI (maxL := 4) rfl (Nat.le_of_ble_eq_true rfl) (fun p e s m args below meth c H Q hF hP hret ls hl => ?_)
  have S : CallFix p m c cX5_weigh 4 s args wsX5_weigh RX5 := hF.1
  have hG := hF.2
  obtain ⟨hx, hb, hml, hown, hts⟩ := id S
  have hS : va_S (zAC ad) H H [] := va_S.rf
  obtain ⟨locs, hlocs⟩ : ∃ x : List Loc, x = [] := ⟨_, rfl⟩
  rw [← hlocs] at hS ⊢
  have hz : H.size = H.size := rfl
  obtain ⟨π, tn, tt, nb, tf, hp, hX⟩ := hP
  obtain ⟨hA, hsv, hhs, t5, t8, t9, t10, t11⟩ := id hX
  obtain ⟨h0, h1, h2, h3, h4, h5, h6, h7, hR⟩ := id hA
  have hl : lv_has ls 4 [(0, .ref (ad 287)), (1, .int (x)), (2, .int (y))] := hl
  have hin3 : ∀ w ∈ u_ws RX3 TX3 5, w ∈ wsX5_weigh := by decide +kernel
  have hin5 : ∀ w ∈ u_ws RX5 TX5 7, w ∈ wsX5_weigh := by decide +kernel
  refine lv_iload_n hx hb dX5_weigh_0 rfl (lv_at hl 1 rfl) ?_
  refine z_roSX (As := [.int (x)]) (rest := []) S hG (c_X5_isCharm E) 1 gX5_weigh_X5_isCharm rfl kX5_isCharm.2 ⟨Nat.le_of_ble_eq_true rfl, Nat.le_of_ble_eq_true rfl⟩ ⟨Nat.zero_le _, Nat.zero_le _⟩ (trivial) rfl hl.1 rfl rfl (Nat.le_of_ble_eq_true rfl) dX5_weigh_1 ?_
  refine z_bne (tgt := 9) hx hb dX5_weigh_4 (by decide) (fun c_1 => by exfalso; rw [hx1] at c_1; cases c_1) (fun c_1 => ?_)
  refine lv_iconst (v := (-1)) hx hb dX5_weigh_7 (by decide) ?_
  exact hret _ _ _ _ _ hS (hz) dX5_weigh_8 (rfl) (zsc hp hX)

set_option maxHeartbeats 4000000 in
set_option maxRecDepth 100000 in
theorem c_X5_weigh_1 (E : zEnv) {ad : Nat → Nat} {nw sv : zS} {an : Bool} {hs : Nat → zS} {ct ln : Nat} {cd : Nat → Int32} {j : Nat} {y : Int32} (hok : zOk nw) (hinj : zInj ad) (hct : ct ≤ 5) (hj : 1 ≤ j ∧ j ≤ 5) (hy : zin y 1 50 = false) : zWR E yX5_weigh wsX5_weigh 5 145 [.ref (ad 287), .int (nI (j)), .int (y)] (fun H => zCW E ad nw sv an hs ct ln cd H) (some (.int (-2))) (fun H => zCW E ad nw sv an hs ct ln cd H) (zAC ad) := by
  refine zWR.ofI (maxL := 4) rfl (Nat.le_of_ble_eq_true rfl) (fun p e s m args below meth c H Q hF hP hret ls hl => ?_)
  have S : CallFix p m c cX5_weigh 4 s args wsX5_weigh RX5 := hF.1
  have hG := hF.2
  obtain ⟨hx, hb, hml, hown, hts⟩ := id S
  have hS : va_S (zAC ad) H H [] := va_S.rf
  obtain ⟨locs, hlocs⟩ : ∃ x : List Loc, x = [] := ⟨_, rfl⟩
  rw [← hlocs] at hS ⊢
  have hz : H.size = H.size := rfl
  obtain ⟨π, tn, tt, nb, tf, hp, hX⟩ := hP
  obtain ⟨hA, hsv, hhs, t5, t8, t9, t10, t11⟩ := id hX
  obtain ⟨h0, h1, h2, h3, h4, h5, h6, h7, hR⟩ := id hA
  have hl : lv_has ls 4 [(0, .ref (ad 287)), (1, .int (nI (j))), (2, .int (y))] := hl
  have hin3 : ∀ w ∈ u_ws RX3 TX3 5, w ∈ wsX5_weigh := by decide +kernel
  have hin5 : ∀ w ∈ u_ws RX5 TX5 7, w ∈ wsX5_weigh := by decide +kernel
  refine lv_iload_n hx hb dX5_weigh_0 rfl (lv_at hl 1 rfl) ?_
  refine z_roSX (As := [.int (nI (j))]) (rest := []) S hG (c_X5_isCharm E) 1 gX5_weigh_X5_isCharm rfl kX5_isCharm.2 ⟨Nat.le_of_ble_eq_true rfl, Nat.le_of_ble_eq_true rfl⟩ ⟨Nat.zero_le _, Nat.zero_le _⟩ (trivial) rfl hl.1 rfl rfl (Nat.le_of_ble_eq_true rfl) dX5_weigh_1 ?_
  refine z_bne (tgt := 9) hx hb dX5_weigh_4 (by decide) (fun c_1 => ?_) (fun c_1 => by exfalso; rw [zin_y hj.1 hj.2 (by decide)] at c_1; cases c_1)
  refine lv_iload_n hx hb dX5_weigh_9 rfl (lv_at hl 2 rfl) ?_
  refine lv_iconst (v := nI (1)) hx hb dX5_weigh_10 (by decide) ?_
  refine lv_icmp_lt (tgt := 20) hx hb dX5_weigh_11 (by decide) (fun c_2 => ?_) (fun c_2 => ?_)
  · refine lv_bipush (v := (-2)) hx hb dX5_weigh_20 (by decide) ?_
    exact hret _ _ _ _ _ hS (hz) dX5_weigh_22 (rfl) (zsc hp hX)
  · refine lv_iload_n hx hb dX5_weigh_14 rfl (lv_at hl 2 rfl) ?_
    refine lv_bipush (v := nI (50)) hx hb dX5_weigh_15 (by decide) ?_
    refine lv_icmp_le (tgt := 23) hx hb dX5_weigh_17 (by decide) (fun c_3 => by exfalso; exact zin_c1 hy c_2 c_3) (fun c_3 => ?_)
    refine lv_bipush (v := (-2)) hx hb dX5_weigh_20 (by decide) ?_
    exact hret _ _ _ _ _ hS (hz) dX5_weigh_22 (rfl) (zsc hp hX)

set_option maxHeartbeats 4000000 in
set_option maxRecDepth 100000 in
theorem c_X5_weigh_2 (E : zEnv) {ad : Nat → Nat} {nw sv : zS} {an : Bool} {hs : Nat → zS} {ct ln : Nat} {cd : Nat → Int32} {j w : Nat} (hok : zOk nw) (hinj : zInj ad) (hct : ct ≤ 5) (hj : 1 ≤ j ∧ j ≤ 5) (hw : 1 ≤ w ∧ w ≤ 50) : zWR E yX5_weigh wsX5_weigh 5 145 [.ref (ad 287), .int (nI (j)), .int (nI (w))] (fun H => zCW E ad nw sv an hs ct ln cd H) (some (.int (zWt nw j))) (fun H => zCW E ad (zsWt nw (upd (zWt nw) j (nI w))) sv an (zrH hs ct nw) (zrC ct) ln cd H) (zAC ad) := by
  refine zWR.ofI (maxL := 4) rfl (Nat.le_of_ble_eq_true rfl) (fun p e s m args below meth c H Q hF hP hret ls hl => ?_)
  have S : CallFix p m c cX5_weigh 4 s args wsX5_weigh RX5 := hF.1
  have hG := hF.2
  obtain ⟨hx, hb, hml, hown, hts⟩ := id S
  have hS : va_S (zAC ad) H H [] := va_S.rf
  obtain ⟨locs, hlocs⟩ : ∃ x : List Loc, x = [] := ⟨_, rfl⟩
  rw [← hlocs] at hS ⊢
  have hz : H.size = H.size := rfl
  obtain ⟨π, tn, tt, nb, tf, hp, hX⟩ := hP
  obtain ⟨hA, hsv, hhs, t5, t8, t9, t10, t11⟩ := id hX
  obtain ⟨h0, h1, h2, h3, h4, h5, h6, h7, hR⟩ := id hA
  have hl : lv_has ls 4 [(0, .ref (ad 287)), (1, .int (nI (j))), (2, .int (nI (w)))] := hl
  have hin3 : ∀ w ∈ u_ws RX3 TX3 5, w ∈ wsX5_weigh := by decide +kernel
  have hin5 : ∀ w ∈ u_ws RX5 TX5 7, w ∈ wsX5_weigh := by decide +kernel
  refine lv_iload_n hx hb dX5_weigh_0 rfl (lv_at hl 1 rfl) ?_
  refine z_roSX (As := [.int (nI (j))]) (rest := []) S hG (c_X5_isCharm E) 1 gX5_weigh_X5_isCharm rfl kX5_isCharm.2 ⟨Nat.le_of_ble_eq_true rfl, Nat.le_of_ble_eq_true rfl⟩ ⟨Nat.zero_le _, Nat.zero_le _⟩ (trivial) rfl hl.1 rfl rfl (Nat.le_of_ble_eq_true rfl) dX5_weigh_1 ?_
  refine z_bne (tgt := 9) hx hb dX5_weigh_4 (by decide) (fun c_1 => ?_) (fun c_1 => by exfalso; rw [zin_y hj.1 hj.2 (by decide)] at c_1; cases c_1)
  refine lv_iload_n hx hb dX5_weigh_9 rfl (lv_at hl 2 rfl) ?_
  refine lv_iconst (v := nI (1)) hx hb dX5_weigh_10 (by decide) ?_
  refine z_clt (tgt := 20) hx hb dX5_weigh_11 (by decide) ⟨by omega, by omega⟩ (fun c_2 => by exfalso; omega) (fun c_2 => ?_)
  refine lv_iload_n hx hb dX5_weigh_14 rfl (lv_at hl 2 rfl) ?_
  refine lv_bipush (v := nI (50)) hx hb dX5_weigh_15 (by decide) ?_
  refine z_cle (tgt := 23) hx hb dX5_weigh_17 (by decide) ⟨by omega, by omega⟩ (fun c_3 => ?_) (fun c_3 => by exfalso; omega)
  refine lv_aload_n hx hb dX5_weigh_23 rfl (lv_at hl 0 rfl) ?_
  refine z_wrV (As := []) (rest := []) (q := (RX5, TX5, 7)) S hG (c_X5_record E hinj hp hct) 0 gX5_weigh_X5_record rfl kX5_record ⟨Nat.le_of_ble_eq_true rfl, Nat.le_of_ble_eq_true rfl⟩ ⟨Nat.zero_le _, Nat.zero_le _⟩ (hX) rfl t5 rfl hl.1 rfl rfl (Nat.le_of_ble_eq_true rfl) dX5_weigh_24 hS (fun _ h => h) (fun Hn locs h_5 q_4 o_6 hS => ?_)
  have hz : Hn.size = H.size := q_4.trans hz
  obtain ⟨π, hp, hX⟩ := h_5
  obtain ⟨hA, hsv, hhs, t5, t8, t9, t10, t11⟩ := id hX
  obtain ⟨h0, h1, h2, h3, h4, h5, h6, h7, hR⟩ := id hA
  refine lv_aload_n hx hb dX5_weigh_27 rfl (lv_at hl 0 rfl) ?_
  refine z_get (ref := RX5) (C := RX5) (T := TX5) (N := 7) hx hb hts hin5 hown hG t5 rfl 0 (by decide) (by decide +kernel) rfl rfl dX5_weigh_28 ?_
  refine z_getN (own := RX5) (ref := RX3) (host := "CharmBracelets") (C := RX3) (T := TX3) (N := 5) hx hb hts hin3 hown hG h0 rfl 1 (by decide) (List.mem_of_getElem? (i := 9) rfl) rfl rfl dX5_weigh_31 ?_
  refine lv_iload_n hx hb dX5_weigh_34 rfl (lv_at hl 1 rfl) ?_
  refine z_iald (j := j) hx hb hG h2 ⟨by omega, by omega⟩ dX5_weigh_35 ?_
  refine lv_istore_n (lv' := [(3, .int ((zWt nw) j)), (0, .ref (ad 287)), (1, .int (nI (j))), (2, .int (nI (w)))]) hx hb dX5_weigh_36 rfl hl (by decide) rfl (fun ls hl => ?_)
  refine lv_aload_n hx hb dX5_weigh_37 rfl (lv_at hl 1 rfl) ?_
  refine z_get (ref := RX5) (C := RX5) (T := TX5) (N := 7) hx hb hts hin5 hown hG t5 rfl 0 (by decide) (by decide +kernel) rfl rfl dX5_weigh_38 ?_
  refine z_getN (own := RX5) (ref := RX3) (host := "CharmBracelets") (C := RX3) (T := TX3) (N := 5) hx hb hts hin3 hown hG h0 rfl 1 (by decide) (List.mem_of_getElem? (i := 9) rfl) rfl rfl dX5_weigh_41 ?_
  refine lv_iload_n hx hb dX5_weigh_44 rfl (lv_at hl 2 rfl) ?_
  refine lv_iload_n hx hb dX5_weigh_45 rfl (lv_at hl 3 rfl) ?_
  refine z_iast (j := j) hx hb hG h2 ⟨by omega, by omega⟩ hS (⟨2, by decide, rfl⟩) dX5_weigh_46 (fun Hn locs h_7 o_8 hS => ?_)
  have hA1 := zSt_wt hA hinj (by decide) o_8.2 (h_7)
  have hX := zX_now hinj hp hX (fun q hq => o_8.2 q (hq (0 + 2) (by decide))) hA1
  have hz : Hn.size = H.size := o_8.1.trans hz
  obtain ⟨hA, hsv, hhs, t5, t8, t9, t10, t11⟩ := id hX
  obtain ⟨h0, h1, h2, h3, h4, h5, h6, h7, hR⟩ := id hA
  refine lv_iload_n hx hb dX5_weigh_47 rfl (lv_at hl 0 rfl) ?_
  exact hret _ _ _ _ _ hS (hz) dX5_weigh_48 (rfl) (zsc hp hX)

set_option maxHeartbeats 4000000 in
set_option maxRecDepth 100000 in
theorem c_X5_kind_0 (E : zEnv) {ad : Nat → Nat} {nw sv : zS} {an : Bool} {hs : Nat → zS} {ct ln : Nat} {cd : Nat → Int32} {x y : Int32} (hok : zOk nw) (hx1 : zin x 1 5 = false) : zRO E yX5_kind wsX5_kind 3 67 [.ref (ad 287), .int (x), .int (y)] (fun H => zCW E ad nw sv an hs ct ln cd H) (some (.int (-1))) := by
  refine zRO.ofI (maxL := 3) rfl (Nat.le_of_ble_eq_true rfl) (fun p e s m args below meth c H Q hF hP hret ls hl => ?_)
  have S : CallFix p m c cX5_kind 3 s args wsX5_kind RX5 := hF.1
  have hG := hF.2
  obtain ⟨hx, hb, hml, hown, hts⟩ := id S
  obtain ⟨π, tn, tt, nb, tf, hp, hX⟩ := hP
  obtain ⟨hA, hsv, hhs, t5, t8, t9, t10, t11⟩ := id hX
  obtain ⟨h0, h1, h2, h3, h4, h5, h6, h7, hR⟩ := id hA
  have hl : lv_has ls 3 [(0, .ref (ad 287)), (1, .int (x)), (2, .int (y))] := hl
  have hin3 : ∀ w ∈ u_ws RX3 TX3 5, w ∈ wsX5_kind := by decide +kernel
  have hin5 : ∀ w ∈ u_ws RX5 TX5 7, w ∈ wsX5_kind := by decide +kernel
  refine lv_iload_n hx hb dX5_kind_0 rfl (lv_at hl 1 rfl) ?_
  refine z_roSX (As := [.int (x)]) (rest := []) S hG (c_X5_isCharm E) 1 gX5_kind_X5_isCharm rfl kX5_isCharm.2 ⟨Nat.le_of_ble_eq_true rfl, Nat.le_of_ble_eq_true rfl⟩ ⟨Nat.zero_le _, Nat.zero_le _⟩ (trivial) rfl hl.1 rfl rfl (Nat.le_of_ble_eq_true rfl) dX5_kind_1 ?_
  refine z_bne (tgt := 9) hx hb dX5_kind_4 (by decide) (fun c_1 => by exfalso; rw [hx1] at c_1; cases c_1) (fun c_1 => ?_)
  refine lv_iconst (v := (-1)) hx hb dX5_kind_7 (by decide) ?_
  exact hret _ _ _ dX5_kind_8 (rfl)

set_option maxHeartbeats 4000000 in
set_option maxRecDepth 100000 in
theorem c_X5_kind_1 (E : zEnv) {ad : Nat → Nat} {nw sv : zS} {an : Bool} {hs : Nat → zS} {ct ln : Nat} {cd : Nat → Int32} {j : Nat} {y : Int32} (hok : zOk nw) (hj : 1 ≤ j ∧ j ≤ 5) (hy : zin y 0 2 = false) : zRO E yX5_kind wsX5_kind 3 67 [.ref (ad 287), .int (nI (j)), .int (y)] (fun H => zCW E ad nw sv an hs ct ln cd H) (some (.int (-2))) := by
  refine zRO.ofI (maxL := 3) rfl (Nat.le_of_ble_eq_true rfl) (fun p e s m args below meth c H Q hF hP hret ls hl => ?_)
  have S : CallFix p m c cX5_kind 3 s args wsX5_kind RX5 := hF.1
  have hG := hF.2
  obtain ⟨hx, hb, hml, hown, hts⟩ := id S
  obtain ⟨π, tn, tt, nb, tf, hp, hX⟩ := hP
  obtain ⟨hA, hsv, hhs, t5, t8, t9, t10, t11⟩ := id hX
  obtain ⟨h0, h1, h2, h3, h4, h5, h6, h7, hR⟩ := id hA
  have hl : lv_has ls 3 [(0, .ref (ad 287)), (1, .int (nI (j))), (2, .int (y))] := hl
  have hin3 : ∀ w ∈ u_ws RX3 TX3 5, w ∈ wsX5_kind := by decide +kernel
  have hin5 : ∀ w ∈ u_ws RX5 TX5 7, w ∈ wsX5_kind := by decide +kernel
  refine lv_iload_n hx hb dX5_kind_0 rfl (lv_at hl 1 rfl) ?_
  refine z_roSX (As := [.int (nI (j))]) (rest := []) S hG (c_X5_isCharm E) 1 gX5_kind_X5_isCharm rfl kX5_isCharm.2 ⟨Nat.le_of_ble_eq_true rfl, Nat.le_of_ble_eq_true rfl⟩ ⟨Nat.zero_le _, Nat.zero_le _⟩ (trivial) rfl hl.1 rfl rfl (Nat.le_of_ble_eq_true rfl) dX5_kind_1 ?_
  refine z_bne (tgt := 9) hx hb dX5_kind_4 (by decide) (fun c_1 => ?_) (fun c_1 => by exfalso; rw [zin_y hj.1 hj.2 (by decide)] at c_1; cases c_1)
  refine lv_iload_n hx hb dX5_kind_9 rfl (lv_at hl 2 rfl) ?_
  refine lv_tableOut (tgt := 65) hx hb dX5_kind_10 (zin_out (by decide) hy) (by decide) ?_
  refine lv_bipush (v := (-2)) hx hb dX5_kind_65 (by decide) ?_
  exact hret _ _ _ dX5_kind_67 (rfl)

set_option maxHeartbeats 4000000 in
set_option maxRecDepth 100000 in
theorem c_X5_kind_20 (E : zEnv) {ad : Nat → Nat} {nw sv : zS} {an : Bool} {hs : Nat → zS} {ct ln : Nat} {cd : Nat → Int32} {j : Nat} (hok : zOk nw) (hj : 1 ≤ j ∧ j ≤ 5) : zRO E yX5_kind wsX5_kind 3 67 [.ref (ad 287), .int (nI (j)), .int (nI (0))] (fun H => zCW E ad nw sv an hs ct ln cd H) (some (.int (zBx nw j))) := by
  refine zRO.ofI (maxL := 3) rfl (Nat.le_of_ble_eq_true rfl) (fun p e s m args below meth c H Q hF hP hret ls hl => ?_)
  have S : CallFix p m c cX5_kind 3 s args wsX5_kind RX5 := hF.1
  have hG := hF.2
  obtain ⟨hx, hb, hml, hown, hts⟩ := id S
  obtain ⟨π, tn, tt, nb, tf, hp, hX⟩ := hP
  obtain ⟨hA, hsv, hhs, t5, t8, t9, t10, t11⟩ := id hX
  obtain ⟨h0, h1, h2, h3, h4, h5, h6, h7, hR⟩ := id hA
  have hl : lv_has ls 3 [(0, .ref (ad 287)), (1, .int (nI (j))), (2, .int (nI (0)))] := hl
  have hin3 : ∀ w ∈ u_ws RX3 TX3 5, w ∈ wsX5_kind := by decide +kernel
  have hin5 : ∀ w ∈ u_ws RX5 TX5 7, w ∈ wsX5_kind := by decide +kernel
  refine lv_iload_n hx hb dX5_kind_0 rfl (lv_at hl 1 rfl) ?_
  refine z_roSX (As := [.int (nI (j))]) (rest := []) S hG (c_X5_isCharm E) 1 gX5_kind_X5_isCharm rfl kX5_isCharm.2 ⟨Nat.le_of_ble_eq_true rfl, Nat.le_of_ble_eq_true rfl⟩ ⟨Nat.zero_le _, Nat.zero_le _⟩ (trivial) rfl hl.1 rfl rfl (Nat.le_of_ble_eq_true rfl) dX5_kind_1 ?_
  refine z_bne (tgt := 9) hx hb dX5_kind_4 (by decide) (fun c_1 => ?_) (fun c_1 => by exfalso; rw [zin_y hj.1 hj.2 (by decide)] at c_1; cases c_1)
  refine lv_iload_n hx hb dX5_kind_9 rfl (lv_at hl 2 rfl) ?_
  refine lv_tableIn (off := 26) (tgt := 36) hx hb dX5_kind_10 (by decide) (by decide) rfl (by decide) ?_
  refine lv_aload_n hx hb dX5_kind_36 rfl (lv_at hl 0 rfl) ?_
  refine z_get (ref := RX5) (C := RX5) (T := TX5) (N := 7) hx hb hts hin5 hown hG t5 rfl 0 (by decide) (by decide +kernel) rfl rfl dX5_kind_37 ?_
  refine z_getN (own := RX5) (ref := RX3) (host := "CharmBracelets") (C := RX3) (T := TX3) (N := 5) hx hb hts hin3 hown hG h0 rfl 0 (by decide) (List.mem_of_getElem? (i := 8) rfl) rfl rfl dX5_kind_40 ?_
  refine lv_iload_n hx hb dX5_kind_43 rfl (lv_at hl 1 rfl) ?_
  refine z_iald (j := j) hx hb hG h1 ⟨by omega, by omega⟩ dX5_kind_44 ?_
  exact hret _ _ _ dX5_kind_45 (rfl)

set_option maxHeartbeats 4000000 in
set_option maxRecDepth 100000 in
theorem c_X5_kind_21 (E : zEnv) {ad : Nat → Nat} {nw sv : zS} {an : Bool} {hs : Nat → zS} {ct ln : Nat} {cd : Nat → Int32} {j : Nat} (hok : zOk nw) (hj : 1 ≤ j ∧ j ≤ 5) : zRO E yX5_kind wsX5_kind 3 67 [.ref (ad 287), .int (nI (j)), .int (nI (1))] (fun H => zCW E ad nw sv an hs ct ln cd H) (some (.int (zWt nw j))) := by
  refine zRO.ofI (maxL := 3) rfl (Nat.le_of_ble_eq_true rfl) (fun p e s m args below meth c H Q hF hP hret ls hl => ?_)
  have S : CallFix p m c cX5_kind 3 s args wsX5_kind RX5 := hF.1
  have hG := hF.2
  obtain ⟨hx, hb, hml, hown, hts⟩ := id S
  obtain ⟨π, tn, tt, nb, tf, hp, hX⟩ := hP
  obtain ⟨hA, hsv, hhs, t5, t8, t9, t10, t11⟩ := id hX
  obtain ⟨h0, h1, h2, h3, h4, h5, h6, h7, hR⟩ := id hA
  have hl : lv_has ls 3 [(0, .ref (ad 287)), (1, .int (nI (j))), (2, .int (nI (1)))] := hl
  have hin3 : ∀ w ∈ u_ws RX3 TX3 5, w ∈ wsX5_kind := by decide +kernel
  have hin5 : ∀ w ∈ u_ws RX5 TX5 7, w ∈ wsX5_kind := by decide +kernel
  refine lv_iload_n hx hb dX5_kind_0 rfl (lv_at hl 1 rfl) ?_
  refine z_roSX (As := [.int (nI (j))]) (rest := []) S hG (c_X5_isCharm E) 1 gX5_kind_X5_isCharm rfl kX5_isCharm.2 ⟨Nat.le_of_ble_eq_true rfl, Nat.le_of_ble_eq_true rfl⟩ ⟨Nat.zero_le _, Nat.zero_le _⟩ (trivial) rfl hl.1 rfl rfl (Nat.le_of_ble_eq_true rfl) dX5_kind_1 ?_
  refine z_bne (tgt := 9) hx hb dX5_kind_4 (by decide) (fun c_1 => ?_) (fun c_1 => by exfalso; rw [zin_y hj.1 hj.2 (by decide)] at c_1; cases c_1)
  refine lv_iload_n hx hb dX5_kind_9 rfl (lv_at hl 2 rfl) ?_
  refine lv_tableIn (off := 36) (tgt := 46) hx hb dX5_kind_10 (by decide) (by decide) rfl (by decide) ?_
  refine lv_aload_n hx hb dX5_kind_46 rfl (lv_at hl 0 rfl) ?_
  refine z_get (ref := RX5) (C := RX5) (T := TX5) (N := 7) hx hb hts hin5 hown hG t5 rfl 0 (by decide) (by decide +kernel) rfl rfl dX5_kind_47 ?_
  refine z_getN (own := RX5) (ref := RX3) (host := "CharmBracelets") (C := RX3) (T := TX3) (N := 5) hx hb hts hin3 hown hG h0 rfl 1 (by decide) (List.mem_of_getElem? (i := 9) rfl) rfl rfl dX5_kind_50 ?_
  refine lv_iload_n hx hb dX5_kind_53 rfl (lv_at hl 1 rfl) ?_
  refine z_iald (j := j) hx hb hG h2 ⟨by omega, by omega⟩ dX5_kind_54 ?_
  exact hret _ _ _ dX5_kind_55 (rfl)

set_option maxHeartbeats 4000000 in
set_option maxRecDepth 100000 in
theorem c_X5_kind_22 (E : zEnv) {ad : Nat → Nat} {nw sv : zS} {an : Bool} {hs : Nat → zS} {ct ln : Nat} {cd : Nat → Int32} {j : Nat} (hok : zOk nw) (hj : 1 ≤ j ∧ j ≤ 5) : zRO E yX5_kind wsX5_kind 3 67 [.ref (ad 287), .int (nI (j)), .int (nI (2))] (fun H => zCW E ad nw sv an hs ct ln cd H) (some (.int (nI (zns (fun t => zcn (zKd nw t) (nI j) (zSz nw t)) 6)))) := by
  refine zRO.ofI (maxL := 3) rfl (Nat.le_of_ble_eq_true rfl) (fun p e s m args below meth c H Q hF hP hret ls hl => ?_)
  have S : CallFix p m c cX5_kind 3 s args wsX5_kind RX5 := hF.1
  have hG := hF.2
  obtain ⟨hx, hb, hml, hown, hts⟩ := id S
  obtain ⟨π, tn, tt, nb, tf, hp, hX⟩ := hP
  obtain ⟨hA, hsv, hhs, t5, t8, t9, t10, t11⟩ := id hX
  obtain ⟨h0, h1, h2, h3, h4, h5, h6, h7, hR⟩ := id hA
  have hl : lv_has ls 3 [(0, .ref (ad 287)), (1, .int (nI (j))), (2, .int (nI (2)))] := hl
  have hin3 : ∀ w ∈ u_ws RX3 TX3 5, w ∈ wsX5_kind := by decide +kernel
  have hin5 : ∀ w ∈ u_ws RX5 TX5 7, w ∈ wsX5_kind := by decide +kernel
  refine lv_iload_n hx hb dX5_kind_0 rfl (lv_at hl 1 rfl) ?_
  refine z_roSX (As := [.int (nI (j))]) (rest := []) S hG (c_X5_isCharm E) 1 gX5_kind_X5_isCharm rfl kX5_isCharm.2 ⟨Nat.le_of_ble_eq_true rfl, Nat.le_of_ble_eq_true rfl⟩ ⟨Nat.zero_le _, Nat.zero_le _⟩ (trivial) rfl hl.1 rfl rfl (Nat.le_of_ble_eq_true rfl) dX5_kind_1 ?_
  refine z_bne (tgt := 9) hx hb dX5_kind_4 (by decide) (fun c_1 => ?_) (fun c_1 => by exfalso; rw [zin_y hj.1 hj.2 (by decide)] at c_1; cases c_1)
  refine lv_iload_n hx hb dX5_kind_9 rfl (lv_at hl 2 rfl) ?_
  refine lv_tableIn (off := 46) (tgt := 56) hx hb dX5_kind_10 (by decide) (by decide) rfl (by decide) ?_
  refine lv_aload_n hx hb dX5_kind_56 rfl (lv_at hl 0 rfl) ?_
  refine z_get (ref := RX5) (C := RX5) (T := TX5) (N := 7) hx hb hts hin5 hown hG t5 rfl 0 (by decide) (by decide +kernel) rfl rfl dX5_kind_57 ?_
  refine lv_iload_n hx hb dX5_kind_60 rfl (lv_at hl 1 rfl) ?_
  refine z_roVN (As := [.int (nI (j))]) (rest := []) (host := "CharmBracelets") (q := (RX3, TX3, 5)) S hG (c_X3_charmsHung E (ad := ad) (b := 0) (v := nw) hok.h16) 1 gX5_kind_X3_charmsHung_n51 (List.mem_of_getElem? (i := 44) rfl) (by decide +kernel) rfl kX3_charmsHung.2 ⟨Nat.le_of_ble_eq_true rfl, Nat.le_of_ble_eq_true rfl⟩ ⟨Nat.zero_le _, Nat.zero_le _⟩ (hA) rfl h0 rfl hl.1 rfl rfl (Nat.le_of_ble_eq_true rfl) dX5_kind_61 ?_
  exact hret _ _ _ dX5_kind_64 (rfl)

set_option maxHeartbeats 4000000 in
set_option maxRecDepth 100000 in
theorem c_X5_make_0 (E : zEnv) {ad : Nat → Nat} {nw sv : zS} {an : Bool} {hs : Nat → zS} {ct ln : Nat} {cd : Nat → Int32} {x : Int32} (hok : zOk nw) (hinj : zInj ad) (hct : ct ≤ 5) (hx1 : zsz x = false) : zWR E yX5_make wsX5_make 6 167 [.ref (ad 287), .int (x)] (fun H => zCW E ad nw sv an hs ct ln cd H) (some (.int (-2))) (fun H => zCW E ad nw sv an hs ct ln cd H) (zAC ad) := by
  refine zWR.ofI (maxL := 2) rfl (Nat.le_of_ble_eq_true rfl) (fun p e s m args below meth c H Q hF hP hret ls hl => ?_)
  have S : CallFix p m c cX5_make 2 s args wsX5_make RX5 := hF.1
  have hG := hF.2
  obtain ⟨hx, hb, hml, hown, hts⟩ := id S
  have hS : va_S (zAC ad) H H [] := va_S.rf
  obtain ⟨locs, hlocs⟩ : ∃ x : List Loc, x = [] := ⟨_, rfl⟩
  rw [← hlocs] at hS ⊢
  have hz : H.size = H.size := rfl
  obtain ⟨π, tn, tt, nb, tf, hp, hX⟩ := hP
  obtain ⟨hA, hsv, hhs, t5, t8, t9, t10, t11⟩ := id hX
  obtain ⟨h0, h1, h2, h3, h4, h5, h6, h7, hR⟩ := id hA
  have hl : lv_has ls 2 [(0, .ref (ad 287)), (1, .int (x))] := hl
  have hin5 : ∀ w ∈ u_ws RX5 TX5 7, w ∈ wsX5_make := by decide +kernel
  refine lv_iload_n hx hb dX5_make_0 rfl (lv_at hl 1 rfl) ?_
  refine z_roSX (As := [.int (x)]) (rest := []) S hG (c_X5_isSize E) 1 gX5_make_X5_isSize rfl kX5_isSize.2 ⟨Nat.le_of_ble_eq_true rfl, Nat.le_of_ble_eq_true rfl⟩ ⟨Nat.zero_le _, Nat.zero_le _⟩ (trivial) rfl hl.1 rfl rfl (Nat.le_of_ble_eq_true rfl) dX5_make_1 ?_
  refine z_bne (tgt := 10) hx hb dX5_make_4 (by decide) (fun c_1 => by exfalso; rw [hx1] at c_1; cases c_1) (fun c_1 => ?_)
  refine lv_bipush (v := (-2)) hx hb dX5_make_7 (by decide) ?_
  exact hret _ _ _ _ _ hS (hz) dX5_make_9 (rfl) (zsc hp hX)

set_option maxHeartbeats 4000000 in
set_option maxRecDepth 100000 in
theorem c_X5_make_1 (E : zEnv) {ad : Nat → Nat} {nw sv : zS} {an : Bool} {hs : Nat → zS} {ct ln : Nat} {cd : Nat → Int32} {w : Nat} (hok : zOk nw) (hinj : zInj ad) (hct : ct ≤ 5) (hw : zsz4 w) (hfr : zfd (zSz nw) 6 = 6) : zWR E yX5_make wsX5_make 6 167 [.ref (ad 287), .int (nI (w))] (fun H => zCW E ad nw sv an hs ct ln cd H) (some (.int (-4))) (fun H => zCW E ad nw sv an hs ct ln cd H) (zAC ad) := by
  refine zWR.ofI (maxL := 2) rfl (Nat.le_of_ble_eq_true rfl) (fun p e s m args below meth c H Q hF hP hret ls hl => ?_)
  have S : CallFix p m c cX5_make 2 s args wsX5_make RX5 := hF.1
  have hG := hF.2
  obtain ⟨hx, hb, hml, hown, hts⟩ := id S
  have hS : va_S (zAC ad) H H [] := va_S.rf
  obtain ⟨locs, hlocs⟩ : ∃ x : List Loc, x = [] := ⟨_, rfl⟩
  rw [← hlocs] at hS ⊢
  have hz : H.size = H.size := rfl
  obtain ⟨π, tn, tt, nb, tf, hp, hX⟩ := hP
  obtain ⟨hA, hsv, hhs, t5, t8, t9, t10, t11⟩ := id hX
  obtain ⟨h0, h1, h2, h3, h4, h5, h6, h7, hR⟩ := id hA
  have hl : lv_has ls 2 [(0, .ref (ad 287)), (1, .int (nI (w)))] := hl
  have hin5 : ∀ w ∈ u_ws RX5 TX5 7, w ∈ wsX5_make := by decide +kernel
  refine lv_iload_n hx hb dX5_make_0 rfl (lv_at hl 1 rfl) ?_
  refine z_roSX (As := [.int (nI (w))]) (rest := []) S hG (c_X5_isSize E) 1 gX5_make_X5_isSize rfl kX5_isSize.2 ⟨Nat.le_of_ble_eq_true rfl, Nat.le_of_ble_eq_true rfl⟩ ⟨Nat.zero_le _, Nat.zero_le _⟩ (trivial) rfl hl.1 rfl rfl (Nat.le_of_ble_eq_true rfl) dX5_make_1 ?_
  refine z_bne (tgt := 10) hx hb dX5_make_4 (by decide) (fun c_1 => ?_) (fun c_1 => by exfalso; rw [zsz4_b hw] at c_1; cases c_1)
  refine lv_aload_n hx hb dX5_make_10 rfl (lv_at hl 0 rfl) ?_
  refine z_get (ref := RX5) (C := RX5) (T := TX5) (N := 7) hx hb hts hin5 hown hG t5 rfl 4 (by decide) (by decide +kernel) rfl rfl dX5_make_11 ?_
  refine lv_iload_n hx hb dX5_make_14 rfl (lv_at hl 1 rfl) ?_
  refine z_wrVN (As := [.int (nI (w))]) (rest := []) (host := "CharmBracelets") (q := (RX2, TX2, 2)) S hG (c_X2_becomeEmpty E (a := ad 291) (k := ad 292) (n2 := w) (hinj.ne (by omega) (by omega) (by omega))) 1 gX5_make_X2_becomeEmpty_n58 (List.mem_of_getElem? (i := 12) rfl) (by decide +kernel) rfl kX2_becomeEmpty.2 ⟨Nat.le_of_ble_eq_true rfl, Nat.le_of_ble_eq_true rfl⟩ ⟨Nat.zero_le _, Nat.zero_le _⟩ (t11) rfl t11.1 rfl hl.1 rfl rfl (Nat.le_of_ble_eq_true rfl) dX5_make_15 hS (fun q h => h.elim (fun e => ⟨_, by decide, e⟩) (fun e => ⟨_, by decide, e⟩)) (fun Hn locs h_3 q_2 o_4 hS => ?_)
  have hz : Hn.size = H.size := q_2.trans hz
  have hX := zX_tr hinj hp hX o_4 h_3
  obtain ⟨hA, hsv, hhs, t5, t8, t9, t10, t11⟩ := id hX
  obtain ⟨h0, h1, h2, h3, h4, h5, h6, h7, hR⟩ := id hA
  refine lv_aload_n hx hb dX5_make_18 rfl (lv_at hl 0 rfl) ?_
  refine lv_aload_n hx hb dX5_make_19 rfl (lv_at hl 0 rfl) ?_
  refine z_get (ref := RX5) (C := RX5) (T := TX5) (N := 7) hx hb hts hin5 hown hG t5 rfl 4 (by decide) (by decide +kernel) rfl rfl dX5_make_20 ?_
  refine z_roV (As := [.ref (ad 291)]) (rest := []) (q := (RX5, TX5, 7)) S hG (c_X5_addFromBox_t1 E (an := an) (hs := hs) hok hw.b.2.1 (zall_iff.mpr (fun t ht => by obtain ⟨j, hj, e⟩ := hok.2.2.1 (t + 1) (by omega) (by omega); exact decide_eq_true (zbx0 e hj ht))) hfr) 1 gX5_make_X5_addFromBox rfl kX5_addFromBox ⟨Nat.le_of_ble_eq_true rfl, Nat.le_of_ble_eq_true rfl⟩ ⟨Nat.zero_le _, Nat.zero_le _⟩ (hX) rfl t5 rfl hl.1 rfl rfl (Nat.le_of_ble_eq_true rfl) dX5_make_23 ?_
  exact hret _ _ _ _ _ hS (hz) dX5_make_26 (rfl) (zsc hp hX)

set_option maxHeartbeats 4000000 in
set_option maxRecDepth 100000 in
theorem c_X5_make_2 (E : zEnv) {ad : Nat → Nat} {nw sv : zS} {an : Bool} {hs : Nat → zS} {ct ln : Nat} {cd : Nat → Int32} {w : Nat} (hok : zOk nw) (hinj : zInj ad) (hct : ct ≤ 5) (hw : zsz4 w) (hfr : zfd (zSz nw) 6 < 6) : zWR E yX5_make wsX5_make 6 167 [.ref (ad 287), .int (nI (w))] (fun H => zCW E ad nw sv an hs ct ln cd H) (some (.int (nI (zfd (zSz nw) 6)))) (fun H => zCW E ad (zsRg nw (zfd (zSz nw) 6) w (fun _ => 0)) sv an (zrH hs ct nw) (zrC ct) ln cd H) (zAC ad) := by
  refine zWR.ofI (maxL := 2) rfl (Nat.le_of_ble_eq_true rfl) (fun p e s m args below meth c H Q hF hP hret ls hl => ?_)
  have S : CallFix p m c cX5_make 2 s args wsX5_make RX5 := hF.1
  have hG := hF.2
  obtain ⟨hx, hb, hml, hown, hts⟩ := id S
  have hS : va_S (zAC ad) H H [] := va_S.rf
  obtain ⟨locs, hlocs⟩ : ∃ x : List Loc, x = [] := ⟨_, rfl⟩
  rw [← hlocs] at hS ⊢
  have hz : H.size = H.size := rfl
  obtain ⟨π, tn, tt, nb, tf, hp, hX⟩ := hP
  obtain ⟨hA, hsv, hhs, t5, t8, t9, t10, t11⟩ := id hX
  obtain ⟨h0, h1, h2, h3, h4, h5, h6, h7, hR⟩ := id hA
  have hl : lv_has ls 2 [(0, .ref (ad 287)), (1, .int (nI (w)))] := hl
  have hin5 : ∀ w ∈ u_ws RX5 TX5 7, w ∈ wsX5_make := by decide +kernel
  refine lv_iload_n hx hb dX5_make_0 rfl (lv_at hl 1 rfl) ?_
  refine z_roSX (As := [.int (nI (w))]) (rest := []) S hG (c_X5_isSize E) 1 gX5_make_X5_isSize rfl kX5_isSize.2 ⟨Nat.le_of_ble_eq_true rfl, Nat.le_of_ble_eq_true rfl⟩ ⟨Nat.zero_le _, Nat.zero_le _⟩ (trivial) rfl hl.1 rfl rfl (Nat.le_of_ble_eq_true rfl) dX5_make_1 ?_
  refine z_bne (tgt := 10) hx hb dX5_make_4 (by decide) (fun c_1 => ?_) (fun c_1 => by exfalso; rw [zsz4_b hw] at c_1; cases c_1)
  refine lv_aload_n hx hb dX5_make_10 rfl (lv_at hl 0 rfl) ?_
  refine z_get (ref := RX5) (C := RX5) (T := TX5) (N := 7) hx hb hts hin5 hown hG t5 rfl 4 (by decide) (by decide +kernel) rfl rfl dX5_make_11 ?_
  refine lv_iload_n hx hb dX5_make_14 rfl (lv_at hl 1 rfl) ?_
  refine z_wrVN (As := [.int (nI (w))]) (rest := []) (host := "CharmBracelets") (q := (RX2, TX2, 2)) S hG (c_X2_becomeEmpty E (a := ad 291) (k := ad 292) (n2 := w) (hinj.ne (by omega) (by omega) (by omega))) 1 gX5_make_X2_becomeEmpty_n58 (List.mem_of_getElem? (i := 12) rfl) (by decide +kernel) rfl kX2_becomeEmpty.2 ⟨Nat.le_of_ble_eq_true rfl, Nat.le_of_ble_eq_true rfl⟩ ⟨Nat.zero_le _, Nat.zero_le _⟩ (t11) rfl t11.1 rfl hl.1 rfl rfl (Nat.le_of_ble_eq_true rfl) dX5_make_15 hS (fun q h => h.elim (fun e => ⟨_, by decide, e⟩) (fun e => ⟨_, by decide, e⟩)) (fun Hn locs h_3 q_2 o_4 hS => ?_)
  have hz : Hn.size = H.size := q_2.trans hz
  have hX := zX_tr hinj hp hX o_4 h_3
  obtain ⟨hA, hsv, hhs, t5, t8, t9, t10, t11⟩ := id hX
  obtain ⟨h0, h1, h2, h3, h4, h5, h6, h7, hR⟩ := id hA
  refine lv_aload_n hx hb dX5_make_18 rfl (lv_at hl 0 rfl) ?_
  refine lv_aload_n hx hb dX5_make_19 rfl (lv_at hl 0 rfl) ?_
  refine z_get (ref := RX5) (C := RX5) (T := TX5) (N := 7) hx hb hts hin5 hown hG t5 rfl 4 (by decide) (by decide +kernel) rfl rfl dX5_make_20 ?_
  refine z_wrV (As := [.ref (ad 291)]) (rest := []) (q := (RX5, TX5, 7)) S hG (c_X5_addFromBox_t2 E hinj hp hct hok hw.b.2.1 (zall_iff.mpr (fun t ht => by obtain ⟨j, hj, e⟩ := hok.2.2.1 (t + 1) (by omega) (by omega); exact decide_eq_true (zbx0 e hj ht))) hfr) 1 gX5_make_X5_addFromBox rfl kX5_addFromBox ⟨Nat.le_of_ble_eq_true rfl, Nat.le_of_ble_eq_true rfl⟩ ⟨Nat.zero_le _, Nat.zero_le _⟩ (hX) rfl t5 rfl hl.1 rfl rfl (Nat.le_of_ble_eq_true rfl) dX5_make_23 hS (fun _ h => h) (fun Hn locs h_6 q_5 o_7 hS => ?_)
  have hz : Hn.size = H.size := q_5.trans hz
  obtain ⟨π, hp, hX⟩ := h_6
  rw [zto_z] at hX
  exact hret _ _ _ _ _ hS (hz) dX5_make_26 (rfl) (zsc hp hX)

set_option maxHeartbeats 4000000 in
set_option maxRecDepth 100000 in
theorem c_X5_copy_0 (E : zEnv) {ad : Nat → Nat} {nw sv : zS} {an : Bool} {hs : Nat → zS} {ct ln : Nat} {cd : Nat → Int32} {x : Int32} (hok : zOk nw) (hinj : zInj ad) (hct : ct ≤ 5) (hq : zfnd (zSz nw) x = none) : zWR E yX5_copy wsX5_copy 6 167 [.ref (ad 287), .int (x)] (fun H => zCW E ad nw sv an hs ct ln cd H) (some (.int (-1))) (fun H => zCW E ad nw sv an hs ct ln cd H) (zAC ad) := by
  refine zWR.ofI (maxL := 3) rfl (Nat.le_of_ble_eq_true rfl) (fun p e s m args below meth c H Q hF hP hret ls hl => ?_)
  have S : CallFix p m c cX5_copy 3 s args wsX5_copy RX5 := hF.1
  have hG := hF.2
  obtain ⟨hx, hb, hml, hown, hts⟩ := id S
  have hS : va_S (zAC ad) H H [] := va_S.rf
  obtain ⟨locs, hlocs⟩ : ∃ x : List Loc, x = [] := ⟨_, rfl⟩
  rw [← hlocs] at hS ⊢
  have hz : H.size = H.size := rfl
  obtain ⟨π, tn, tt, nb, tf, hp, hX⟩ := hP
  obtain ⟨hA, hsv, hhs, t5, t8, t9, t10, t11⟩ := id hX
  obtain ⟨h0, h1, h2, h3, h4, h5, h6, h7, hR⟩ := id hA
  have hl : lv_has ls 3 [(0, .ref (ad 287)), (1, .int (x))] := hl
  have hin5 : ∀ w ∈ u_ws RX5 TX5 7, w ∈ wsX5_copy := by decide +kernel
  refine lv_aload_n hx hb dX5_copy_0 rfl (lv_at hl 0 rfl) ?_
  refine z_get (ref := RX5) (C := RX5) (T := TX5) (N := 7) hx hb hts hin5 hown hG t5 rfl 0 (by decide) (by decide +kernel) rfl rfl dX5_copy_1 ?_
  refine lv_iload_n hx hb dX5_copy_4 rfl (lv_at hl 1 rfl) ?_
  refine z_roVN (As := [.int (x)]) (rest := []) (host := "CharmBracelets") (q := (RX3, TX3, 5)) S hG (c_X3_find_0 E (ad := ad) (b := 0) (v := nw) hok.h16 hq) 1 gX5_copy_X3_find_n66 (List.mem_of_getElem? (i := 18) rfl) (by decide +kernel) rfl kX3_find.2 ⟨Nat.le_of_ble_eq_true rfl, Nat.le_of_ble_eq_true rfl⟩ ⟨Nat.zero_le _, Nat.zero_le _⟩ (hA) rfl h0 rfl hl.1 rfl rfl (Nat.le_of_ble_eq_true rfl) dX5_copy_5 ?_
  refine lv_astore_nN (lv' := [(2, .null), (0, .ref (ad 287)), (1, .int (x))]) hx hb dX5_copy_8 rfl hl (by decide) rfl (fun ls hl => ?_)
  refine lv_aload_nN hx hb dX5_copy_9 rfl (lv_at hl 0 rfl) ?_
  refine lv_ifnonnullN hx hb dX5_copy_10 ?_
  refine lv_iconst (v := (-1)) hx hb dX5_copy_13 (by decide) ?_
  exact hret _ _ _ _ _ hS (hz) dX5_copy_14 (rfl) (zsc hp hX)

set_option maxHeartbeats 4000000 in
set_option maxRecDepth 100000 in
theorem c_X5_copy_1 (E : zEnv) {ad : Nat → Nat} {nw sv : zS} {an : Bool} {hs : Nat → zS} {ct ln : Nat} {cd : Nat → Int32} {r : Nat} (hok : zOk nw) (hinj : zInj ad) (hct : ct ≤ 5) (hr : r < 6) (hr0 : zSz nw r ≠ 0) (hbx : zall (fun t => decide (nI (zcn (zKd nw r) (nI (t + 1)) (zSz nw r)) ≤ zBx nw (t + 1))) 5 = false) : zWR E yX5_copy wsX5_copy 6 167 [.ref (ad 287), .int (nI (r))] (fun H => zCW E ad nw sv an hs ct ln cd H) (some (.int (-3))) (fun H => zCW E ad nw sv an hs ct ln cd H) (zAC ad) := by
  refine zWR.ofI (maxL := 3) rfl (Nat.le_of_ble_eq_true rfl) (fun p e s m args below meth c H Q hF hP hret ls hl => ?_)
  have S : CallFix p m c cX5_copy 3 s args wsX5_copy RX5 := hF.1
  have hG := hF.2
  obtain ⟨hx, hb, hml, hown, hts⟩ := id S
  have hS : va_S (zAC ad) H H [] := va_S.rf
  obtain ⟨locs, hlocs⟩ : ∃ x : List Loc, x = [] := ⟨_, rfl⟩
  rw [← hlocs] at hS ⊢
  have hz : H.size = H.size := rfl
  obtain ⟨π, tn, tt, nb, tf, hp, hX⟩ := hP
  obtain ⟨hA, hsv, hhs, t5, t8, t9, t10, t11⟩ := id hX
  obtain ⟨h0, h1, h2, h3, h4, h5, h6, h7, hR⟩ := id hA
  have hl : lv_has ls 3 [(0, .ref (ad 287)), (1, .int (nI (r)))] := hl
  have hin5 : ∀ w ∈ u_ws RX5 TX5 7, w ∈ wsX5_copy := by decide +kernel
  refine lv_aload_n hx hb dX5_copy_0 rfl (lv_at hl 0 rfl) ?_
  refine z_get (ref := RX5) (C := RX5) (T := TX5) (N := 7) hx hb hts hin5 hown hG t5 rfl 0 (by decide) (by decide +kernel) rfl rfl dX5_copy_1 ?_
  refine lv_iload_n hx hb dX5_copy_4 rfl (lv_at hl 1 rfl) ?_
  refine z_roVN (As := [.int (nI (r))]) (rest := []) (host := "CharmBracelets") (q := (RX3, TX3, 5)) S hG (c_X3_find_1 E (ad := ad) (b := 0) (v := nw) (i := r) hr ⟨hr0, hok.h16 r hr⟩) 1 gX5_copy_X3_find_n66 (List.mem_of_getElem? (i := 18) rfl) (by decide +kernel) rfl kX3_find.2 ⟨Nat.le_of_ble_eq_true rfl, Nat.le_of_ble_eq_true rfl⟩ ⟨Nat.zero_le _, Nat.zero_le _⟩ (hA) rfl h0 rfl hl.1 rfl rfl (Nat.le_of_ble_eq_true rfl) dX5_copy_5 ?_
  refine lv_astore_n (lv' := [(2, .ref (ad (0 + 9 + 2 * r))), (0, .ref (ad 287)), (1, .int (nI (r)))]) hx hb dX5_copy_8 rfl hl (by decide) rfl (fun ls hl => ?_)
  refine lv_aload_n hx hb dX5_copy_9 rfl (lv_at hl 0 rfl) ?_
  refine lv_ifnonnull (tgt := 15) hx hb dX5_copy_10 (by decide) ?_
  refine lv_aload_n hx hb dX5_copy_15 rfl (lv_at hl 1 rfl) ?_
  refine lv_aload_n hx hb dX5_copy_16 rfl (lv_at hl 0 rfl) ?_
  refine z_roV (As := [.ref (ad (0 + 9 + 2 * r))]) (rest := []) (q := (RX5, TX5, 7)) S hG (c_X5_addFromBox_r0 E (an := an) (hs := hs) hok hr hr0 hbx) 1 gX5_copy_X5_addFromBox rfl kX5_addFromBox ⟨Nat.le_of_ble_eq_true rfl, Nat.le_of_ble_eq_true rfl⟩ ⟨Nat.zero_le _, Nat.zero_le _⟩ (hX) rfl t5 rfl hl.1 rfl rfl (Nat.le_of_ble_eq_true rfl) dX5_copy_17 ?_
  exact hret _ _ _ _ _ hS (hz) dX5_copy_20 (rfl) (zsc hp hX)

set_option maxHeartbeats 4000000 in
set_option maxRecDepth 100000 in
theorem c_X5_copy_2 (E : zEnv) {ad : Nat → Nat} {nw sv : zS} {an : Bool} {hs : Nat → zS} {ct ln : Nat} {cd : Nat → Int32} {r : Nat} (hok : zOk nw) (hinj : zInj ad) (hct : ct ≤ 5) (hr : r < 6) (hr0 : zSz nw r ≠ 0) (hbx : zall (fun t => decide (nI (zcn (zKd nw r) (nI (t + 1)) (zSz nw r)) ≤ zBx nw (t + 1))) 5 = true) (hfr : zfd (zSz nw) 6 = 6) : zWR E yX5_copy wsX5_copy 6 167 [.ref (ad 287), .int (nI (r))] (fun H => zCW E ad nw sv an hs ct ln cd H) (some (.int (-4))) (fun H => zCW E ad nw sv an hs ct ln cd H) (zAC ad) := by
  refine zWR.ofI (maxL := 3) rfl (Nat.le_of_ble_eq_true rfl) (fun p e s m args below meth c H Q hF hP hret ls hl => ?_)
  have S : CallFix p m c cX5_copy 3 s args wsX5_copy RX5 := hF.1
  have hG := hF.2
  obtain ⟨hx, hb, hml, hown, hts⟩ := id S
  have hS : va_S (zAC ad) H H [] := va_S.rf
  obtain ⟨locs, hlocs⟩ : ∃ x : List Loc, x = [] := ⟨_, rfl⟩
  rw [← hlocs] at hS ⊢
  have hz : H.size = H.size := rfl
  obtain ⟨π, tn, tt, nb, tf, hp, hX⟩ := hP
  obtain ⟨hA, hsv, hhs, t5, t8, t9, t10, t11⟩ := id hX
  obtain ⟨h0, h1, h2, h3, h4, h5, h6, h7, hR⟩ := id hA
  have hl : lv_has ls 3 [(0, .ref (ad 287)), (1, .int (nI (r)))] := hl
  have hin5 : ∀ w ∈ u_ws RX5 TX5 7, w ∈ wsX5_copy := by decide +kernel
  refine lv_aload_n hx hb dX5_copy_0 rfl (lv_at hl 0 rfl) ?_
  refine z_get (ref := RX5) (C := RX5) (T := TX5) (N := 7) hx hb hts hin5 hown hG t5 rfl 0 (by decide) (by decide +kernel) rfl rfl dX5_copy_1 ?_
  refine lv_iload_n hx hb dX5_copy_4 rfl (lv_at hl 1 rfl) ?_
  refine z_roVN (As := [.int (nI (r))]) (rest := []) (host := "CharmBracelets") (q := (RX3, TX3, 5)) S hG (c_X3_find_1 E (ad := ad) (b := 0) (v := nw) (i := r) hr ⟨hr0, hok.h16 r hr⟩) 1 gX5_copy_X3_find_n66 (List.mem_of_getElem? (i := 18) rfl) (by decide +kernel) rfl kX3_find.2 ⟨Nat.le_of_ble_eq_true rfl, Nat.le_of_ble_eq_true rfl⟩ ⟨Nat.zero_le _, Nat.zero_le _⟩ (hA) rfl h0 rfl hl.1 rfl rfl (Nat.le_of_ble_eq_true rfl) dX5_copy_5 ?_
  refine lv_astore_n (lv' := [(2, .ref (ad (0 + 9 + 2 * r))), (0, .ref (ad 287)), (1, .int (nI (r)))]) hx hb dX5_copy_8 rfl hl (by decide) rfl (fun ls hl => ?_)
  refine lv_aload_n hx hb dX5_copy_9 rfl (lv_at hl 0 rfl) ?_
  refine lv_ifnonnull (tgt := 15) hx hb dX5_copy_10 (by decide) ?_
  refine lv_aload_n hx hb dX5_copy_15 rfl (lv_at hl 1 rfl) ?_
  refine lv_aload_n hx hb dX5_copy_16 rfl (lv_at hl 0 rfl) ?_
  refine z_roV (As := [.ref (ad (0 + 9 + 2 * r))]) (rest := []) (q := (RX5, TX5, 7)) S hG (c_X5_addFromBox_r1 E (an := an) (hs := hs) hok hr hr0 hbx hfr) 1 gX5_copy_X5_addFromBox rfl kX5_addFromBox ⟨Nat.le_of_ble_eq_true rfl, Nat.le_of_ble_eq_true rfl⟩ ⟨Nat.zero_le _, Nat.zero_le _⟩ (hX) rfl t5 rfl hl.1 rfl rfl (Nat.le_of_ble_eq_true rfl) dX5_copy_17 ?_
  exact hret _ _ _ _ _ hS (hz) dX5_copy_20 (rfl) (zsc hp hX)

set_option maxHeartbeats 4000000 in
set_option maxRecDepth 100000 in
theorem c_X5_copy_3 (E : zEnv) {ad : Nat → Nat} {nw sv : zS} {an : Bool} {hs : Nat → zS} {ct ln : Nat} {cd : Nat → Int32} {r : Nat} (hok : zOk nw) (hinj : zInj ad) (hct : ct ≤ 5) (hr : r < 6) (hr0 : zSz nw r ≠ 0) (hbx : zall (fun t => decide (nI (zcn (zKd nw r) (nI (t + 1)) (zSz nw r)) ≤ zBx nw (t + 1))) 5 = true) (hfr : zfd (zSz nw) 6 < 6) : zWR E yX5_copy wsX5_copy 6 167 [.ref (ad 287), .int (nI (r))] (fun H => zCW E ad nw sv an hs ct ln cd H) (some (.int (nI (zfd (zSz nw) 6)))) (fun H => zCW E ad (zsRg (zsBx nw (zto (zBx nw) (fun t => zcn (zKd nw r) (nI t) (zSz nw r)) 5)) (zfd (zSz nw) 6) (zSz nw r) (zKd nw r)) sv an (zrH hs ct nw) (zrC ct) ln cd H) (zAC ad) := by
  refine zWR.ofI (maxL := 3) rfl (Nat.le_of_ble_eq_true rfl) (fun p e s m args below meth c H Q hF hP hret ls hl => ?_)
  have S : CallFix p m c cX5_copy 3 s args wsX5_copy RX5 := hF.1
  have hG := hF.2
  obtain ⟨hx, hb, hml, hown, hts⟩ := id S
  have hS : va_S (zAC ad) H H [] := va_S.rf
  obtain ⟨locs, hlocs⟩ : ∃ x : List Loc, x = [] := ⟨_, rfl⟩
  rw [← hlocs] at hS ⊢
  have hz : H.size = H.size := rfl
  obtain ⟨π, tn, tt, nb, tf, hp, hX⟩ := hP
  obtain ⟨hA, hsv, hhs, t5, t8, t9, t10, t11⟩ := id hX
  obtain ⟨h0, h1, h2, h3, h4, h5, h6, h7, hR⟩ := id hA
  have hl : lv_has ls 3 [(0, .ref (ad 287)), (1, .int (nI (r)))] := hl
  have hin5 : ∀ w ∈ u_ws RX5 TX5 7, w ∈ wsX5_copy := by decide +kernel
  refine lv_aload_n hx hb dX5_copy_0 rfl (lv_at hl 0 rfl) ?_
  refine z_get (ref := RX5) (C := RX5) (T := TX5) (N := 7) hx hb hts hin5 hown hG t5 rfl 0 (by decide) (by decide +kernel) rfl rfl dX5_copy_1 ?_
  refine lv_iload_n hx hb dX5_copy_4 rfl (lv_at hl 1 rfl) ?_
  refine z_roVN (As := [.int (nI (r))]) (rest := []) (host := "CharmBracelets") (q := (RX3, TX3, 5)) S hG (c_X3_find_1 E (ad := ad) (b := 0) (v := nw) (i := r) hr ⟨hr0, hok.h16 r hr⟩) 1 gX5_copy_X3_find_n66 (List.mem_of_getElem? (i := 18) rfl) (by decide +kernel) rfl kX3_find.2 ⟨Nat.le_of_ble_eq_true rfl, Nat.le_of_ble_eq_true rfl⟩ ⟨Nat.zero_le _, Nat.zero_le _⟩ (hA) rfl h0 rfl hl.1 rfl rfl (Nat.le_of_ble_eq_true rfl) dX5_copy_5 ?_
  refine lv_astore_n (lv' := [(2, .ref (ad (0 + 9 + 2 * r))), (0, .ref (ad 287)), (1, .int (nI (r)))]) hx hb dX5_copy_8 rfl hl (by decide) rfl (fun ls hl => ?_)
  refine lv_aload_n hx hb dX5_copy_9 rfl (lv_at hl 0 rfl) ?_
  refine lv_ifnonnull (tgt := 15) hx hb dX5_copy_10 (by decide) ?_
  refine lv_aload_n hx hb dX5_copy_15 rfl (lv_at hl 1 rfl) ?_
  refine lv_aload_n hx hb dX5_copy_16 rfl (lv_at hl 0 rfl) ?_
  refine z_wrV (As := [.ref (ad (0 + 9 + 2 * r))]) (rest := []) (q := (RX5, TX5, 7)) S hG (c_X5_addFromBox_r2 E hinj hp hct hok hr hr0 hbx hfr) 1 gX5_copy_X5_addFromBox rfl kX5_addFromBox ⟨Nat.le_of_ble_eq_true rfl, Nat.le_of_ble_eq_true rfl⟩ ⟨Nat.zero_le _, Nat.zero_le _⟩ (hX) rfl t5 rfl hl.1 rfl rfl (Nat.le_of_ble_eq_true rfl) dX5_copy_17 hS (fun _ h => h) (fun Hn locs h_2 q_1 o_3 hS => ?_)
  have hz : Hn.size = H.size := q_1.trans hz
  obtain ⟨π, hp, hX⟩ := h_2
  exact hret _ _ _ _ _ hS (hz) dX5_copy_20 (rfl) (zsc hp hX)

set_option maxHeartbeats 4000000 in
set_option maxRecDepth 100000 in
theorem c_X5_remove_0 (E : zEnv) {ad : Nat → Nat} {nw sv : zS} {an : Bool} {hs : Nat → zS} {ct ln : Nat} {cd : Nat → Int32} {x : Int32} (hok : zOk nw) (hinj : zInj ad) (hct : ct ≤ 5) (hq : zfnd (zSz nw) x = none) : zWR E yX5_remove wsX5_remove 5 145 [.ref (ad 287), .int (x)] (fun H => zCW E ad nw sv an hs ct ln cd H) (some (.int (-1))) (fun H => zCW E ad nw sv an hs ct ln cd H) (zAC ad) := by
  refine zWR.ofI (maxL := 4) rfl (Nat.le_of_ble_eq_true rfl) (fun p e s m args below meth c H Q hF hP hret ls hl => ?_)
  have S : CallFix p m c cX5_remove 4 s args wsX5_remove RX5 := hF.1
  have hG := hF.2
  obtain ⟨hx, hb, hml, hown, hts⟩ := id S
  have hS : va_S (zAC ad) H H [] := va_S.rf
  obtain ⟨locs, hlocs⟩ : ∃ x : List Loc, x = [] := ⟨_, rfl⟩
  rw [← hlocs] at hS ⊢
  have hz : H.size = H.size := rfl
  obtain ⟨π, tn, tt, nb, tf, hp, hX⟩ := hP
  obtain ⟨hA, hsv, hhs, t5, t8, t9, t10, t11⟩ := id hX
  obtain ⟨h0, h1, h2, h3, h4, h5, h6, h7, hR⟩ := id hA
  have hl : lv_has ls 4 [(0, .ref (ad 287)), (1, .int (x))] := hl
  have hin5 : ∀ w ∈ u_ws RX5 TX5 7, w ∈ wsX5_remove := by decide +kernel
  refine lv_aload_n hx hb dX5_remove_0 rfl (lv_at hl 0 rfl) ?_
  refine z_get (ref := RX5) (C := RX5) (T := TX5) (N := 7) hx hb hts hin5 hown hG t5 rfl 0 (by decide) (by decide +kernel) rfl rfl dX5_remove_1 ?_
  refine lv_iload_n hx hb dX5_remove_4 rfl (lv_at hl 1 rfl) ?_
  refine z_roVN (As := [.int (x)]) (rest := []) (host := "CharmBracelets") (q := (RX3, TX3, 5)) S hG (c_X3_find_0 E (ad := ad) (b := 0) (v := nw) hok.h16 hq) 1 gX5_remove_X3_find_n66 (List.mem_of_getElem? (i := 18) rfl) (by decide +kernel) rfl kX3_find.2 ⟨Nat.le_of_ble_eq_true rfl, Nat.le_of_ble_eq_true rfl⟩ ⟨Nat.zero_le _, Nat.zero_le _⟩ (hA) rfl h0 rfl hl.1 rfl rfl (Nat.le_of_ble_eq_true rfl) dX5_remove_5 ?_
  refine lv_astore_nN (lv' := [(2, .null), (0, .ref (ad 287)), (1, .int (x))]) hx hb dX5_remove_8 rfl hl (by decide) rfl (fun ls hl => ?_)
  refine lv_aload_nN hx hb dX5_remove_9 rfl (lv_at hl 0 rfl) ?_
  refine lv_ifnonnullN hx hb dX5_remove_10 ?_
  refine lv_iconst (v := (-1)) hx hb dX5_remove_13 (by decide) ?_
  exact hret _ _ _ _ _ hS (hz) dX5_remove_14 (rfl) (zsc hp hX)

set_option maxHeartbeats 4000000 in
set_option maxRecDepth 100000 in
theorem c_X5_remove_1 (E : zEnv) {ad : Nat → Nat} {nw sv : zS} {an : Bool} {hs : Nat → zS} {ct ln : Nat} {cd : Nat → Int32} {r : Nat} (hok : zOk nw) (hinj : zInj ad) (hct : ct ≤ 5) (hr : r < 6) (hr0 : zSz nw r ≠ 0) (hbx : zall (fun t => decide (zBx nw (t + 1) + nI (zcn (zKd nw r) (nI (t + 1)) (zSz nw r)) ≤ nI 99)) 5 = false) : zWR E yX5_remove wsX5_remove 5 145 [.ref (ad 287), .int (nI (r))] (fun H => zCW E ad nw sv an hs ct ln cd H) (some (.int (-3))) (fun H => zCW E ad nw sv an hs ct ln cd H) (zAC ad) := by
  refine zWR.ofI (maxL := 4) rfl (Nat.le_of_ble_eq_true rfl) (fun p e s m args below meth c H Q hF hP hret ls hl => ?_)
  have S : CallFix p m c cX5_remove 4 s args wsX5_remove RX5 := hF.1
  have hG := hF.2
  obtain ⟨hx, hb, hml, hown, hts⟩ := id S
  have hS : va_S (zAC ad) H H [] := va_S.rf
  obtain ⟨locs, hlocs⟩ : ∃ x : List Loc, x = [] := ⟨_, rfl⟩
  rw [← hlocs] at hS ⊢
  have hz : H.size = H.size := rfl
  obtain ⟨π, tn, tt, nb, tf, hp, hX⟩ := hP
  obtain ⟨hA, hsv, hhs, t5, t8, t9, t10, t11⟩ := id hX
  obtain ⟨h0, h1, h2, h3, h4, h5, h6, h7, hR⟩ := id hA
  have hl : lv_has ls 4 [(0, .ref (ad 287)), (1, .int (nI (r)))] := hl
  have hin5 : ∀ w ∈ u_ws RX5 TX5 7, w ∈ wsX5_remove := by decide +kernel
  refine lv_aload_n hx hb dX5_remove_0 rfl (lv_at hl 0 rfl) ?_
  refine z_get (ref := RX5) (C := RX5) (T := TX5) (N := 7) hx hb hts hin5 hown hG t5 rfl 0 (by decide) (by decide +kernel) rfl rfl dX5_remove_1 ?_
  refine lv_iload_n hx hb dX5_remove_4 rfl (lv_at hl 1 rfl) ?_
  refine z_roVN (As := [.int (nI (r))]) (rest := []) (host := "CharmBracelets") (q := (RX3, TX3, 5)) S hG (c_X3_find_1 E (ad := ad) (b := 0) (v := nw) (i := r) hr ⟨hr0, hok.h16 r hr⟩) 1 gX5_remove_X3_find_n66 (List.mem_of_getElem? (i := 18) rfl) (by decide +kernel) rfl kX3_find.2 ⟨Nat.le_of_ble_eq_true rfl, Nat.le_of_ble_eq_true rfl⟩ ⟨Nat.zero_le _, Nat.zero_le _⟩ (hA) rfl h0 rfl hl.1 rfl rfl (Nat.le_of_ble_eq_true rfl) dX5_remove_5 ?_
  refine lv_astore_n (lv' := [(2, .ref (ad (0 + 9 + 2 * r))), (0, .ref (ad 287)), (1, .int (nI (r)))]) hx hb dX5_remove_8 rfl hl (by decide) rfl (fun ls hl => ?_)
  refine lv_aload_n hx hb dX5_remove_9 rfl (lv_at hl 0 rfl) ?_
  refine lv_ifnonnull (tgt := 15) hx hb dX5_remove_10 (by decide) ?_
  refine lv_aload_n hx hb dX5_remove_15 rfl (lv_at hl 1 rfl) ?_
  refine z_get (ref := RX5) (C := RX5) (T := TX5) (N := 7) hx hb hts hin5 hown hG t5 rfl 0 (by decide) (by decide +kernel) rfl rfl dX5_remove_16 ?_
  refine lv_aload_n hx hb dX5_remove_19 rfl (lv_at hl 0 rfl) ?_
  refine z_roVN (As := [.ref (ad (0 + 9 + 2 * r))]) (rest := []) (host := "CharmBracelets") (q := (RX3, TX3, 5)) S hG (c_X3_boxHasRoomFor E (ad := ad) (b := 0) (v := nw) (n := (zSz nw r)) (f := (zKd nw r)) (hok.h16 r hr)) 1 gX5_remove_X3_boxHasRoomFor_n70 (List.mem_of_getElem? (i := 19) rfl) (by decide +kernel) rfl kX3_boxHasRoomFor.2 ⟨Nat.le_of_ble_eq_true rfl, Nat.le_of_ble_eq_true rfl⟩ ⟨Nat.zero_le _, Nat.zero_le _⟩ (⟨hA, hR r (by omega)⟩) rfl h0 rfl hl.1 rfl rfl (Nat.le_of_ble_eq_true rfl) dX5_remove_20 ?_
  refine z_bne (tgt := 29) hx hb dX5_remove_23 (by decide) (fun c_1 => by exfalso; rw [hbx] at c_1; cases c_1) (fun c_1 => ?_)
  refine lv_bipush (v := (-3)) hx hb dX5_remove_26 (by decide) ?_
  exact hret _ _ _ _ _ hS (hz) dX5_remove_28 (rfl) (zsc hp hX)

set_option maxHeartbeats 4000000 in
set_option maxRecDepth 100000 in
theorem c_X5_remove_2 (E : zEnv) {ad : Nat → Nat} {nw sv : zS} {an : Bool} {hs : Nat → zS} {ct ln : Nat} {cd : Nat → Int32} {r : Nat} (hok : zOk nw) (hinj : zInj ad) (hct : ct ≤ 5) (hr : r < 6) (hr0 : zSz nw r ≠ 0) (hbx : zall (fun t => decide (zBx nw (t + 1) + nI (zcn (zKd nw r) (nI (t + 1)) (zSz nw r)) ≤ nI 99)) 5 = true) : zWR E yX5_remove wsX5_remove 5 145 [.ref (ad 287), .int (nI (r))] (fun H => zCW E ad nw sv an hs ct ln cd H) (some (.int (nI ((zSz nw r) - zcn (zKd nw r) 0 (zSz nw r))))) (fun H => zCW E ad (zsRg (zsBx nw (zti (zBx nw) (fun t => zcn (zKd nw r) (nI t) (zSz nw r)) 5)) r 0 (fun _ => 0)) sv an (zrH hs ct nw) (zrC ct) ln cd H) (zAC ad) := by
  refine zWR.ofI (maxL := 4) rfl (Nat.le_of_ble_eq_true rfl) (fun p e s m args below meth c H Q hF hP hret ls hl => ?_)
  have S : CallFix p m c cX5_remove 4 s args wsX5_remove RX5 := hF.1
  have hG := hF.2
  obtain ⟨hx, hb, hml, hown, hts⟩ := id S
  have hS : va_S (zAC ad) H H [] := va_S.rf
  obtain ⟨locs, hlocs⟩ : ∃ x : List Loc, x = [] := ⟨_, rfl⟩
  rw [← hlocs] at hS ⊢
  have hz : H.size = H.size := rfl
  obtain ⟨π, tn, tt, nb, tf, hp, hX⟩ := hP
  obtain ⟨hA, hsv, hhs, t5, t8, t9, t10, t11⟩ := id hX
  obtain ⟨h0, h1, h2, h3, h4, h5, h6, h7, hR⟩ := id hA
  have hl : lv_has ls 4 [(0, .ref (ad 287)), (1, .int (nI (r)))] := hl
  have hin5 : ∀ w ∈ u_ws RX5 TX5 7, w ∈ wsX5_remove := by decide +kernel
  refine lv_aload_n hx hb dX5_remove_0 rfl (lv_at hl 0 rfl) ?_
  refine z_get (ref := RX5) (C := RX5) (T := TX5) (N := 7) hx hb hts hin5 hown hG t5 rfl 0 (by decide) (by decide +kernel) rfl rfl dX5_remove_1 ?_
  refine lv_iload_n hx hb dX5_remove_4 rfl (lv_at hl 1 rfl) ?_
  refine z_roVN (As := [.int (nI (r))]) (rest := []) (host := "CharmBracelets") (q := (RX3, TX3, 5)) S hG (c_X3_find_1 E (ad := ad) (b := 0) (v := nw) (i := r) hr ⟨hr0, hok.h16 r hr⟩) 1 gX5_remove_X3_find_n66 (List.mem_of_getElem? (i := 18) rfl) (by decide +kernel) rfl kX3_find.2 ⟨Nat.le_of_ble_eq_true rfl, Nat.le_of_ble_eq_true rfl⟩ ⟨Nat.zero_le _, Nat.zero_le _⟩ (hA) rfl h0 rfl hl.1 rfl rfl (Nat.le_of_ble_eq_true rfl) dX5_remove_5 ?_
  refine lv_astore_n (lv' := [(2, .ref (ad (0 + 9 + 2 * r))), (0, .ref (ad 287)), (1, .int (nI (r)))]) hx hb dX5_remove_8 rfl hl (by decide) rfl (fun ls hl => ?_)
  refine lv_aload_n hx hb dX5_remove_9 rfl (lv_at hl 0 rfl) ?_
  refine lv_ifnonnull (tgt := 15) hx hb dX5_remove_10 (by decide) ?_
  refine lv_aload_n hx hb dX5_remove_15 rfl (lv_at hl 1 rfl) ?_
  refine z_get (ref := RX5) (C := RX5) (T := TX5) (N := 7) hx hb hts hin5 hown hG t5 rfl 0 (by decide) (by decide +kernel) rfl rfl dX5_remove_16 ?_
  refine lv_aload_n hx hb dX5_remove_19 rfl (lv_at hl 0 rfl) ?_
  refine z_roVN (As := [.ref (ad (0 + 9 + 2 * r))]) (rest := []) (host := "CharmBracelets") (q := (RX3, TX3, 5)) S hG (c_X3_boxHasRoomFor E (ad := ad) (b := 0) (v := nw) (n := (zSz nw r)) (f := (zKd nw r)) (hok.h16 r hr)) 1 gX5_remove_X3_boxHasRoomFor_n70 (List.mem_of_getElem? (i := 19) rfl) (by decide +kernel) rfl kX3_boxHasRoomFor.2 ⟨Nat.le_of_ble_eq_true rfl, Nat.le_of_ble_eq_true rfl⟩ ⟨Nat.zero_le _, Nat.zero_le _⟩ (⟨hA, hR r (by omega)⟩) rfl h0 rfl hl.1 rfl rfl (Nat.le_of_ble_eq_true rfl) dX5_remove_20 ?_
  refine z_bne (tgt := 29) hx hb dX5_remove_23 (by decide) (fun c_1 => ?_) (fun c_1 => by exfalso; rw [hbx] at c_1; cases c_1)
  refine lv_aload_n hx hb dX5_remove_29 rfl (lv_at hl 1 rfl) ?_
  refine z_wrV (As := []) (rest := []) (q := (RX5, TX5, 7)) S hG (c_X5_record E hinj hp hct) 0 gX5_remove_X5_record rfl kX5_record ⟨Nat.le_of_ble_eq_true rfl, Nat.le_of_ble_eq_true rfl⟩ ⟨Nat.zero_le _, Nat.zero_le _⟩ (hX) rfl t5 rfl hl.1 rfl rfl (Nat.le_of_ble_eq_true rfl) dX5_remove_30 hS (fun _ h => h) (fun Hn locs h_3 q_2 o_4 hS => ?_)
  have hz : Hn.size = H.size := q_2.trans hz
  obtain ⟨π, hp, hX⟩ := h_3
  obtain ⟨hA, hsv, hhs, t5, t8, t9, t10, t11⟩ := id hX
  obtain ⟨h0, h1, h2, h3, h4, h5, h6, h7, hR⟩ := id hA
  refine lv_aload_n hx hb dX5_remove_33 rfl (lv_at hl 0 rfl) ?_
  refine z_roVN (As := []) (rest := []) (host := "CharmBracelets") (q := (RX2, TX2, 2)) S hG (c_X2_charms E (n := (zSz nw r)) (f := (zKd nw r)) (hok.h16 r hr)) 0 gX5_remove_X2_charms_n74 (List.mem_of_getElem? (i := 20) rfl) (by decide +kernel) rfl kX2_charms.2 ⟨Nat.le_of_ble_eq_true rfl, Nat.le_of_ble_eq_true rfl⟩ ⟨Nat.zero_le _, Nat.zero_le _⟩ (hR r (by omega)) rfl (hR r (by omega)).1 rfl hl.1 rfl rfl (Nat.le_of_ble_eq_true rfl) dX5_remove_34 ?_
  refine lv_istore_n (lv' := [(3, .int (nI ((zSz nw r) - zcn (zKd nw r) 0 (zSz nw r)))), (2, .ref (ad (0 + 9 + 2 * r))), (0, .ref (ad 287)), (1, .int (nI (r)))]) hx hb dX5_remove_37 rfl hl (by decide) rfl (fun ls hl => ?_)
  refine lv_aload_n hx hb dX5_remove_38 rfl (lv_at hl 2 rfl) ?_
  refine z_get (ref := RX5) (C := RX5) (T := TX5) (N := 7) hx hb hts hin5 hown hG t5 rfl 0 (by decide) (by decide +kernel) rfl rfl dX5_remove_39 ?_
  refine lv_aload_n hx hb dX5_remove_42 rfl (lv_at hl 1 rfl) ?_
  refine z_wrVN (As := [.ref (ad (0 + 9 + 2 * r))]) (rest := []) (host := "CharmBracelets") (q := (RX3, TX3, 5)) S hG (c_X3_putBack E (ad := ad) (b := 0) (v := nw) hinj (by decide) hr (hok.h16 r hr)) 1 gX5_remove_X3_putBack_n78 (List.mem_of_getElem? (i := 21) rfl) (by decide +kernel) rfl kX3_putBack.2 ⟨Nat.le_of_ble_eq_true rfl, Nat.le_of_ble_eq_true rfl⟩ ⟨Nat.zero_le _, Nat.zero_le _⟩ (hA) rfl h0 rfl hl.1 rfl rfl (Nat.le_of_ble_eq_true rfl) dX5_remove_43 hS (fun q h => h.elim (fun e => ⟨_, by decide, e⟩) (fun h => h.elim (fun e => ⟨_, by omega, e⟩) (fun e => ⟨_, by omega, e⟩))) (fun Hn locs h_6 q_5 o_7 hS => ?_)
  have hz : Hn.size = H.size := q_5.trans hz
  have hX := zX_now hinj hp hX (fun q hq => o_7 q (fun z => z.elim (hq (0 + 1) (by decide)) (fun z => z.elim (hq (0 + 9 + 2 * r) (by omega)) (hq (0 + 10 + 2 * r) (by omega))))) h_6
  refine lv_iload_n hx hb dX5_remove_46 rfl (lv_at hl 0 rfl) ?_
  exact hret _ _ _ _ _ hS (hz) dX5_remove_47 (rfl) (zsc hp hX)

set_option maxHeartbeats 4000000 in
set_option maxRecDepth 100000 in
theorem c_X5_hang_0 (E : zEnv) {ad : Nat → Nat} {nw sv : zS} {an : Bool} {hs : Nat → zS} {ct ln : Nat} {cd : Nat → Int32} {x y w : Int32} (hok : zOk nw) (hinj : zInj ad) (hct : ct ≤ 5) (hq : zfnd (zSz nw) x = none) : zWR E yX5_hang wsX5_hang 5 145 [.ref (ad 287), .int (x), .int (y), .int (w)] (fun H => zCW E ad nw sv an hs ct ln cd H) (some (.int (-1))) (fun H => zCW E ad nw sv an hs ct ln cd H) (zAC ad) := by
  refine zWR.ofI (maxL := 5) rfl (Nat.le_of_ble_eq_true rfl) (fun p e s m args below meth c H Q hF hP hret ls hl => ?_)
  have S : CallFix p m c cX5_hang 5 s args wsX5_hang RX5 := hF.1
  have hG := hF.2
  obtain ⟨hx, hb, hml, hown, hts⟩ := id S
  have hS : va_S (zAC ad) H H [] := va_S.rf
  obtain ⟨locs, hlocs⟩ : ∃ x : List Loc, x = [] := ⟨_, rfl⟩
  rw [← hlocs] at hS ⊢
  have hz : H.size = H.size := rfl
  obtain ⟨π, tn, tt, nb, tf, hp, hX⟩ := hP
  obtain ⟨hA, hsv, hhs, t5, t8, t9, t10, t11⟩ := id hX
  obtain ⟨h0, h1, h2, h3, h4, h5, h6, h7, hR⟩ := id hA
  have hl : lv_has ls 5 [(0, .ref (ad 287)), (1, .int (x)), (2, .int (y)), (3, .int (w))] := hl
  have hin3 : ∀ w ∈ u_ws RX3 TX3 5, w ∈ wsX5_hang := by decide +kernel
  have hin5 : ∀ w ∈ u_ws RX5 TX5 7, w ∈ wsX5_hang := by decide +kernel
  refine lv_aload_n hx hb dX5_hang_0 rfl (lv_at hl 0 rfl) ?_
  refine z_get (ref := RX5) (C := RX5) (T := TX5) (N := 7) hx hb hts hin5 hown hG t5 rfl 0 (by decide) (by decide +kernel) rfl rfl dX5_hang_1 ?_
  refine lv_iload_n hx hb dX5_hang_4 rfl (lv_at hl 1 rfl) ?_
  refine z_roVN (As := [.int (x)]) (rest := []) (host := "CharmBracelets") (q := (RX3, TX3, 5)) S hG (c_X3_find_0 E (ad := ad) (b := 0) (v := nw) hok.h16 hq) 1 gX5_hang_X3_find_n66 (List.mem_of_getElem? (i := 18) rfl) (by decide +kernel) rfl kX3_find.2 ⟨Nat.le_of_ble_eq_true rfl, Nat.le_of_ble_eq_true rfl⟩ ⟨Nat.zero_le _, Nat.zero_le _⟩ (hA) rfl h0 rfl hl.1 rfl rfl (Nat.le_of_ble_eq_true rfl) dX5_hang_5 ?_
  refine lv_astoreN (lv' := [(4, .null), (0, .ref (ad 287)), (1, .int (x)), (2, .int (y)), (3, .int (w))]) hx hb dX5_hang_8 hl (by decide) rfl (fun ls hl => ?_)
  refine lv_aloadN hx hb dX5_hang_10 (lv_at hl 0 rfl) ?_
  refine lv_ifnullN (tgt := 31) hx hb dX5_hang_12 (by decide) ?_
  refine lv_iconst (v := (-1)) hx hb dX5_hang_31 (by decide) ?_
  exact hret _ _ _ _ _ hS (hz) dX5_hang_32 (rfl) (zsc hp hX)

set_option maxHeartbeats 4000000 in
set_option maxRecDepth 100000 in
theorem c_X5_hang_1 (E : zEnv) {ad : Nat → Nat} {nw sv : zS} {an : Bool} {hs : Nat → zS} {ct ln : Nat} {cd : Nat → Int32} {r : Nat} {y w : Int32} (hok : zOk nw) (hinj : zInj ad) (hct : ct ≤ 5) (hr : r < 6) (hr0 : zSz nw r ≠ 0) (hy : zin y 0 ((zSz nw r) - 1) = false) : zWR E yX5_hang wsX5_hang 5 145 [.ref (ad 287), .int (nI (r)), .int (y), .int (w)] (fun H => zCW E ad nw sv an hs ct ln cd H) (some (.int (-1))) (fun H => zCW E ad nw sv an hs ct ln cd H) (zAC ad) := by
  refine zWR.ofI (maxL := 5) rfl (Nat.le_of_ble_eq_true rfl) (fun p e s m args below meth c H Q hF hP hret ls hl => ?_)
  have S : CallFix p m c cX5_hang 5 s args wsX5_hang RX5 := hF.1
  have hG := hF.2
  obtain ⟨hx, hb, hml, hown, hts⟩ := id S
  have hS : va_S (zAC ad) H H [] := va_S.rf
  obtain ⟨locs, hlocs⟩ : ∃ x : List Loc, x = [] := ⟨_, rfl⟩
  rw [← hlocs] at hS ⊢
  have hz : H.size = H.size := rfl
  obtain ⟨π, tn, tt, nb, tf, hp, hX⟩ := hP
  obtain ⟨hA, hsv, hhs, t5, t8, t9, t10, t11⟩ := id hX
  obtain ⟨h0, h1, h2, h3, h4, h5, h6, h7, hR⟩ := id hA
  have hn := hok.sz hr hr0
  have hl : lv_has ls 5 [(0, .ref (ad 287)), (1, .int (nI (r))), (2, .int (y)), (3, .int (w))] := hl
  have hin3 : ∀ w ∈ u_ws RX3 TX3 5, w ∈ wsX5_hang := by decide +kernel
  have hin5 : ∀ w ∈ u_ws RX5 TX5 7, w ∈ wsX5_hang := by decide +kernel
  refine lv_aload_n hx hb dX5_hang_0 rfl (lv_at hl 0 rfl) ?_
  refine z_get (ref := RX5) (C := RX5) (T := TX5) (N := 7) hx hb hts hin5 hown hG t5 rfl 0 (by decide) (by decide +kernel) rfl rfl dX5_hang_1 ?_
  refine lv_iload_n hx hb dX5_hang_4 rfl (lv_at hl 1 rfl) ?_
  refine z_roVN (As := [.int (nI (r))]) (rest := []) (host := "CharmBracelets") (q := (RX3, TX3, 5)) S hG (c_X3_find_1 E (ad := ad) (b := 0) (v := nw) (i := r) hr ⟨hr0, hok.h16 r hr⟩) 1 gX5_hang_X3_find_n66 (List.mem_of_getElem? (i := 18) rfl) (by decide +kernel) rfl kX3_find.2 ⟨Nat.le_of_ble_eq_true rfl, Nat.le_of_ble_eq_true rfl⟩ ⟨Nat.zero_le _, Nat.zero_le _⟩ (hA) rfl h0 rfl hl.1 rfl rfl (Nat.le_of_ble_eq_true rfl) dX5_hang_5 ?_
  refine lv_astore (lv' := [(4, .ref (ad (0 + 9 + 2 * r))), (0, .ref (ad 287)), (1, .int (nI (r))), (2, .int (y)), (3, .int (w))]) hx hb dX5_hang_8 hl (by decide) rfl (fun ls hl => ?_)
  refine lv_aload hx hb dX5_hang_10 (lv_at hl 0 rfl) ?_
  refine lv_ifnull hx hb dX5_hang_12 ?_
  refine lv_aload hx hb dX5_hang_15 (lv_at hl 0 rfl) ?_
  refine lv_iload_n hx hb dX5_hang_17 rfl (lv_at hl 3 rfl) ?_
  refine z_roVN (As := [.int (y)]) (rest := []) (host := "CharmBracelets") (q := (RX2, TX2, 2)) S hG (c_X2_hasSlot E (n := (zSz nw r)) (f := (zKd nw r)) (x := y) hn) 1 gX5_hang_X2_hasSlot_n82 (List.mem_of_getElem? (i := 23) rfl) (by decide +kernel) rfl kX2_hasSlot.2 ⟨Nat.le_of_ble_eq_true rfl, Nat.le_of_ble_eq_true rfl⟩ ⟨Nat.zero_le _, Nat.zero_le _⟩ (hR r (by omega)) rfl (hR r (by omega)).1 rfl hl.1 rfl rfl (Nat.le_of_ble_eq_true rfl) dX5_hang_18 ?_
  refine z_beq (tgt := 31) hx hb dX5_hang_21 (by decide) (fun c_1 => ?_) (fun c_1 => by exfalso; rw [hy] at c_1; cases c_1)
  refine lv_iconst (v := (-1)) hx hb dX5_hang_31 (by decide) ?_
  exact hret _ _ _ _ _ hS (hz) dX5_hang_32 (rfl) (zsc hp hX)

set_option maxHeartbeats 4000000 in
set_option maxRecDepth 100000 in
theorem c_X5_hang_2 (E : zEnv) {ad : Nat → Nat} {nw sv : zS} {an : Bool} {hs : Nat → zS} {ct ln : Nat} {cd : Nat → Int32} {r j : Nat} {w : Int32} (hok : zOk nw) (hinj : zInj ad) (hct : ct ≤ 5) (hr : r < 6) (hr0 : zSz nw r ≠ 0) (hj : j < (zSz nw r)) (hw : zin w 1 5 = false) : zWR E yX5_hang wsX5_hang 5 145 [.ref (ad 287), .int (nI (r)), .int (nI (j)), .int (w)] (fun H => zCW E ad nw sv an hs ct ln cd H) (some (.int (-1))) (fun H => zCW E ad nw sv an hs ct ln cd H) (zAC ad) := by
  refine zWR.ofI (maxL := 5) rfl (Nat.le_of_ble_eq_true rfl) (fun p e s m args below meth c H Q hF hP hret ls hl => ?_)
  have S : CallFix p m c cX5_hang 5 s args wsX5_hang RX5 := hF.1
  have hG := hF.2
  obtain ⟨hx, hb, hml, hown, hts⟩ := id S
  have hS : va_S (zAC ad) H H [] := va_S.rf
  obtain ⟨locs, hlocs⟩ : ∃ x : List Loc, x = [] := ⟨_, rfl⟩
  rw [← hlocs] at hS ⊢
  have hz : H.size = H.size := rfl
  obtain ⟨π, tn, tt, nb, tf, hp, hX⟩ := hP
  obtain ⟨hA, hsv, hhs, t5, t8, t9, t10, t11⟩ := id hX
  obtain ⟨h0, h1, h2, h3, h4, h5, h6, h7, hR⟩ := id hA
  have hn := hok.sz hr hr0
  have hl : lv_has ls 5 [(0, .ref (ad 287)), (1, .int (nI (r))), (2, .int (nI (j))), (3, .int (w))] := hl
  have hin3 : ∀ w ∈ u_ws RX3 TX3 5, w ∈ wsX5_hang := by decide +kernel
  have hin5 : ∀ w ∈ u_ws RX5 TX5 7, w ∈ wsX5_hang := by decide +kernel
  refine lv_aload_n hx hb dX5_hang_0 rfl (lv_at hl 0 rfl) ?_
  refine z_get (ref := RX5) (C := RX5) (T := TX5) (N := 7) hx hb hts hin5 hown hG t5 rfl 0 (by decide) (by decide +kernel) rfl rfl dX5_hang_1 ?_
  refine lv_iload_n hx hb dX5_hang_4 rfl (lv_at hl 1 rfl) ?_
  refine z_roVN (As := [.int (nI (r))]) (rest := []) (host := "CharmBracelets") (q := (RX3, TX3, 5)) S hG (c_X3_find_1 E (ad := ad) (b := 0) (v := nw) (i := r) hr ⟨hr0, hok.h16 r hr⟩) 1 gX5_hang_X3_find_n66 (List.mem_of_getElem? (i := 18) rfl) (by decide +kernel) rfl kX3_find.2 ⟨Nat.le_of_ble_eq_true rfl, Nat.le_of_ble_eq_true rfl⟩ ⟨Nat.zero_le _, Nat.zero_le _⟩ (hA) rfl h0 rfl hl.1 rfl rfl (Nat.le_of_ble_eq_true rfl) dX5_hang_5 ?_
  refine lv_astore (lv' := [(4, .ref (ad (0 + 9 + 2 * r))), (0, .ref (ad 287)), (1, .int (nI (r))), (2, .int (nI (j))), (3, .int (w))]) hx hb dX5_hang_8 hl (by decide) rfl (fun ls hl => ?_)
  refine lv_aload hx hb dX5_hang_10 (lv_at hl 0 rfl) ?_
  refine lv_ifnull hx hb dX5_hang_12 ?_
  refine lv_aload hx hb dX5_hang_15 (lv_at hl 0 rfl) ?_
  refine lv_iload_n hx hb dX5_hang_17 rfl (lv_at hl 3 rfl) ?_
  refine z_roVN (As := [.int (nI (j))]) (rest := []) (host := "CharmBracelets") (q := (RX2, TX2, 2)) S hG (c_X2_hasSlot E (n := (zSz nw r)) (f := (zKd nw r)) (x := (nI j)) hn) 1 gX5_hang_X2_hasSlot_n82 (List.mem_of_getElem? (i := 23) rfl) (by decide +kernel) rfl kX2_hasSlot.2 ⟨Nat.le_of_ble_eq_true rfl, Nat.le_of_ble_eq_true rfl⟩ ⟨Nat.zero_le _, Nat.zero_le _⟩ (hR r (by omega)) rfl (hR r (by omega)).1 rfl hl.1 rfl rfl (Nat.le_of_ble_eq_true rfl) dX5_hang_18 ?_
  refine z_beq (tgt := 31) hx hb dX5_hang_21 (by decide) (fun c_1 => by exfalso; rw [zin_y (by omega) (by omega) (by omega)] at c_1; cases c_1) (fun c_1 => ?_)
  refine lv_iload_n hx hb dX5_hang_24 rfl (lv_at hl 4 rfl) ?_
  refine z_roSX (As := [.int (w)]) (rest := []) S hG (c_X5_isCharm E) 1 gX5_hang_X5_isCharm rfl kX5_isCharm.2 ⟨Nat.le_of_ble_eq_true rfl, Nat.le_of_ble_eq_true rfl⟩ ⟨Nat.zero_le _, Nat.zero_le _⟩ (trivial) rfl hl.1 rfl rfl (Nat.le_of_ble_eq_true rfl) dX5_hang_25 ?_
  refine z_bne (tgt := 33) hx hb dX5_hang_28 (by decide) (fun c_2 => by exfalso; rw [hw] at c_2; cases c_2) (fun c_2 => ?_)
  refine lv_iconst (v := (-1)) hx hb dX5_hang_31 (by decide) ?_
  exact hret _ _ _ _ _ hS (hz) dX5_hang_32 (rfl) (zsc hp hX)

set_option maxHeartbeats 4000000 in
set_option maxRecDepth 100000 in
theorem c_X5_hang_3 (E : zEnv) {ad : Nat → Nat} {nw sv : zS} {an : Bool} {hs : Nat → zS} {ct ln : Nat} {cd : Nat → Int32} {r j w : Nat} (hok : zOk nw) (hinj : zInj ad) (hct : ct ≤ 5) (hr : r < 6) (hr0 : zSz nw r ≠ 0) (hj : j < (zSz nw r)) (hw : 1 ≤ w ∧ w ≤ 5) (he : ¬ (zKd nw r) j = 0) : zWR E yX5_hang wsX5_hang 5 145 [.ref (ad 287), .int (nI (r)), .int (nI (j)), .int (nI (w))] (fun H => zCW E ad nw sv an hs ct ln cd H) (some (.int (-3))) (fun H => zCW E ad nw sv an hs ct ln cd H) (zAC ad) := by
  refine zWR.ofI (maxL := 5) rfl (Nat.le_of_ble_eq_true rfl) (fun p e s m args below meth c H Q hF hP hret ls hl => ?_)
  have S : CallFix p m c cX5_hang 5 s args wsX5_hang RX5 := hF.1
  have hG := hF.2
  obtain ⟨hx, hb, hml, hown, hts⟩ := id S
  have hS : va_S (zAC ad) H H [] := va_S.rf
  obtain ⟨locs, hlocs⟩ : ∃ x : List Loc, x = [] := ⟨_, rfl⟩
  rw [← hlocs] at hS ⊢
  have hz : H.size = H.size := rfl
  obtain ⟨π, tn, tt, nb, tf, hp, hX⟩ := hP
  obtain ⟨hA, hsv, hhs, t5, t8, t9, t10, t11⟩ := id hX
  obtain ⟨h0, h1, h2, h3, h4, h5, h6, h7, hR⟩ := id hA
  have hn := hok.sz hr hr0
  have hl : lv_has ls 5 [(0, .ref (ad 287)), (1, .int (nI (r))), (2, .int (nI (j))), (3, .int (nI (w)))] := hl
  have hin3 : ∀ w ∈ u_ws RX3 TX3 5, w ∈ wsX5_hang := by decide +kernel
  have hin5 : ∀ w ∈ u_ws RX5 TX5 7, w ∈ wsX5_hang := by decide +kernel
  refine lv_aload_n hx hb dX5_hang_0 rfl (lv_at hl 0 rfl) ?_
  refine z_get (ref := RX5) (C := RX5) (T := TX5) (N := 7) hx hb hts hin5 hown hG t5 rfl 0 (by decide) (by decide +kernel) rfl rfl dX5_hang_1 ?_
  refine lv_iload_n hx hb dX5_hang_4 rfl (lv_at hl 1 rfl) ?_
  refine z_roVN (As := [.int (nI (r))]) (rest := []) (host := "CharmBracelets") (q := (RX3, TX3, 5)) S hG (c_X3_find_1 E (ad := ad) (b := 0) (v := nw) (i := r) hr ⟨hr0, hok.h16 r hr⟩) 1 gX5_hang_X3_find_n66 (List.mem_of_getElem? (i := 18) rfl) (by decide +kernel) rfl kX3_find.2 ⟨Nat.le_of_ble_eq_true rfl, Nat.le_of_ble_eq_true rfl⟩ ⟨Nat.zero_le _, Nat.zero_le _⟩ (hA) rfl h0 rfl hl.1 rfl rfl (Nat.le_of_ble_eq_true rfl) dX5_hang_5 ?_
  refine lv_astore (lv' := [(4, .ref (ad (0 + 9 + 2 * r))), (0, .ref (ad 287)), (1, .int (nI (r))), (2, .int (nI (j))), (3, .int (nI (w)))]) hx hb dX5_hang_8 hl (by decide) rfl (fun ls hl => ?_)
  refine lv_aload hx hb dX5_hang_10 (lv_at hl 0 rfl) ?_
  refine lv_ifnull hx hb dX5_hang_12 ?_
  refine lv_aload hx hb dX5_hang_15 (lv_at hl 0 rfl) ?_
  refine lv_iload_n hx hb dX5_hang_17 rfl (lv_at hl 3 rfl) ?_
  refine z_roVN (As := [.int (nI (j))]) (rest := []) (host := "CharmBracelets") (q := (RX2, TX2, 2)) S hG (c_X2_hasSlot E (n := (zSz nw r)) (f := (zKd nw r)) (x := (nI j)) hn) 1 gX5_hang_X2_hasSlot_n82 (List.mem_of_getElem? (i := 23) rfl) (by decide +kernel) rfl kX2_hasSlot.2 ⟨Nat.le_of_ble_eq_true rfl, Nat.le_of_ble_eq_true rfl⟩ ⟨Nat.zero_le _, Nat.zero_le _⟩ (hR r (by omega)) rfl (hR r (by omega)).1 rfl hl.1 rfl rfl (Nat.le_of_ble_eq_true rfl) dX5_hang_18 ?_
  refine z_beq (tgt := 31) hx hb dX5_hang_21 (by decide) (fun c_1 => by exfalso; rw [zin_y (by omega) (by omega) (by omega)] at c_1; cases c_1) (fun c_1 => ?_)
  refine lv_iload_n hx hb dX5_hang_24 rfl (lv_at hl 4 rfl) ?_
  refine z_roSX (As := [.int (nI (w))]) (rest := []) S hG (c_X5_isCharm E) 1 gX5_hang_X5_isCharm rfl kX5_isCharm.2 ⟨Nat.le_of_ble_eq_true rfl, Nat.le_of_ble_eq_true rfl⟩ ⟨Nat.zero_le _, Nat.zero_le _⟩ (trivial) rfl hl.1 rfl rfl (Nat.le_of_ble_eq_true rfl) dX5_hang_25 ?_
  refine z_bne (tgt := 33) hx hb dX5_hang_28 (by decide) (fun c_2 => ?_) (fun c_2 => by exfalso; rw [zin_y hw.1 hw.2 (by decide)] at c_2; cases c_2)
  refine lv_aload hx hb dX5_hang_33 (lv_at hl 0 rfl) ?_
  refine lv_iload_n hx hb dX5_hang_35 rfl (lv_at hl 3 rfl) ?_
  refine z_roVN (As := [.int (nI (j))]) (rest := []) (host := "CharmBracelets") (q := (RX2, TX2, 2)) S hG (c_X2_at E (n := (zSz nw r)) (f := (zKd nw r)) (j := j) (by omega)) 1 gX5_hang_X2_at_n85 (List.mem_of_getElem? (i := 24) rfl) (by decide +kernel) rfl kX2_at.2 ⟨Nat.le_of_ble_eq_true rfl, Nat.le_of_ble_eq_true rfl⟩ ⟨Nat.zero_le _, Nat.zero_le _⟩ (hR r (by omega)) rfl (hR r (by omega)).1 rfl hl.1 rfl rfl (Nat.le_of_ble_eq_true rfl) dX5_hang_36 ?_
  refine lv_if_ne (tgt := 55) hx hb dX5_hang_39 (by decide) (fun c_3 => ?_) (fun c_3 => by exfalso; exact he c_3)
  refine lv_bipush (v := (-3)) hx hb dX5_hang_55 (by decide) ?_
  exact hret _ _ _ _ _ hS (hz) dX5_hang_57 (rfl) (zsc hp hX)

set_option maxHeartbeats 4000000 in
set_option maxRecDepth 100000 in
theorem c_X5_hang_4 (E : zEnv) {ad : Nat → Nat} {nw sv : zS} {an : Bool} {hs : Nat → zS} {ct ln : Nat} {cd : Nat → Int32} {r j w : Nat} (hok : zOk nw) (hinj : zInj ad) (hct : ct ≤ 5) (hr : r < 6) (hr0 : zSz nw r ≠ 0) (hj : j < (zSz nw r)) (hw : 1 ≤ w ∧ w ≤ 5) (he : (zKd nw r) j = 0) (hb9 : zBx nw w = 0) : zWR E yX5_hang wsX5_hang 5 145 [.ref (ad 287), .int (nI (r)), .int (nI (j)), .int (nI (w))] (fun H => zCW E ad nw sv an hs ct ln cd H) (some (.int (-3))) (fun H => zCW E ad nw sv an hs ct ln cd H) (zAC ad) := by
  refine zWR.ofI (maxL := 5) rfl (Nat.le_of_ble_eq_true rfl) (fun p e s m args below meth c H Q hF hP hret ls hl => ?_)
  have S : CallFix p m c cX5_hang 5 s args wsX5_hang RX5 := hF.1
  have hG := hF.2
  obtain ⟨hx, hb, hml, hown, hts⟩ := id S
  have hS : va_S (zAC ad) H H [] := va_S.rf
  obtain ⟨locs, hlocs⟩ : ∃ x : List Loc, x = [] := ⟨_, rfl⟩
  rw [← hlocs] at hS ⊢
  have hz : H.size = H.size := rfl
  obtain ⟨π, tn, tt, nb, tf, hp, hX⟩ := hP
  obtain ⟨hA, hsv, hhs, t5, t8, t9, t10, t11⟩ := id hX
  obtain ⟨h0, h1, h2, h3, h4, h5, h6, h7, hR⟩ := id hA
  have hn := hok.sz hr hr0
  have hl : lv_has ls 5 [(0, .ref (ad 287)), (1, .int (nI (r))), (2, .int (nI (j))), (3, .int (nI (w)))] := hl
  have hin3 : ∀ w ∈ u_ws RX3 TX3 5, w ∈ wsX5_hang := by decide +kernel
  have hin5 : ∀ w ∈ u_ws RX5 TX5 7, w ∈ wsX5_hang := by decide +kernel
  refine lv_aload_n hx hb dX5_hang_0 rfl (lv_at hl 0 rfl) ?_
  refine z_get (ref := RX5) (C := RX5) (T := TX5) (N := 7) hx hb hts hin5 hown hG t5 rfl 0 (by decide) (by decide +kernel) rfl rfl dX5_hang_1 ?_
  refine lv_iload_n hx hb dX5_hang_4 rfl (lv_at hl 1 rfl) ?_
  refine z_roVN (As := [.int (nI (r))]) (rest := []) (host := "CharmBracelets") (q := (RX3, TX3, 5)) S hG (c_X3_find_1 E (ad := ad) (b := 0) (v := nw) (i := r) hr ⟨hr0, hok.h16 r hr⟩) 1 gX5_hang_X3_find_n66 (List.mem_of_getElem? (i := 18) rfl) (by decide +kernel) rfl kX3_find.2 ⟨Nat.le_of_ble_eq_true rfl, Nat.le_of_ble_eq_true rfl⟩ ⟨Nat.zero_le _, Nat.zero_le _⟩ (hA) rfl h0 rfl hl.1 rfl rfl (Nat.le_of_ble_eq_true rfl) dX5_hang_5 ?_
  refine lv_astore (lv' := [(4, .ref (ad (0 + 9 + 2 * r))), (0, .ref (ad 287)), (1, .int (nI (r))), (2, .int (nI (j))), (3, .int (nI (w)))]) hx hb dX5_hang_8 hl (by decide) rfl (fun ls hl => ?_)
  refine lv_aload hx hb dX5_hang_10 (lv_at hl 0 rfl) ?_
  refine lv_ifnull hx hb dX5_hang_12 ?_
  refine lv_aload hx hb dX5_hang_15 (lv_at hl 0 rfl) ?_
  refine lv_iload_n hx hb dX5_hang_17 rfl (lv_at hl 3 rfl) ?_
  refine z_roVN (As := [.int (nI (j))]) (rest := []) (host := "CharmBracelets") (q := (RX2, TX2, 2)) S hG (c_X2_hasSlot E (n := (zSz nw r)) (f := (zKd nw r)) (x := (nI j)) hn) 1 gX5_hang_X2_hasSlot_n82 (List.mem_of_getElem? (i := 23) rfl) (by decide +kernel) rfl kX2_hasSlot.2 ⟨Nat.le_of_ble_eq_true rfl, Nat.le_of_ble_eq_true rfl⟩ ⟨Nat.zero_le _, Nat.zero_le _⟩ (hR r (by omega)) rfl (hR r (by omega)).1 rfl hl.1 rfl rfl (Nat.le_of_ble_eq_true rfl) dX5_hang_18 ?_
  refine z_beq (tgt := 31) hx hb dX5_hang_21 (by decide) (fun c_1 => by exfalso; rw [zin_y (by omega) (by omega) (by omega)] at c_1; cases c_1) (fun c_1 => ?_)
  refine lv_iload_n hx hb dX5_hang_24 rfl (lv_at hl 4 rfl) ?_
  refine z_roSX (As := [.int (nI (w))]) (rest := []) S hG (c_X5_isCharm E) 1 gX5_hang_X5_isCharm rfl kX5_isCharm.2 ⟨Nat.le_of_ble_eq_true rfl, Nat.le_of_ble_eq_true rfl⟩ ⟨Nat.zero_le _, Nat.zero_le _⟩ (trivial) rfl hl.1 rfl rfl (Nat.le_of_ble_eq_true rfl) dX5_hang_25 ?_
  refine z_bne (tgt := 33) hx hb dX5_hang_28 (by decide) (fun c_2 => ?_) (fun c_2 => by exfalso; rw [zin_y hw.1 hw.2 (by decide)] at c_2; cases c_2)
  refine lv_aload hx hb dX5_hang_33 (lv_at hl 0 rfl) ?_
  refine lv_iload_n hx hb dX5_hang_35 rfl (lv_at hl 3 rfl) ?_
  refine z_roVN (As := [.int (nI (j))]) (rest := []) (host := "CharmBracelets") (q := (RX2, TX2, 2)) S hG (c_X2_at E (n := (zSz nw r)) (f := (zKd nw r)) (j := j) (by omega)) 1 gX5_hang_X2_at_n85 (List.mem_of_getElem? (i := 24) rfl) (by decide +kernel) rfl kX2_at.2 ⟨Nat.le_of_ble_eq_true rfl, Nat.le_of_ble_eq_true rfl⟩ ⟨Nat.zero_le _, Nat.zero_le _⟩ (hR r (by omega)) rfl (hR r (by omega)).1 rfl hl.1 rfl rfl (Nat.le_of_ble_eq_true rfl) dX5_hang_36 ?_
  refine lv_if_ne (tgt := 55) hx hb dX5_hang_39 (by decide) (fun c_3 => by exfalso; exact c_3 he) (fun c_3 => ?_)
  refine lv_aload_n hx hb dX5_hang_42 rfl (lv_at hl 1 rfl) ?_
  refine z_get (ref := RX5) (C := RX5) (T := TX5) (N := 7) hx hb hts hin5 hown hG t5 rfl 0 (by decide) (by decide +kernel) rfl rfl dX5_hang_43 ?_
  refine z_getN (own := RX5) (ref := RX3) (host := "CharmBracelets") (C := RX3) (T := TX3) (N := 5) hx hb hts hin3 hown hG h0 rfl 0 (by decide) (List.mem_of_getElem? (i := 8) rfl) rfl rfl dX5_hang_46 ?_
  refine lv_iload_n hx hb dX5_hang_49 rfl (lv_at hl 4 rfl) ?_
  refine z_iald (j := w) hx hb hG h1 ⟨by omega, by omega⟩ dX5_hang_50 ?_
  refine lv_iconst (v := nI (1)) hx hb dX5_hang_51 (by decide) ?_
  refine lv_icmp_ge (tgt := 58) hx hb dX5_hang_52 (by decide) (fun c_4 => by exfalso; rw [hb9] at c_4; exact absurd c_4 (by decide)) (fun c_4 => ?_)
  refine lv_bipush (v := (-3)) hx hb dX5_hang_55 (by decide) ?_
  exact hret _ _ _ _ _ hS (hz) dX5_hang_57 (rfl) (zsc hp hX)

set_option maxHeartbeats 4000000 in
set_option maxRecDepth 100000 in
theorem c_X5_hang_5 (E : zEnv) {ad : Nat → Nat} {nw sv : zS} {an : Bool} {hs : Nat → zS} {ct ln : Nat} {cd : Nat → Int32} {r j w : Nat} {u : Nat} (hok : zOk nw) (hinj : zInj ad) (hct : ct ≤ 5) (hr : r < 6) (hr0 : zSz nw r ≠ 0) (hj : j < (zSz nw r)) (hw : 1 ≤ w ∧ w ≤ 5) (he : (zKd nw r) j = 0) (hb9 : zBx nw w = nI (u + 1) ∧ u < 99) : zWR E yX5_hang wsX5_hang 5 145 [.ref (ad 287), .int (nI (r)), .int (nI (j)), .int (nI (w))] (fun H => zCW E ad nw sv an hs ct ln cd H) (some (.int (nI u))) (fun H => zCW E ad (zsBx (zsRg nw r (zSz nw r) (upd (zKd nw r) j (nI w))) (upd (zBx nw) w (nI u))) sv an (zrH hs ct nw) (zrC ct) ln cd H) (zAC ad) := by
  refine zWR.ofI (maxL := 5) rfl (Nat.le_of_ble_eq_true rfl) (fun p e s m args below meth c H Q hF hP hret ls hl => ?_)
  have S : CallFix p m c cX5_hang 5 s args wsX5_hang RX5 := hF.1
  have hG := hF.2
  obtain ⟨hx, hb, hml, hown, hts⟩ := id S
  have hS : va_S (zAC ad) H H [] := va_S.rf
  obtain ⟨locs, hlocs⟩ : ∃ x : List Loc, x = [] := ⟨_, rfl⟩
  rw [← hlocs] at hS ⊢
  have hz : H.size = H.size := rfl
  obtain ⟨π, tn, tt, nb, tf, hp, hX⟩ := hP
  obtain ⟨hA, hsv, hhs, t5, t8, t9, t10, t11⟩ := id hX
  obtain ⟨h0, h1, h2, h3, h4, h5, h6, h7, hR⟩ := id hA
  have hn := hok.sz hr hr0
  have hl : lv_has ls 5 [(0, .ref (ad 287)), (1, .int (nI (r))), (2, .int (nI (j))), (3, .int (nI (w)))] := hl
  have hin3 : ∀ w ∈ u_ws RX3 TX3 5, w ∈ wsX5_hang := by decide +kernel
  have hin5 : ∀ w ∈ u_ws RX5 TX5 7, w ∈ wsX5_hang := by decide +kernel
  refine lv_aload_n hx hb dX5_hang_0 rfl (lv_at hl 0 rfl) ?_
  refine z_get (ref := RX5) (C := RX5) (T := TX5) (N := 7) hx hb hts hin5 hown hG t5 rfl 0 (by decide) (by decide +kernel) rfl rfl dX5_hang_1 ?_
  refine lv_iload_n hx hb dX5_hang_4 rfl (lv_at hl 1 rfl) ?_
  refine z_roVN (As := [.int (nI (r))]) (rest := []) (host := "CharmBracelets") (q := (RX3, TX3, 5)) S hG (c_X3_find_1 E (ad := ad) (b := 0) (v := nw) (i := r) hr ⟨hr0, hok.h16 r hr⟩) 1 gX5_hang_X3_find_n66 (List.mem_of_getElem? (i := 18) rfl) (by decide +kernel) rfl kX3_find.2 ⟨Nat.le_of_ble_eq_true rfl, Nat.le_of_ble_eq_true rfl⟩ ⟨Nat.zero_le _, Nat.zero_le _⟩ (hA) rfl h0 rfl hl.1 rfl rfl (Nat.le_of_ble_eq_true rfl) dX5_hang_5 ?_
  refine lv_astore (lv' := [(4, .ref (ad (0 + 9 + 2 * r))), (0, .ref (ad 287)), (1, .int (nI (r))), (2, .int (nI (j))), (3, .int (nI (w)))]) hx hb dX5_hang_8 hl (by decide) rfl (fun ls hl => ?_)
  refine lv_aload hx hb dX5_hang_10 (lv_at hl 0 rfl) ?_
  refine lv_ifnull hx hb dX5_hang_12 ?_
  refine lv_aload hx hb dX5_hang_15 (lv_at hl 0 rfl) ?_
  refine lv_iload_n hx hb dX5_hang_17 rfl (lv_at hl 3 rfl) ?_
  refine z_roVN (As := [.int (nI (j))]) (rest := []) (host := "CharmBracelets") (q := (RX2, TX2, 2)) S hG (c_X2_hasSlot E (n := (zSz nw r)) (f := (zKd nw r)) (x := (nI j)) hn) 1 gX5_hang_X2_hasSlot_n82 (List.mem_of_getElem? (i := 23) rfl) (by decide +kernel) rfl kX2_hasSlot.2 ⟨Nat.le_of_ble_eq_true rfl, Nat.le_of_ble_eq_true rfl⟩ ⟨Nat.zero_le _, Nat.zero_le _⟩ (hR r (by omega)) rfl (hR r (by omega)).1 rfl hl.1 rfl rfl (Nat.le_of_ble_eq_true rfl) dX5_hang_18 ?_
  refine z_beq (tgt := 31) hx hb dX5_hang_21 (by decide) (fun c_1 => by exfalso; rw [zin_y (by omega) (by omega) (by omega)] at c_1; cases c_1) (fun c_1 => ?_)
  refine lv_iload_n hx hb dX5_hang_24 rfl (lv_at hl 4 rfl) ?_
  refine z_roSX (As := [.int (nI (w))]) (rest := []) S hG (c_X5_isCharm E) 1 gX5_hang_X5_isCharm rfl kX5_isCharm.2 ⟨Nat.le_of_ble_eq_true rfl, Nat.le_of_ble_eq_true rfl⟩ ⟨Nat.zero_le _, Nat.zero_le _⟩ (trivial) rfl hl.1 rfl rfl (Nat.le_of_ble_eq_true rfl) dX5_hang_25 ?_
  refine z_bne (tgt := 33) hx hb dX5_hang_28 (by decide) (fun c_2 => ?_) (fun c_2 => by exfalso; rw [zin_y hw.1 hw.2 (by decide)] at c_2; cases c_2)
  refine lv_aload hx hb dX5_hang_33 (lv_at hl 0 rfl) ?_
  refine lv_iload_n hx hb dX5_hang_35 rfl (lv_at hl 3 rfl) ?_
  refine z_roVN (As := [.int (nI (j))]) (rest := []) (host := "CharmBracelets") (q := (RX2, TX2, 2)) S hG (c_X2_at E (n := (zSz nw r)) (f := (zKd nw r)) (j := j) (by omega)) 1 gX5_hang_X2_at_n85 (List.mem_of_getElem? (i := 24) rfl) (by decide +kernel) rfl kX2_at.2 ⟨Nat.le_of_ble_eq_true rfl, Nat.le_of_ble_eq_true rfl⟩ ⟨Nat.zero_le _, Nat.zero_le _⟩ (hR r (by omega)) rfl (hR r (by omega)).1 rfl hl.1 rfl rfl (Nat.le_of_ble_eq_true rfl) dX5_hang_36 ?_
  refine lv_if_ne (tgt := 55) hx hb dX5_hang_39 (by decide) (fun c_3 => by exfalso; exact c_3 he) (fun c_3 => ?_)
  refine lv_aload_n hx hb dX5_hang_42 rfl (lv_at hl 1 rfl) ?_
  refine z_get (ref := RX5) (C := RX5) (T := TX5) (N := 7) hx hb hts hin5 hown hG t5 rfl 0 (by decide) (by decide +kernel) rfl rfl dX5_hang_43 ?_
  refine z_getN (own := RX5) (ref := RX3) (host := "CharmBracelets") (C := RX3) (T := TX3) (N := 5) hx hb hts hin3 hown hG h0 rfl 0 (by decide) (List.mem_of_getElem? (i := 8) rfl) rfl rfl dX5_hang_46 ?_
  refine lv_iload_n hx hb dX5_hang_49 rfl (lv_at hl 4 rfl) ?_
  refine z_iald (j := w) hx hb hG h1 ⟨by omega, by omega⟩ dX5_hang_50 ?_
  refine z_top (y := nI (u + 1)) (hb9.1) ?_
  refine lv_iconst (v := nI (1)) hx hb dX5_hang_51 (by decide) ?_
  refine z_cge (tgt := 58) hx hb dX5_hang_52 (by decide) ⟨by omega, by omega⟩ (fun c_4 => ?_) (fun c_4 => by exfalso; omega)
  refine lv_aload_n hx hb dX5_hang_58 rfl (lv_at hl 1 rfl) ?_
  refine z_wrV (As := []) (rest := []) (q := (RX5, TX5, 7)) S hG (c_X5_record E hinj hp hct) 0 gX5_hang_X5_record rfl kX5_record ⟨Nat.le_of_ble_eq_true rfl, Nat.le_of_ble_eq_true rfl⟩ ⟨Nat.zero_le _, Nat.zero_le _⟩ (hX) rfl t5 rfl hl.1 rfl rfl (Nat.le_of_ble_eq_true rfl) dX5_hang_59 hS (fun _ h => h) (fun Hn locs h_6 q_5 o_7 hS => ?_)
  have hz : Hn.size = H.size := q_5.trans hz
  obtain ⟨π, hp, hX⟩ := h_6
  obtain ⟨hA, hsv, hhs, t5, t8, t9, t10, t11⟩ := id hX
  obtain ⟨h0, h1, h2, h3, h4, h5, h6, h7, hR⟩ := id hA
  refine lv_aload hx hb dX5_hang_62 (lv_at hl 0 rfl) ?_
  refine lv_iload_n hx hb dX5_hang_64 rfl (lv_at hl 3 rfl) ?_
  refine lv_iload_n hx hb dX5_hang_65 rfl (lv_at hl 4 rfl) ?_
  refine z_wrVN (As := [.int (nI (j)), .int (nI (w))]) (rest := []) (host := "CharmBracelets") (q := (RX2, TX2, 2)) S hG (c_X2_put E (n := (zSz nw r)) (f := (zKd nw r)) (j := j) (x := nI w) (hinj.ne (by omega) (by omega) (by omega)) (by omega)) 2 gX5_hang_X2_put_n88 (List.mem_of_getElem? (i := 25) rfl) (by decide +kernel) rfl kX2_put.2 ⟨Nat.le_of_ble_eq_true rfl, Nat.le_of_ble_eq_true rfl⟩ ⟨Nat.zero_le _, Nat.zero_le _⟩ (hR r (by omega)) rfl (hR r (by omega)).1 rfl hl.1 rfl rfl (Nat.le_of_ble_eq_true rfl) dX5_hang_66 hS (fun q h => h.elim (fun e => ⟨_, by omega, e⟩) (fun e => ⟨_, by omega, e⟩)) (fun Hn locs h_9 q_8 o_10 hS => ?_)
  have hz : Hn.size = H.size := q_8.trans hz
  have hA1 := zSt_rg (r := r) hA hinj (by decide) (by omega) o_10 h_9
  have hX := zX_now hinj hp hX (fun q hq => o_10 q (fun z => z.elim (hq (0 + 9 + 2 * r) (by omega)) (hq (0 + 10 + 2 * r) (by omega)))) hA1
  obtain ⟨hA, hsv, hhs, t5, t8, t9, t10, t11⟩ := id hX
  obtain ⟨h0, h1, h2, h3, h4, h5, h6, h7, hR⟩ := id hA
  refine lv_aload_n hx hb dX5_hang_69 rfl (lv_at hl 1 rfl) ?_
  refine z_get (ref := RX5) (C := RX5) (T := TX5) (N := 7) hx hb hts hin5 hown hG t5 rfl 0 (by decide) (by decide +kernel) rfl rfl dX5_hang_70 ?_
  refine z_getN (own := RX5) (ref := RX3) (host := "CharmBracelets") (C := RX3) (T := TX3) (N := 5) hx hb hts hin3 hown hG h0 rfl 0 (by decide) (List.mem_of_getElem? (i := 8) rfl) rfl rfl dX5_hang_73 ?_
  refine lv_iload_n hx hb dX5_hang_76 rfl (lv_at hl 4 rfl) ?_
  refine lv_dup2_11 hx hb dX5_hang_77 rfl rfl ?_
  refine z_iald (j := w) hx hb hG h1 ⟨by omega, by omega⟩ dX5_hang_78 ?_
  refine z_top (y := nI (u + 1)) (hb9.1) ?_
  refine lv_iconst (v := nI (1)) hx hb dX5_hang_79 (by decide) ?_
  refine z_isub hx hb dX5_hang_80 (by omega) ?_
  refine z_top (y := nI (u)) (rfl) ?_
  refine z_iast (j := w) hx hb hG h1 ⟨by omega, by omega⟩ hS (⟨1, by decide, rfl⟩) dX5_hang_81 (fun Hn locs h_11 o_12 hS => ?_)
  have hA1 := zSt_bx hA hinj (by decide) o_12.2 (h_11)
  have hX := zX_now hinj hp hX (fun q hq => o_12.2 q (hq (0 + 1) (by decide))) hA1
  have hz : Hn.size = H.size := o_12.1.trans hz
  obtain ⟨hA, hsv, hhs, t5, t8, t9, t10, t11⟩ := id hX
  obtain ⟨h0, h1, h2, h3, h4, h5, h6, h7, hR⟩ := id hA
  refine lv_aload_n hx hb dX5_hang_82 rfl (lv_at hl 1 rfl) ?_
  refine z_get (ref := RX5) (C := RX5) (T := TX5) (N := 7) hx hb hts hin5 hown hG t5 rfl 0 (by decide) (by decide +kernel) rfl rfl dX5_hang_83 ?_
  refine z_getN (own := RX5) (ref := RX3) (host := "CharmBracelets") (C := RX3) (T := TX3) (N := 5) hx hb hts hin3 hown hG h0 rfl 0 (by decide) (List.mem_of_getElem? (i := 8) rfl) rfl rfl dX5_hang_86 ?_
  refine lv_iload_n hx hb dX5_hang_89 rfl (lv_at hl 4 rfl) ?_
  refine z_iald (j := w) hx hb hG h1 ⟨by omega, by omega⟩ dX5_hang_90 ?_
  refine z_top (y := nI (u)) (zup_s) ?_
  exact hret _ _ _ _ _ hS (hz) dX5_hang_91 (rfl) (zsc hp hX)

set_option maxHeartbeats 4000000 in
set_option maxRecDepth 100000 in
theorem c_X5_takeOff_0 (E : zEnv) {ad : Nat → Nat} {nw sv : zS} {an : Bool} {hs : Nat → zS} {ct ln : Nat} {cd : Nat → Int32} {x y : Int32} (hok : zOk nw) (hinj : zInj ad) (hct : ct ≤ 5) (hq : zfnd (zSz nw) x = none) : zWR E yX5_takeOff wsX5_takeOff 5 145 [.ref (ad 287), .int (x), .int (y)] (fun H => zCW E ad nw sv an hs ct ln cd H) (some (.int (-1))) (fun H => zCW E ad nw sv an hs ct ln cd H) (zAC ad) := by
  refine zWR.ofI (maxL := 5) rfl (Nat.le_of_ble_eq_true rfl) (fun p e s m args below meth c H Q hF hP hret ls hl => ?_)
  have S : CallFix p m c cX5_takeOff 5 s args wsX5_takeOff RX5 := hF.1
  have hG := hF.2
  obtain ⟨hx, hb, hml, hown, hts⟩ := id S
  have hS : va_S (zAC ad) H H [] := va_S.rf
  obtain ⟨locs, hlocs⟩ : ∃ x : List Loc, x = [] := ⟨_, rfl⟩
  rw [← hlocs] at hS ⊢
  have hz : H.size = H.size := rfl
  obtain ⟨π, tn, tt, nb, tf, hp, hX⟩ := hP
  obtain ⟨hA, hsv, hhs, t5, t8, t9, t10, t11⟩ := id hX
  obtain ⟨h0, h1, h2, h3, h4, h5, h6, h7, hR⟩ := id hA
  have hl : lv_has ls 5 [(0, .ref (ad 287)), (1, .int (x)), (2, .int (y))] := hl
  have hin3 : ∀ w ∈ u_ws RX3 TX3 5, w ∈ wsX5_takeOff := by decide +kernel
  have hin5 : ∀ w ∈ u_ws RX5 TX5 7, w ∈ wsX5_takeOff := by decide +kernel
  refine lv_aload_n hx hb dX5_takeOff_0 rfl (lv_at hl 0 rfl) ?_
  refine z_get (ref := RX5) (C := RX5) (T := TX5) (N := 7) hx hb hts hin5 hown hG t5 rfl 0 (by decide) (by decide +kernel) rfl rfl dX5_takeOff_1 ?_
  refine lv_iload_n hx hb dX5_takeOff_4 rfl (lv_at hl 1 rfl) ?_
  refine z_roVN (As := [.int (x)]) (rest := []) (host := "CharmBracelets") (q := (RX3, TX3, 5)) S hG (c_X3_find_0 E (ad := ad) (b := 0) (v := nw) hok.h16 hq) 1 gX5_takeOff_X3_find_n66 (List.mem_of_getElem? (i := 18) rfl) (by decide +kernel) rfl kX3_find.2 ⟨Nat.le_of_ble_eq_true rfl, Nat.le_of_ble_eq_true rfl⟩ ⟨Nat.zero_le _, Nat.zero_le _⟩ (hA) rfl h0 rfl hl.1 rfl rfl (Nat.le_of_ble_eq_true rfl) dX5_takeOff_5 ?_
  refine lv_astore_nN (lv' := [(3, .null), (0, .ref (ad 287)), (1, .int (x)), (2, .int (y))]) hx hb dX5_takeOff_8 rfl hl (by decide) rfl (fun ls hl => ?_)
  refine lv_aload_nN hx hb dX5_takeOff_9 rfl (lv_at hl 0 rfl) ?_
  refine lv_ifnullN (tgt := 21) hx hb dX5_takeOff_10 (by decide) ?_
  refine lv_iconst (v := (-1)) hx hb dX5_takeOff_21 (by decide) ?_
  exact hret _ _ _ _ _ hS (hz) dX5_takeOff_22 (rfl) (zsc hp hX)

set_option maxHeartbeats 4000000 in
set_option maxRecDepth 100000 in
theorem c_X5_takeOff_1 (E : zEnv) {ad : Nat → Nat} {nw sv : zS} {an : Bool} {hs : Nat → zS} {ct ln : Nat} {cd : Nat → Int32} {r : Nat} {y : Int32} (hok : zOk nw) (hinj : zInj ad) (hct : ct ≤ 5) (hr : r < 6) (hr0 : zSz nw r ≠ 0) (hy : zin y 0 ((zSz nw r) - 1) = false) : zWR E yX5_takeOff wsX5_takeOff 5 145 [.ref (ad 287), .int (nI (r)), .int (y)] (fun H => zCW E ad nw sv an hs ct ln cd H) (some (.int (-1))) (fun H => zCW E ad nw sv an hs ct ln cd H) (zAC ad) := by
  refine zWR.ofI (maxL := 5) rfl (Nat.le_of_ble_eq_true rfl) (fun p e s m args below meth c H Q hF hP hret ls hl => ?_)
  have S : CallFix p m c cX5_takeOff 5 s args wsX5_takeOff RX5 := hF.1
  have hG := hF.2
  obtain ⟨hx, hb, hml, hown, hts⟩ := id S
  have hS : va_S (zAC ad) H H [] := va_S.rf
  obtain ⟨locs, hlocs⟩ : ∃ x : List Loc, x = [] := ⟨_, rfl⟩
  rw [← hlocs] at hS ⊢
  have hz : H.size = H.size := rfl
  obtain ⟨π, tn, tt, nb, tf, hp, hX⟩ := hP
  obtain ⟨hA, hsv, hhs, t5, t8, t9, t10, t11⟩ := id hX
  obtain ⟨h0, h1, h2, h3, h4, h5, h6, h7, hR⟩ := id hA
  have hn := hok.sz hr hr0
  have hl : lv_has ls 5 [(0, .ref (ad 287)), (1, .int (nI (r))), (2, .int (y))] := hl
  have hin3 : ∀ w ∈ u_ws RX3 TX3 5, w ∈ wsX5_takeOff := by decide +kernel
  have hin5 : ∀ w ∈ u_ws RX5 TX5 7, w ∈ wsX5_takeOff := by decide +kernel
  refine lv_aload_n hx hb dX5_takeOff_0 rfl (lv_at hl 0 rfl) ?_
  refine z_get (ref := RX5) (C := RX5) (T := TX5) (N := 7) hx hb hts hin5 hown hG t5 rfl 0 (by decide) (by decide +kernel) rfl rfl dX5_takeOff_1 ?_
  refine lv_iload_n hx hb dX5_takeOff_4 rfl (lv_at hl 1 rfl) ?_
  refine z_roVN (As := [.int (nI (r))]) (rest := []) (host := "CharmBracelets") (q := (RX3, TX3, 5)) S hG (c_X3_find_1 E (ad := ad) (b := 0) (v := nw) (i := r) hr ⟨hr0, hok.h16 r hr⟩) 1 gX5_takeOff_X3_find_n66 (List.mem_of_getElem? (i := 18) rfl) (by decide +kernel) rfl kX3_find.2 ⟨Nat.le_of_ble_eq_true rfl, Nat.le_of_ble_eq_true rfl⟩ ⟨Nat.zero_le _, Nat.zero_le _⟩ (hA) rfl h0 rfl hl.1 rfl rfl (Nat.le_of_ble_eq_true rfl) dX5_takeOff_5 ?_
  refine lv_astore_n (lv' := [(3, .ref (ad (0 + 9 + 2 * r))), (0, .ref (ad 287)), (1, .int (nI (r))), (2, .int (y))]) hx hb dX5_takeOff_8 rfl hl (by decide) rfl (fun ls hl => ?_)
  refine lv_aload_n hx hb dX5_takeOff_9 rfl (lv_at hl 0 rfl) ?_
  refine lv_ifnull hx hb dX5_takeOff_10 ?_
  refine lv_aload_n hx hb dX5_takeOff_13 rfl (lv_at hl 0 rfl) ?_
  refine lv_iload_n hx hb dX5_takeOff_14 rfl (lv_at hl 3 rfl) ?_
  refine z_roVN (As := [.int (y)]) (rest := []) (host := "CharmBracelets") (q := (RX2, TX2, 2)) S hG (c_X2_hasSlot E (n := (zSz nw r)) (f := (zKd nw r)) (x := y) hn) 1 gX5_takeOff_X2_hasSlot_n82 (List.mem_of_getElem? (i := 23) rfl) (by decide +kernel) rfl kX2_hasSlot.2 ⟨Nat.le_of_ble_eq_true rfl, Nat.le_of_ble_eq_true rfl⟩ ⟨Nat.zero_le _, Nat.zero_le _⟩ (hR r (by omega)) rfl (hR r (by omega)).1 rfl hl.1 rfl rfl (Nat.le_of_ble_eq_true rfl) dX5_takeOff_15 ?_
  refine z_bne (tgt := 23) hx hb dX5_takeOff_18 (by decide) (fun c_1 => by exfalso; rw [hy] at c_1; cases c_1) (fun c_1 => ?_)
  refine lv_iconst (v := (-1)) hx hb dX5_takeOff_21 (by decide) ?_
  exact hret _ _ _ _ _ hS (hz) dX5_takeOff_22 (rfl) (zsc hp hX)

set_option maxHeartbeats 4000000 in
set_option maxRecDepth 100000 in
theorem c_X5_takeOff_2 (E : zEnv) {ad : Nat → Nat} {nw sv : zS} {an : Bool} {hs : Nat → zS} {ct ln : Nat} {cd : Nat → Int32} {r j : Nat} (hok : zOk nw) (hinj : zInj ad) (hct : ct ≤ 5) (hr : r < 6) (hr0 : zSz nw r ≠ 0) (hj : j < (zSz nw r)) (he : (zKd nw r) j = nI 0) : zWR E yX5_takeOff wsX5_takeOff 5 145 [.ref (ad 287), .int (nI (r)), .int (nI (j))] (fun H => zCW E ad nw sv an hs ct ln cd H) (some (.int (-3))) (fun H => zCW E ad nw sv an hs ct ln cd H) (zAC ad) := by
  refine zWR.ofI (maxL := 5) rfl (Nat.le_of_ble_eq_true rfl) (fun p e s m args below meth c H Q hF hP hret ls hl => ?_)
  have S : CallFix p m c cX5_takeOff 5 s args wsX5_takeOff RX5 := hF.1
  have hG := hF.2
  obtain ⟨hx, hb, hml, hown, hts⟩ := id S
  have hS : va_S (zAC ad) H H [] := va_S.rf
  obtain ⟨locs, hlocs⟩ : ∃ x : List Loc, x = [] := ⟨_, rfl⟩
  rw [← hlocs] at hS ⊢
  have hz : H.size = H.size := rfl
  obtain ⟨π, tn, tt, nb, tf, hp, hX⟩ := hP
  obtain ⟨hA, hsv, hhs, t5, t8, t9, t10, t11⟩ := id hX
  obtain ⟨h0, h1, h2, h3, h4, h5, h6, h7, hR⟩ := id hA
  have hn := hok.sz hr hr0
  have hl : lv_has ls 5 [(0, .ref (ad 287)), (1, .int (nI (r))), (2, .int (nI (j)))] := hl
  have hin3 : ∀ w ∈ u_ws RX3 TX3 5, w ∈ wsX5_takeOff := by decide +kernel
  have hin5 : ∀ w ∈ u_ws RX5 TX5 7, w ∈ wsX5_takeOff := by decide +kernel
  refine lv_aload_n hx hb dX5_takeOff_0 rfl (lv_at hl 0 rfl) ?_
  refine z_get (ref := RX5) (C := RX5) (T := TX5) (N := 7) hx hb hts hin5 hown hG t5 rfl 0 (by decide) (by decide +kernel) rfl rfl dX5_takeOff_1 ?_
  refine lv_iload_n hx hb dX5_takeOff_4 rfl (lv_at hl 1 rfl) ?_
  refine z_roVN (As := [.int (nI (r))]) (rest := []) (host := "CharmBracelets") (q := (RX3, TX3, 5)) S hG (c_X3_find_1 E (ad := ad) (b := 0) (v := nw) (i := r) hr ⟨hr0, hok.h16 r hr⟩) 1 gX5_takeOff_X3_find_n66 (List.mem_of_getElem? (i := 18) rfl) (by decide +kernel) rfl kX3_find.2 ⟨Nat.le_of_ble_eq_true rfl, Nat.le_of_ble_eq_true rfl⟩ ⟨Nat.zero_le _, Nat.zero_le _⟩ (hA) rfl h0 rfl hl.1 rfl rfl (Nat.le_of_ble_eq_true rfl) dX5_takeOff_5 ?_
  refine lv_astore_n (lv' := [(3, .ref (ad (0 + 9 + 2 * r))), (0, .ref (ad 287)), (1, .int (nI (r))), (2, .int (nI (j)))]) hx hb dX5_takeOff_8 rfl hl (by decide) rfl (fun ls hl => ?_)
  refine lv_aload_n hx hb dX5_takeOff_9 rfl (lv_at hl 0 rfl) ?_
  refine lv_ifnull hx hb dX5_takeOff_10 ?_
  refine lv_aload_n hx hb dX5_takeOff_13 rfl (lv_at hl 0 rfl) ?_
  refine lv_iload_n hx hb dX5_takeOff_14 rfl (lv_at hl 3 rfl) ?_
  refine z_roVN (As := [.int (nI (j))]) (rest := []) (host := "CharmBracelets") (q := (RX2, TX2, 2)) S hG (c_X2_hasSlot E (n := (zSz nw r)) (f := (zKd nw r)) (x := (nI j)) hn) 1 gX5_takeOff_X2_hasSlot_n82 (List.mem_of_getElem? (i := 23) rfl) (by decide +kernel) rfl kX2_hasSlot.2 ⟨Nat.le_of_ble_eq_true rfl, Nat.le_of_ble_eq_true rfl⟩ ⟨Nat.zero_le _, Nat.zero_le _⟩ (hR r (by omega)) rfl (hR r (by omega)).1 rfl hl.1 rfl rfl (Nat.le_of_ble_eq_true rfl) dX5_takeOff_15 ?_
  refine z_bne (tgt := 23) hx hb dX5_takeOff_18 (by decide) (fun c_1 => ?_) (fun c_1 => by exfalso; rw [zin_y (by omega) (by omega) (by omega)] at c_1; cases c_1)
  refine lv_aload_n hx hb dX5_takeOff_23 rfl (lv_at hl 0 rfl) ?_
  refine lv_iload_n hx hb dX5_takeOff_24 rfl (lv_at hl 3 rfl) ?_
  refine z_roVN (As := [.int (nI (j))]) (rest := []) (host := "CharmBracelets") (q := (RX2, TX2, 2)) S hG (c_X2_at E (n := (zSz nw r)) (f := (zKd nw r)) (j := j) (by omega)) 1 gX5_takeOff_X2_at_n85 (List.mem_of_getElem? (i := 24) rfl) (by decide +kernel) rfl kX2_at.2 ⟨Nat.le_of_ble_eq_true rfl, Nat.le_of_ble_eq_true rfl⟩ ⟨Nat.zero_le _, Nat.zero_le _⟩ (hR r (by omega)) rfl (hR r (by omega)).1 rfl hl.1 rfl rfl (Nat.le_of_ble_eq_true rfl) dX5_takeOff_25 ?_
  refine z_top (y := nI (0)) (he) ?_
  refine lv_istore (lv' := [(4, .int (nI (0))), (3, .ref (ad (0 + 9 + 2 * r))), (0, .ref (ad 287)), (1, .int (nI (r))), (2, .int (nI (j)))]) hx hb dX5_takeOff_28 hl (by decide) rfl (fun ls hl => ?_)
  refine lv_iload hx hb dX5_takeOff_30 (lv_at hl 0 rfl) ?_
  refine z_roSX (As := [.int (nI (0))]) (rest := []) S hG (c_X5_isCharm E) 1 gX5_takeOff_X5_isCharm rfl kX5_isCharm.2 ⟨Nat.le_of_ble_eq_true rfl, Nat.le_of_ble_eq_true rfl⟩ ⟨Nat.zero_le _, Nat.zero_le _⟩ (trivial) rfl hl.1 rfl rfl (Nat.le_of_ble_eq_true rfl) dX5_takeOff_32 ?_
  refine z_beq (tgt := 53) hx hb dX5_takeOff_35 (by decide) (fun c_2 => ?_) (fun c_2 => by exfalso; exact absurd c_2 (by decide))
  refine lv_bipush (v := (-3)) hx hb dX5_takeOff_53 (by decide) ?_
  exact hret _ _ _ _ _ hS (hz) dX5_takeOff_55 (rfl) (zsc hp hX)

set_option maxHeartbeats 4000000 in
set_option maxRecDepth 100000 in
theorem c_X5_takeOff_3 (E : zEnv) {ad : Nat → Nat} {nw sv : zS} {an : Bool} {hs : Nat → zS} {ct ln : Nat} {cd : Nat → Int32} {r j w : Nat} (hok : zOk nw) (hinj : zInj ad) (hct : ct ≤ 5) (hr : r < 6) (hr0 : zSz nw r ≠ 0) (hj : j < (zSz nw r)) (hw : 1 ≤ w ∧ w ≤ 5) (he : (zKd nw r) j = nI w) (hb9 : zBx nw w = nI 99) : zWR E yX5_takeOff wsX5_takeOff 5 145 [.ref (ad 287), .int (nI (r)), .int (nI (j))] (fun H => zCW E ad nw sv an hs ct ln cd H) (some (.int (-3))) (fun H => zCW E ad nw sv an hs ct ln cd H) (zAC ad) := by
  refine zWR.ofI (maxL := 5) rfl (Nat.le_of_ble_eq_true rfl) (fun p e s m args below meth c H Q hF hP hret ls hl => ?_)
  have S : CallFix p m c cX5_takeOff 5 s args wsX5_takeOff RX5 := hF.1
  have hG := hF.2
  obtain ⟨hx, hb, hml, hown, hts⟩ := id S
  have hS : va_S (zAC ad) H H [] := va_S.rf
  obtain ⟨locs, hlocs⟩ : ∃ x : List Loc, x = [] := ⟨_, rfl⟩
  rw [← hlocs] at hS ⊢
  have hz : H.size = H.size := rfl
  obtain ⟨π, tn, tt, nb, tf, hp, hX⟩ := hP
  obtain ⟨hA, hsv, hhs, t5, t8, t9, t10, t11⟩ := id hX
  obtain ⟨h0, h1, h2, h3, h4, h5, h6, h7, hR⟩ := id hA
  have hn := hok.sz hr hr0
  have hl : lv_has ls 5 [(0, .ref (ad 287)), (1, .int (nI (r))), (2, .int (nI (j)))] := hl
  have hin3 : ∀ w ∈ u_ws RX3 TX3 5, w ∈ wsX5_takeOff := by decide +kernel
  have hin5 : ∀ w ∈ u_ws RX5 TX5 7, w ∈ wsX5_takeOff := by decide +kernel
  refine lv_aload_n hx hb dX5_takeOff_0 rfl (lv_at hl 0 rfl) ?_
  refine z_get (ref := RX5) (C := RX5) (T := TX5) (N := 7) hx hb hts hin5 hown hG t5 rfl 0 (by decide) (by decide +kernel) rfl rfl dX5_takeOff_1 ?_
  refine lv_iload_n hx hb dX5_takeOff_4 rfl (lv_at hl 1 rfl) ?_
  refine z_roVN (As := [.int (nI (r))]) (rest := []) (host := "CharmBracelets") (q := (RX3, TX3, 5)) S hG (c_X3_find_1 E (ad := ad) (b := 0) (v := nw) (i := r) hr ⟨hr0, hok.h16 r hr⟩) 1 gX5_takeOff_X3_find_n66 (List.mem_of_getElem? (i := 18) rfl) (by decide +kernel) rfl kX3_find.2 ⟨Nat.le_of_ble_eq_true rfl, Nat.le_of_ble_eq_true rfl⟩ ⟨Nat.zero_le _, Nat.zero_le _⟩ (hA) rfl h0 rfl hl.1 rfl rfl (Nat.le_of_ble_eq_true rfl) dX5_takeOff_5 ?_
  refine lv_astore_n (lv' := [(3, .ref (ad (0 + 9 + 2 * r))), (0, .ref (ad 287)), (1, .int (nI (r))), (2, .int (nI (j)))]) hx hb dX5_takeOff_8 rfl hl (by decide) rfl (fun ls hl => ?_)
  refine lv_aload_n hx hb dX5_takeOff_9 rfl (lv_at hl 0 rfl) ?_
  refine lv_ifnull hx hb dX5_takeOff_10 ?_
  refine lv_aload_n hx hb dX5_takeOff_13 rfl (lv_at hl 0 rfl) ?_
  refine lv_iload_n hx hb dX5_takeOff_14 rfl (lv_at hl 3 rfl) ?_
  refine z_roVN (As := [.int (nI (j))]) (rest := []) (host := "CharmBracelets") (q := (RX2, TX2, 2)) S hG (c_X2_hasSlot E (n := (zSz nw r)) (f := (zKd nw r)) (x := (nI j)) hn) 1 gX5_takeOff_X2_hasSlot_n82 (List.mem_of_getElem? (i := 23) rfl) (by decide +kernel) rfl kX2_hasSlot.2 ⟨Nat.le_of_ble_eq_true rfl, Nat.le_of_ble_eq_true rfl⟩ ⟨Nat.zero_le _, Nat.zero_le _⟩ (hR r (by omega)) rfl (hR r (by omega)).1 rfl hl.1 rfl rfl (Nat.le_of_ble_eq_true rfl) dX5_takeOff_15 ?_
  refine z_bne (tgt := 23) hx hb dX5_takeOff_18 (by decide) (fun c_1 => ?_) (fun c_1 => by exfalso; rw [zin_y (by omega) (by omega) (by omega)] at c_1; cases c_1)
  refine lv_aload_n hx hb dX5_takeOff_23 rfl (lv_at hl 0 rfl) ?_
  refine lv_iload_n hx hb dX5_takeOff_24 rfl (lv_at hl 3 rfl) ?_
  refine z_roVN (As := [.int (nI (j))]) (rest := []) (host := "CharmBracelets") (q := (RX2, TX2, 2)) S hG (c_X2_at E (n := (zSz nw r)) (f := (zKd nw r)) (j := j) (by omega)) 1 gX5_takeOff_X2_at_n85 (List.mem_of_getElem? (i := 24) rfl) (by decide +kernel) rfl kX2_at.2 ⟨Nat.le_of_ble_eq_true rfl, Nat.le_of_ble_eq_true rfl⟩ ⟨Nat.zero_le _, Nat.zero_le _⟩ (hR r (by omega)) rfl (hR r (by omega)).1 rfl hl.1 rfl rfl (Nat.le_of_ble_eq_true rfl) dX5_takeOff_25 ?_
  refine z_top (y := nI (w)) (he) ?_
  refine lv_istore (lv' := [(4, .int (nI (w))), (3, .ref (ad (0 + 9 + 2 * r))), (0, .ref (ad 287)), (1, .int (nI (r))), (2, .int (nI (j)))]) hx hb dX5_takeOff_28 hl (by decide) rfl (fun ls hl => ?_)
  refine lv_iload hx hb dX5_takeOff_30 (lv_at hl 0 rfl) ?_
  refine z_roSX (As := [.int (nI (w))]) (rest := []) S hG (c_X5_isCharm E) 1 gX5_takeOff_X5_isCharm rfl kX5_isCharm.2 ⟨Nat.le_of_ble_eq_true rfl, Nat.le_of_ble_eq_true rfl⟩ ⟨Nat.zero_le _, Nat.zero_le _⟩ (trivial) rfl hl.1 rfl rfl (Nat.le_of_ble_eq_true rfl) dX5_takeOff_32 ?_
  refine z_beq (tgt := 53) hx hb dX5_takeOff_35 (by decide) (fun c_2 => by exfalso; rw [zin_y hw.1 hw.2 (by decide)] at c_2; cases c_2) (fun c_2 => ?_)
  refine lv_aload_n hx hb dX5_takeOff_38 rfl (lv_at hl 2 rfl) ?_
  refine z_get (ref := RX5) (C := RX5) (T := TX5) (N := 7) hx hb hts hin5 hown hG t5 rfl 0 (by decide) (by decide +kernel) rfl rfl dX5_takeOff_39 ?_
  refine z_getN (own := RX5) (ref := RX3) (host := "CharmBracelets") (C := RX3) (T := TX3) (N := 5) hx hb hts hin3 hown hG h0 rfl 0 (by decide) (List.mem_of_getElem? (i := 8) rfl) rfl rfl dX5_takeOff_42 ?_
  refine lv_iload hx hb dX5_takeOff_45 (lv_at hl 0 rfl) ?_
  refine z_iald (j := w) hx hb hG h1 ⟨by omega, by omega⟩ dX5_takeOff_47 ?_
  refine z_top (y := nI (99)) (hb9) ?_
  refine lv_bipush (v := nI (99)) hx hb dX5_takeOff_48 (by decide) ?_
  refine z_clt (tgt := 56) hx hb dX5_takeOff_50 (by decide) ⟨by omega, by omega⟩ (fun c_3 => by exfalso; omega) (fun c_3 => ?_)
  refine lv_bipush (v := (-3)) hx hb dX5_takeOff_53 (by decide) ?_
  exact hret _ _ _ _ _ hS (hz) dX5_takeOff_55 (rfl) (zsc hp hX)

set_option maxHeartbeats 4000000 in
set_option maxRecDepth 100000 in
theorem c_X5_takeOff_4 (E : zEnv) {ad : Nat → Nat} {nw sv : zS} {an : Bool} {hs : Nat → zS} {ct ln : Nat} {cd : Nat → Int32} {r j w u : Nat} (hok : zOk nw) (hinj : zInj ad) (hct : ct ≤ 5) (hr : r < 6) (hr0 : zSz nw r ≠ 0) (hj : j < (zSz nw r)) (hw : 1 ≤ w ∧ w ≤ 5) (he : (zKd nw r) j = nI w) (hb9 : zBx nw w = nI u ∧ u < 99) : zWR E yX5_takeOff wsX5_takeOff 5 145 [.ref (ad 287), .int (nI (r)), .int (nI (j))] (fun H => zCW E ad nw sv an hs ct ln cd H) (some (.int (nI w))) (fun H => zCW E ad (zsBx (zsRg nw r (zSz nw r) (upd (zKd nw r) j (nI 0))) (upd (zBx nw) w (nI (u + 1)))) sv an (zrH hs ct nw) (zrC ct) ln cd H) (zAC ad) := by
  refine zWR.ofI (maxL := 5) rfl (Nat.le_of_ble_eq_true rfl) (fun p e s m args below meth c H Q hF hP hret ls hl => ?_)
  have S : CallFix p m c cX5_takeOff 5 s args wsX5_takeOff RX5 := hF.1
  have hG := hF.2
  obtain ⟨hx, hb, hml, hown, hts⟩ := id S
  have hS : va_S (zAC ad) H H [] := va_S.rf
  obtain ⟨locs, hlocs⟩ : ∃ x : List Loc, x = [] := ⟨_, rfl⟩
  rw [← hlocs] at hS ⊢
  have hz : H.size = H.size := rfl
  obtain ⟨π, tn, tt, nb, tf, hp, hX⟩ := hP
  obtain ⟨hA, hsv, hhs, t5, t8, t9, t10, t11⟩ := id hX
  obtain ⟨h0, h1, h2, h3, h4, h5, h6, h7, hR⟩ := id hA
  have hn := hok.sz hr hr0
  have hl : lv_has ls 5 [(0, .ref (ad 287)), (1, .int (nI (r))), (2, .int (nI (j)))] := hl
  have hin3 : ∀ w ∈ u_ws RX3 TX3 5, w ∈ wsX5_takeOff := by decide +kernel
  have hin5 : ∀ w ∈ u_ws RX5 TX5 7, w ∈ wsX5_takeOff := by decide +kernel
  refine lv_aload_n hx hb dX5_takeOff_0 rfl (lv_at hl 0 rfl) ?_
  refine z_get (ref := RX5) (C := RX5) (T := TX5) (N := 7) hx hb hts hin5 hown hG t5 rfl 0 (by decide) (by decide +kernel) rfl rfl dX5_takeOff_1 ?_
  refine lv_iload_n hx hb dX5_takeOff_4 rfl (lv_at hl 1 rfl) ?_
  refine z_roVN (As := [.int (nI (r))]) (rest := []) (host := "CharmBracelets") (q := (RX3, TX3, 5)) S hG (c_X3_find_1 E (ad := ad) (b := 0) (v := nw) (i := r) hr ⟨hr0, hok.h16 r hr⟩) 1 gX5_takeOff_X3_find_n66 (List.mem_of_getElem? (i := 18) rfl) (by decide +kernel) rfl kX3_find.2 ⟨Nat.le_of_ble_eq_true rfl, Nat.le_of_ble_eq_true rfl⟩ ⟨Nat.zero_le _, Nat.zero_le _⟩ (hA) rfl h0 rfl hl.1 rfl rfl (Nat.le_of_ble_eq_true rfl) dX5_takeOff_5 ?_
  refine lv_astore_n (lv' := [(3, .ref (ad (0 + 9 + 2 * r))), (0, .ref (ad 287)), (1, .int (nI (r))), (2, .int (nI (j)))]) hx hb dX5_takeOff_8 rfl hl (by decide) rfl (fun ls hl => ?_)
  refine lv_aload_n hx hb dX5_takeOff_9 rfl (lv_at hl 0 rfl) ?_
  refine lv_ifnull hx hb dX5_takeOff_10 ?_
  refine lv_aload_n hx hb dX5_takeOff_13 rfl (lv_at hl 0 rfl) ?_
  refine lv_iload_n hx hb dX5_takeOff_14 rfl (lv_at hl 3 rfl) ?_
  refine z_roVN (As := [.int (nI (j))]) (rest := []) (host := "CharmBracelets") (q := (RX2, TX2, 2)) S hG (c_X2_hasSlot E (n := (zSz nw r)) (f := (zKd nw r)) (x := (nI j)) hn) 1 gX5_takeOff_X2_hasSlot_n82 (List.mem_of_getElem? (i := 23) rfl) (by decide +kernel) rfl kX2_hasSlot.2 ⟨Nat.le_of_ble_eq_true rfl, Nat.le_of_ble_eq_true rfl⟩ ⟨Nat.zero_le _, Nat.zero_le _⟩ (hR r (by omega)) rfl (hR r (by omega)).1 rfl hl.1 rfl rfl (Nat.le_of_ble_eq_true rfl) dX5_takeOff_15 ?_
  refine z_bne (tgt := 23) hx hb dX5_takeOff_18 (by decide) (fun c_1 => ?_) (fun c_1 => by exfalso; rw [zin_y (by omega) (by omega) (by omega)] at c_1; cases c_1)
  refine lv_aload_n hx hb dX5_takeOff_23 rfl (lv_at hl 0 rfl) ?_
  refine lv_iload_n hx hb dX5_takeOff_24 rfl (lv_at hl 3 rfl) ?_
  refine z_roVN (As := [.int (nI (j))]) (rest := []) (host := "CharmBracelets") (q := (RX2, TX2, 2)) S hG (c_X2_at E (n := (zSz nw r)) (f := (zKd nw r)) (j := j) (by omega)) 1 gX5_takeOff_X2_at_n85 (List.mem_of_getElem? (i := 24) rfl) (by decide +kernel) rfl kX2_at.2 ⟨Nat.le_of_ble_eq_true rfl, Nat.le_of_ble_eq_true rfl⟩ ⟨Nat.zero_le _, Nat.zero_le _⟩ (hR r (by omega)) rfl (hR r (by omega)).1 rfl hl.1 rfl rfl (Nat.le_of_ble_eq_true rfl) dX5_takeOff_25 ?_
  refine z_top (y := nI (w)) (he) ?_
  refine lv_istore (lv' := [(4, .int (nI (w))), (3, .ref (ad (0 + 9 + 2 * r))), (0, .ref (ad 287)), (1, .int (nI (r))), (2, .int (nI (j)))]) hx hb dX5_takeOff_28 hl (by decide) rfl (fun ls hl => ?_)
  refine lv_iload hx hb dX5_takeOff_30 (lv_at hl 0 rfl) ?_
  refine z_roSX (As := [.int (nI (w))]) (rest := []) S hG (c_X5_isCharm E) 1 gX5_takeOff_X5_isCharm rfl kX5_isCharm.2 ⟨Nat.le_of_ble_eq_true rfl, Nat.le_of_ble_eq_true rfl⟩ ⟨Nat.zero_le _, Nat.zero_le _⟩ (trivial) rfl hl.1 rfl rfl (Nat.le_of_ble_eq_true rfl) dX5_takeOff_32 ?_
  refine z_beq (tgt := 53) hx hb dX5_takeOff_35 (by decide) (fun c_2 => by exfalso; rw [zin_y hw.1 hw.2 (by decide)] at c_2; cases c_2) (fun c_2 => ?_)
  refine lv_aload_n hx hb dX5_takeOff_38 rfl (lv_at hl 2 rfl) ?_
  refine z_get (ref := RX5) (C := RX5) (T := TX5) (N := 7) hx hb hts hin5 hown hG t5 rfl 0 (by decide) (by decide +kernel) rfl rfl dX5_takeOff_39 ?_
  refine z_getN (own := RX5) (ref := RX3) (host := "CharmBracelets") (C := RX3) (T := TX3) (N := 5) hx hb hts hin3 hown hG h0 rfl 0 (by decide) (List.mem_of_getElem? (i := 8) rfl) rfl rfl dX5_takeOff_42 ?_
  refine lv_iload hx hb dX5_takeOff_45 (lv_at hl 0 rfl) ?_
  refine z_iald (j := w) hx hb hG h1 ⟨by omega, by omega⟩ dX5_takeOff_47 ?_
  refine z_top (y := nI (u)) (hb9.1) ?_
  refine lv_bipush (v := nI (99)) hx hb dX5_takeOff_48 (by decide) ?_
  refine z_clt (tgt := 56) hx hb dX5_takeOff_50 (by decide) ⟨by omega, by omega⟩ (fun c_3 => ?_) (fun c_3 => by exfalso; omega)
  refine lv_aload_n hx hb dX5_takeOff_56 rfl (lv_at hl 2 rfl) ?_
  refine z_wrV (As := []) (rest := []) (q := (RX5, TX5, 7)) S hG (c_X5_record E hinj hp hct) 0 gX5_takeOff_X5_record rfl kX5_record ⟨Nat.le_of_ble_eq_true rfl, Nat.le_of_ble_eq_true rfl⟩ ⟨Nat.zero_le _, Nat.zero_le _⟩ (hX) rfl t5 rfl hl.1 rfl rfl (Nat.le_of_ble_eq_true rfl) dX5_takeOff_57 hS (fun _ h => h) (fun Hn locs h_5 q_4 o_6 hS => ?_)
  have hz : Hn.size = H.size := q_4.trans hz
  obtain ⟨π, hp, hX⟩ := h_5
  obtain ⟨hA, hsv, hhs, t5, t8, t9, t10, t11⟩ := id hX
  obtain ⟨h0, h1, h2, h3, h4, h5, h6, h7, hR⟩ := id hA
  refine lv_aload_n hx hb dX5_takeOff_60 rfl (lv_at hl 1 rfl) ?_
  refine lv_iload_n hx hb dX5_takeOff_61 rfl (lv_at hl 4 rfl) ?_
  refine lv_iconst (v := nI (0)) hx hb dX5_takeOff_62 (by decide) ?_
  refine z_wrVN (As := [.int (nI (j)), .int (nI (0))]) (rest := []) (host := "CharmBracelets") (q := (RX2, TX2, 2)) S hG (c_X2_put E (n := (zSz nw r)) (f := (zKd nw r)) (j := j) (x := nI 0) (hinj.ne (by omega) (by omega) (by omega)) (by omega)) 2 gX5_takeOff_X2_put_n88 (List.mem_of_getElem? (i := 25) rfl) (by decide +kernel) rfl kX2_put.2 ⟨Nat.le_of_ble_eq_true rfl, Nat.le_of_ble_eq_true rfl⟩ ⟨Nat.zero_le _, Nat.zero_le _⟩ (hR r (by omega)) rfl (hR r (by omega)).1 rfl hl.1 rfl rfl (Nat.le_of_ble_eq_true rfl) dX5_takeOff_63 hS (fun q h => h.elim (fun e => ⟨_, by omega, e⟩) (fun e => ⟨_, by omega, e⟩)) (fun Hn locs h_8 q_7 o_9 hS => ?_)
  have hz : Hn.size = H.size := q_7.trans hz
  have hA1 := zSt_rg (r := r) hA hinj (by decide) (by omega) o_9 h_8
  have hX := zX_now hinj hp hX (fun q hq => o_9 q (fun z => z.elim (hq (0 + 9 + 2 * r) (by omega)) (hq (0 + 10 + 2 * r) (by omega)))) hA1
  obtain ⟨hA, hsv, hhs, t5, t8, t9, t10, t11⟩ := id hX
  obtain ⟨h0, h1, h2, h3, h4, h5, h6, h7, hR⟩ := id hA
  refine lv_aload_n hx hb dX5_takeOff_66 rfl (lv_at hl 2 rfl) ?_
  refine z_get (ref := RX5) (C := RX5) (T := TX5) (N := 7) hx hb hts hin5 hown hG t5 rfl 0 (by decide) (by decide +kernel) rfl rfl dX5_takeOff_67 ?_
  refine z_getN (own := RX5) (ref := RX3) (host := "CharmBracelets") (C := RX3) (T := TX3) (N := 5) hx hb hts hin3 hown hG h0 rfl 0 (by decide) (List.mem_of_getElem? (i := 8) rfl) rfl rfl dX5_takeOff_70 ?_
  refine lv_iload hx hb dX5_takeOff_73 (lv_at hl 0 rfl) ?_
  refine lv_dup2_11 hx hb dX5_takeOff_75 rfl rfl ?_
  refine z_iald (j := w) hx hb hG h1 ⟨by omega, by omega⟩ dX5_takeOff_76 ?_
  refine z_top (y := nI (u)) (hb9.1) ?_
  refine lv_iconst (v := nI (1)) hx hb dX5_takeOff_77 (by decide) ?_
  refine z_iadd hx hb dX5_takeOff_78 ?_
  refine z_iast (j := w) hx hb hG h1 ⟨by omega, by omega⟩ hS (⟨1, by decide, rfl⟩) dX5_takeOff_79 (fun Hn locs h_10 o_11 hS => ?_)
  have hA1 := zSt_bx hA hinj (by decide) o_11.2 (h_10)
  have hX := zX_now hinj hp hX (fun q hq => o_11.2 q (hq (0 + 1) (by decide))) hA1
  have hz : Hn.size = H.size := o_11.1.trans hz
  obtain ⟨hA, hsv, hhs, t5, t8, t9, t10, t11⟩ := id hX
  obtain ⟨h0, h1, h2, h3, h4, h5, h6, h7, hR⟩ := id hA
  refine lv_iload hx hb dX5_takeOff_80 (lv_at hl 0 rfl) ?_
  exact hret _ _ _ _ _ hS (hz) dX5_takeOff_82 (rfl) (zsc hp hX)

set_option maxHeartbeats 4000000 in
set_option maxRecDepth 100000 in
theorem c_X5_swap_0 (E : zEnv) {ad : Nat → Nat} {nw sv : zS} {an : Bool} {hs : Nat → zS} {ct ln : Nat} {cd : Nat → Int32} {x y w : Int32} (hok : zOk nw) (hinj : zInj ad) (hct : ct ≤ 5) (hq : zfnd (zSz nw) x = none) : zWR E yX5_swap wsX5_swap 5 145 [.ref (ad 287), .int (x), .int (y), .int (w)] (fun H => zCW E ad nw sv an hs ct ln cd H) (some (.int (-1))) (fun H => zCW E ad nw sv an hs ct ln cd H) (zAC ad) := by
  refine zWR.ofI (maxL := 5) rfl (Nat.le_of_ble_eq_true rfl) (fun p e s m args below meth c H Q hF hP hret ls hl => ?_)
  have S : CallFix p m c cX5_swap 5 s args wsX5_swap RX5 := hF.1
  have hG := hF.2
  obtain ⟨hx, hb, hml, hown, hts⟩ := id S
  have hS : va_S (zAC ad) H H [] := va_S.rf
  obtain ⟨locs, hlocs⟩ : ∃ x : List Loc, x = [] := ⟨_, rfl⟩
  rw [← hlocs] at hS ⊢
  have hz : H.size = H.size := rfl
  obtain ⟨π, tn, tt, nb, tf, hp, hX⟩ := hP
  obtain ⟨hA, hsv, hhs, t5, t8, t9, t10, t11⟩ := id hX
  obtain ⟨h0, h1, h2, h3, h4, h5, h6, h7, hR⟩ := id hA
  have hl : lv_has ls 5 [(0, .ref (ad 287)), (1, .int (x)), (2, .int (y)), (3, .int (w))] := hl
  have hin5 : ∀ w ∈ u_ws RX5 TX5 7, w ∈ wsX5_swap := by decide +kernel
  refine lv_aload_n hx hb dX5_swap_0 rfl (lv_at hl 0 rfl) ?_
  refine z_get (ref := RX5) (C := RX5) (T := TX5) (N := 7) hx hb hts hin5 hown hG t5 rfl 0 (by decide) (by decide +kernel) rfl rfl dX5_swap_1 ?_
  refine lv_iload_n hx hb dX5_swap_4 rfl (lv_at hl 1 rfl) ?_
  refine z_roVN (As := [.int (x)]) (rest := []) (host := "CharmBracelets") (q := (RX3, TX3, 5)) S hG (c_X3_find_0 E (ad := ad) (b := 0) (v := nw) hok.h16 hq) 1 gX5_swap_X3_find_n66 (List.mem_of_getElem? (i := 18) rfl) (by decide +kernel) rfl kX3_find.2 ⟨Nat.le_of_ble_eq_true rfl, Nat.le_of_ble_eq_true rfl⟩ ⟨Nat.zero_le _, Nat.zero_le _⟩ (hA) rfl h0 rfl hl.1 rfl rfl (Nat.le_of_ble_eq_true rfl) dX5_swap_5 ?_
  refine lv_astoreN (lv' := [(4, .null), (0, .ref (ad 287)), (1, .int (x)), (2, .int (y)), (3, .int (w))]) hx hb dX5_swap_8 hl (by decide) rfl (fun ls hl => ?_)
  refine lv_aloadN hx hb dX5_swap_10 (lv_at hl 0 rfl) ?_
  refine lv_ifnullN (tgt := 33) hx hb dX5_swap_12 (by decide) ?_
  refine lv_iconst (v := (-1)) hx hb dX5_swap_33 (by decide) ?_
  exact hret _ _ _ _ _ hS (hz) dX5_swap_34 (rfl) (zsc hp hX)

set_option maxHeartbeats 4000000 in
set_option maxRecDepth 100000 in
theorem c_X5_swap_1 (E : zEnv) {ad : Nat → Nat} {nw sv : zS} {an : Bool} {hs : Nat → zS} {ct ln : Nat} {cd : Nat → Int32} {r : Nat} {y w : Int32} (hok : zOk nw) (hinj : zInj ad) (hct : ct ≤ 5) (hr : r < 6) (hr0 : zSz nw r ≠ 0) (hy : zin y 0 ((zSz nw r) - 1) = false) : zWR E yX5_swap wsX5_swap 5 145 [.ref (ad 287), .int (nI (r)), .int (y), .int (w)] (fun H => zCW E ad nw sv an hs ct ln cd H) (some (.int (-1))) (fun H => zCW E ad nw sv an hs ct ln cd H) (zAC ad) := by
  refine zWR.ofI (maxL := 5) rfl (Nat.le_of_ble_eq_true rfl) (fun p e s m args below meth c H Q hF hP hret ls hl => ?_)
  have S : CallFix p m c cX5_swap 5 s args wsX5_swap RX5 := hF.1
  have hG := hF.2
  obtain ⟨hx, hb, hml, hown, hts⟩ := id S
  have hS : va_S (zAC ad) H H [] := va_S.rf
  obtain ⟨locs, hlocs⟩ : ∃ x : List Loc, x = [] := ⟨_, rfl⟩
  rw [← hlocs] at hS ⊢
  have hz : H.size = H.size := rfl
  obtain ⟨π, tn, tt, nb, tf, hp, hX⟩ := hP
  obtain ⟨hA, hsv, hhs, t5, t8, t9, t10, t11⟩ := id hX
  obtain ⟨h0, h1, h2, h3, h4, h5, h6, h7, hR⟩ := id hA
  have hn := hok.sz hr hr0
  have hl : lv_has ls 5 [(0, .ref (ad 287)), (1, .int (nI (r))), (2, .int (y)), (3, .int (w))] := hl
  have hin5 : ∀ w ∈ u_ws RX5 TX5 7, w ∈ wsX5_swap := by decide +kernel
  refine lv_aload_n hx hb dX5_swap_0 rfl (lv_at hl 0 rfl) ?_
  refine z_get (ref := RX5) (C := RX5) (T := TX5) (N := 7) hx hb hts hin5 hown hG t5 rfl 0 (by decide) (by decide +kernel) rfl rfl dX5_swap_1 ?_
  refine lv_iload_n hx hb dX5_swap_4 rfl (lv_at hl 1 rfl) ?_
  refine z_roVN (As := [.int (nI (r))]) (rest := []) (host := "CharmBracelets") (q := (RX3, TX3, 5)) S hG (c_X3_find_1 E (ad := ad) (b := 0) (v := nw) (i := r) hr ⟨hr0, hok.h16 r hr⟩) 1 gX5_swap_X3_find_n66 (List.mem_of_getElem? (i := 18) rfl) (by decide +kernel) rfl kX3_find.2 ⟨Nat.le_of_ble_eq_true rfl, Nat.le_of_ble_eq_true rfl⟩ ⟨Nat.zero_le _, Nat.zero_le _⟩ (hA) rfl h0 rfl hl.1 rfl rfl (Nat.le_of_ble_eq_true rfl) dX5_swap_5 ?_
  refine lv_astore (lv' := [(4, .ref (ad (0 + 9 + 2 * r))), (0, .ref (ad 287)), (1, .int (nI (r))), (2, .int (y)), (3, .int (w))]) hx hb dX5_swap_8 hl (by decide) rfl (fun ls hl => ?_)
  refine lv_aload hx hb dX5_swap_10 (lv_at hl 0 rfl) ?_
  refine lv_ifnull hx hb dX5_swap_12 ?_
  refine lv_aload hx hb dX5_swap_15 (lv_at hl 0 rfl) ?_
  refine lv_iload_n hx hb dX5_swap_17 rfl (lv_at hl 3 rfl) ?_
  refine z_roVN (As := [.int (y)]) (rest := []) (host := "CharmBracelets") (q := (RX2, TX2, 2)) S hG (c_X2_hasSlot E (n := (zSz nw r)) (f := (zKd nw r)) (x := y) hn) 1 gX5_swap_X2_hasSlot_n82 (List.mem_of_getElem? (i := 23) rfl) (by decide +kernel) rfl kX2_hasSlot.2 ⟨Nat.le_of_ble_eq_true rfl, Nat.le_of_ble_eq_true rfl⟩ ⟨Nat.zero_le _, Nat.zero_le _⟩ (hR r (by omega)) rfl (hR r (by omega)).1 rfl hl.1 rfl rfl (Nat.le_of_ble_eq_true rfl) dX5_swap_18 ?_
  refine z_beq (tgt := 33) hx hb dX5_swap_21 (by decide) (fun c_1 => ?_) (fun c_1 => by exfalso; rw [hy] at c_1; cases c_1)
  refine lv_iconst (v := (-1)) hx hb dX5_swap_33 (by decide) ?_
  exact hret _ _ _ _ _ hS (hz) dX5_swap_34 (rfl) (zsc hp hX)

set_option maxHeartbeats 4000000 in
set_option maxRecDepth 100000 in
theorem c_X5_swap_2 (E : zEnv) {ad : Nat → Nat} {nw sv : zS} {an : Bool} {hs : Nat → zS} {ct ln : Nat} {cd : Nat → Int32} {r j : Nat} {w : Int32} (hok : zOk nw) (hinj : zInj ad) (hct : ct ≤ 5) (hr : r < 6) (hr0 : zSz nw r ≠ 0) (hj : j < (zSz nw r)) (hw : zin w 0 ((zSz nw r) - 1) = false) : zWR E yX5_swap wsX5_swap 5 145 [.ref (ad 287), .int (nI (r)), .int (nI (j)), .int (w)] (fun H => zCW E ad nw sv an hs ct ln cd H) (some (.int (-1))) (fun H => zCW E ad nw sv an hs ct ln cd H) (zAC ad) := by
  refine zWR.ofI (maxL := 5) rfl (Nat.le_of_ble_eq_true rfl) (fun p e s m args below meth c H Q hF hP hret ls hl => ?_)
  have S : CallFix p m c cX5_swap 5 s args wsX5_swap RX5 := hF.1
  have hG := hF.2
  obtain ⟨hx, hb, hml, hown, hts⟩ := id S
  have hS : va_S (zAC ad) H H [] := va_S.rf
  obtain ⟨locs, hlocs⟩ : ∃ x : List Loc, x = [] := ⟨_, rfl⟩
  rw [← hlocs] at hS ⊢
  have hz : H.size = H.size := rfl
  obtain ⟨π, tn, tt, nb, tf, hp, hX⟩ := hP
  obtain ⟨hA, hsv, hhs, t5, t8, t9, t10, t11⟩ := id hX
  obtain ⟨h0, h1, h2, h3, h4, h5, h6, h7, hR⟩ := id hA
  have hn := hok.sz hr hr0
  have hl : lv_has ls 5 [(0, .ref (ad 287)), (1, .int (nI (r))), (2, .int (nI (j))), (3, .int (w))] := hl
  have hin5 : ∀ w ∈ u_ws RX5 TX5 7, w ∈ wsX5_swap := by decide +kernel
  refine lv_aload_n hx hb dX5_swap_0 rfl (lv_at hl 0 rfl) ?_
  refine z_get (ref := RX5) (C := RX5) (T := TX5) (N := 7) hx hb hts hin5 hown hG t5 rfl 0 (by decide) (by decide +kernel) rfl rfl dX5_swap_1 ?_
  refine lv_iload_n hx hb dX5_swap_4 rfl (lv_at hl 1 rfl) ?_
  refine z_roVN (As := [.int (nI (r))]) (rest := []) (host := "CharmBracelets") (q := (RX3, TX3, 5)) S hG (c_X3_find_1 E (ad := ad) (b := 0) (v := nw) (i := r) hr ⟨hr0, hok.h16 r hr⟩) 1 gX5_swap_X3_find_n66 (List.mem_of_getElem? (i := 18) rfl) (by decide +kernel) rfl kX3_find.2 ⟨Nat.le_of_ble_eq_true rfl, Nat.le_of_ble_eq_true rfl⟩ ⟨Nat.zero_le _, Nat.zero_le _⟩ (hA) rfl h0 rfl hl.1 rfl rfl (Nat.le_of_ble_eq_true rfl) dX5_swap_5 ?_
  refine lv_astore (lv' := [(4, .ref (ad (0 + 9 + 2 * r))), (0, .ref (ad 287)), (1, .int (nI (r))), (2, .int (nI (j))), (3, .int (w))]) hx hb dX5_swap_8 hl (by decide) rfl (fun ls hl => ?_)
  refine lv_aload hx hb dX5_swap_10 (lv_at hl 0 rfl) ?_
  refine lv_ifnull hx hb dX5_swap_12 ?_
  refine lv_aload hx hb dX5_swap_15 (lv_at hl 0 rfl) ?_
  refine lv_iload_n hx hb dX5_swap_17 rfl (lv_at hl 3 rfl) ?_
  refine z_roVN (As := [.int (nI (j))]) (rest := []) (host := "CharmBracelets") (q := (RX2, TX2, 2)) S hG (c_X2_hasSlot E (n := (zSz nw r)) (f := (zKd nw r)) (x := (nI j)) hn) 1 gX5_swap_X2_hasSlot_n82 (List.mem_of_getElem? (i := 23) rfl) (by decide +kernel) rfl kX2_hasSlot.2 ⟨Nat.le_of_ble_eq_true rfl, Nat.le_of_ble_eq_true rfl⟩ ⟨Nat.zero_le _, Nat.zero_le _⟩ (hR r (by omega)) rfl (hR r (by omega)).1 rfl hl.1 rfl rfl (Nat.le_of_ble_eq_true rfl) dX5_swap_18 ?_
  refine z_beq (tgt := 33) hx hb dX5_swap_21 (by decide) (fun c_1 => by exfalso; rw [zin_y (by omega) (by omega) (by omega)] at c_1; cases c_1) (fun c_1 => ?_)
  refine lv_aload hx hb dX5_swap_24 (lv_at hl 0 rfl) ?_
  refine lv_iload_n hx hb dX5_swap_26 rfl (lv_at hl 4 rfl) ?_
  refine z_roVN (As := [.int (w)]) (rest := []) (host := "CharmBracelets") (q := (RX2, TX2, 2)) S hG (c_X2_hasSlot E (n := (zSz nw r)) (f := (zKd nw r)) (x := w) hn) 1 gX5_swap_X2_hasSlot_n82 (List.mem_of_getElem? (i := 23) rfl) (by decide +kernel) rfl kX2_hasSlot.2 ⟨Nat.le_of_ble_eq_true rfl, Nat.le_of_ble_eq_true rfl⟩ ⟨Nat.zero_le _, Nat.zero_le _⟩ (hR r (by omega)) rfl (hR r (by omega)).1 rfl hl.1 rfl rfl (Nat.le_of_ble_eq_true rfl) dX5_swap_27 ?_
  refine z_bne (tgt := 35) hx hb dX5_swap_30 (by decide) (fun c_2 => by exfalso; rw [hw] at c_2; cases c_2) (fun c_2 => ?_)
  refine lv_iconst (v := (-1)) hx hb dX5_swap_33 (by decide) ?_
  exact hret _ _ _ _ _ hS (hz) dX5_swap_34 (rfl) (zsc hp hX)

set_option maxHeartbeats 4000000 in
set_option maxRecDepth 100000 in
theorem c_X5_swap_3 (E : zEnv) {ad : Nat → Nat} {nw sv : zS} {an : Bool} {hs : Nat → zS} {ct ln : Nat} {cd : Nat → Int32} {r j w : Nat} (hok : zOk nw) (hinj : zInj ad) (hct : ct ≤ 5) (hr : r < 6) (hr0 : zSz nw r ≠ 0) (hj : j < (zSz nw r)) (hw : w < (zSz nw r)) (hk : ∀ s, s < (zSz nw r) → zk (zxc (zKd nw r) j w s)) : zWR E yX5_swap wsX5_swap 5 145 [.ref (ad 287), .int (nI (r)), .int (nI (j)), .int (nI (w))] (fun H => zCW E ad nw sv an hs ct ln cd H) (some (.int (zlean (zWt nw) (zSz nw r) (zxc (zKd nw r) j w)))) (fun H => zCW E ad (zsRg nw r (zSz nw r) (zxc (zKd nw r) j w)) sv an (zrH hs ct nw) (zrC ct) ln cd H) (zAC ad) := by
  refine zWR.ofI (maxL := 5) rfl (Nat.le_of_ble_eq_true rfl) (fun p e s m args below meth c H Q hF hP hret ls hl => ?_)
  have S : CallFix p m c cX5_swap 5 s args wsX5_swap RX5 := hF.1
  have hG := hF.2
  obtain ⟨hx, hb, hml, hown, hts⟩ := id S
  have hS : va_S (zAC ad) H H [] := va_S.rf
  obtain ⟨locs, hlocs⟩ : ∃ x : List Loc, x = [] := ⟨_, rfl⟩
  rw [← hlocs] at hS ⊢
  have hz : H.size = H.size := rfl
  obtain ⟨π, tn, tt, nb, tf, hp, hX⟩ := hP
  obtain ⟨hA, hsv, hhs, t5, t8, t9, t10, t11⟩ := id hX
  obtain ⟨h0, h1, h2, h3, h4, h5, h6, h7, hR⟩ := id hA
  have hn := hok.sz hr hr0
  have hl : lv_has ls 5 [(0, .ref (ad 287)), (1, .int (nI (r))), (2, .int (nI (j))), (3, .int (nI (w)))] := hl
  have hin5 : ∀ w ∈ u_ws RX5 TX5 7, w ∈ wsX5_swap := by decide +kernel
  refine lv_aload_n hx hb dX5_swap_0 rfl (lv_at hl 0 rfl) ?_
  refine z_get (ref := RX5) (C := RX5) (T := TX5) (N := 7) hx hb hts hin5 hown hG t5 rfl 0 (by decide) (by decide +kernel) rfl rfl dX5_swap_1 ?_
  refine lv_iload_n hx hb dX5_swap_4 rfl (lv_at hl 1 rfl) ?_
  refine z_roVN (As := [.int (nI (r))]) (rest := []) (host := "CharmBracelets") (q := (RX3, TX3, 5)) S hG (c_X3_find_1 E (ad := ad) (b := 0) (v := nw) (i := r) hr ⟨hr0, hok.h16 r hr⟩) 1 gX5_swap_X3_find_n66 (List.mem_of_getElem? (i := 18) rfl) (by decide +kernel) rfl kX3_find.2 ⟨Nat.le_of_ble_eq_true rfl, Nat.le_of_ble_eq_true rfl⟩ ⟨Nat.zero_le _, Nat.zero_le _⟩ (hA) rfl h0 rfl hl.1 rfl rfl (Nat.le_of_ble_eq_true rfl) dX5_swap_5 ?_
  refine lv_astore (lv' := [(4, .ref (ad (0 + 9 + 2 * r))), (0, .ref (ad 287)), (1, .int (nI (r))), (2, .int (nI (j))), (3, .int (nI (w)))]) hx hb dX5_swap_8 hl (by decide) rfl (fun ls hl => ?_)
  refine lv_aload hx hb dX5_swap_10 (lv_at hl 0 rfl) ?_
  refine lv_ifnull hx hb dX5_swap_12 ?_
  refine lv_aload hx hb dX5_swap_15 (lv_at hl 0 rfl) ?_
  refine lv_iload_n hx hb dX5_swap_17 rfl (lv_at hl 3 rfl) ?_
  refine z_roVN (As := [.int (nI (j))]) (rest := []) (host := "CharmBracelets") (q := (RX2, TX2, 2)) S hG (c_X2_hasSlot E (n := (zSz nw r)) (f := (zKd nw r)) (x := (nI j)) hn) 1 gX5_swap_X2_hasSlot_n82 (List.mem_of_getElem? (i := 23) rfl) (by decide +kernel) rfl kX2_hasSlot.2 ⟨Nat.le_of_ble_eq_true rfl, Nat.le_of_ble_eq_true rfl⟩ ⟨Nat.zero_le _, Nat.zero_le _⟩ (hR r (by omega)) rfl (hR r (by omega)).1 rfl hl.1 rfl rfl (Nat.le_of_ble_eq_true rfl) dX5_swap_18 ?_
  refine z_beq (tgt := 33) hx hb dX5_swap_21 (by decide) (fun c_1 => by exfalso; rw [zin_y (by omega) (by omega) (by omega)] at c_1; cases c_1) (fun c_1 => ?_)
  refine lv_aload hx hb dX5_swap_24 (lv_at hl 0 rfl) ?_
  refine lv_iload_n hx hb dX5_swap_26 rfl (lv_at hl 4 rfl) ?_
  refine z_roVN (As := [.int (nI (w))]) (rest := []) (host := "CharmBracelets") (q := (RX2, TX2, 2)) S hG (c_X2_hasSlot E (n := (zSz nw r)) (f := (zKd nw r)) (x := (nI w)) hn) 1 gX5_swap_X2_hasSlot_n82 (List.mem_of_getElem? (i := 23) rfl) (by decide +kernel) rfl kX2_hasSlot.2 ⟨Nat.le_of_ble_eq_true rfl, Nat.le_of_ble_eq_true rfl⟩ ⟨Nat.zero_le _, Nat.zero_le _⟩ (hR r (by omega)) rfl (hR r (by omega)).1 rfl hl.1 rfl rfl (Nat.le_of_ble_eq_true rfl) dX5_swap_27 ?_
  refine z_bne (tgt := 35) hx hb dX5_swap_30 (by decide) (fun c_2 => ?_) (fun c_2 => by exfalso; rw [zin_y (by omega) (by omega) (by omega)] at c_2; cases c_2)
  refine lv_aload_n hx hb dX5_swap_35 rfl (lv_at hl 1 rfl) ?_
  refine z_wrV (As := []) (rest := []) (q := (RX5, TX5, 7)) S hG (c_X5_record E hinj hp hct) 0 gX5_swap_X5_record rfl kX5_record ⟨Nat.le_of_ble_eq_true rfl, Nat.le_of_ble_eq_true rfl⟩ ⟨Nat.zero_le _, Nat.zero_le _⟩ (hX) rfl t5 rfl hl.1 rfl rfl (Nat.le_of_ble_eq_true rfl) dX5_swap_36 hS (fun _ h => h) (fun Hn locs h_4 q_3 o_5 hS => ?_)
  have hz : Hn.size = H.size := q_3.trans hz
  obtain ⟨π, hp, hX⟩ := h_4
  obtain ⟨hA, hsv, hhs, t5, t8, t9, t10, t11⟩ := id hX
  obtain ⟨h0, h1, h2, h3, h4, h5, h6, h7, hR⟩ := id hA
  refine lv_aload hx hb dX5_swap_39 (lv_at hl 0 rfl) ?_
  refine lv_iload_n hx hb dX5_swap_41 rfl (lv_at hl 3 rfl) ?_
  refine lv_iload_n hx hb dX5_swap_42 rfl (lv_at hl 4 rfl) ?_
  refine z_wrVN (As := [.int (nI (j)), .int (nI (w))]) (rest := []) (host := "CharmBracelets") (q := (RX2, TX2, 2)) S hG (c_X2_exchange E (n := (zSz nw r)) (f := (zKd nw r)) (i := j) (j := w) (hinj.ne (by omega) (by omega) (by omega)) (by omega) (by omega)) 2 gX5_swap_X2_exchange_n92 (List.mem_of_getElem? (i := 26) rfl) (by decide +kernel) rfl kX2_exchange.2 ⟨Nat.le_of_ble_eq_true rfl, Nat.le_of_ble_eq_true rfl⟩ ⟨Nat.zero_le _, Nat.zero_le _⟩ (hR r (by omega)) rfl (hR r (by omega)).1 rfl hl.1 rfl rfl (Nat.le_of_ble_eq_true rfl) dX5_swap_43 hS (fun q h => h.elim (fun e => ⟨_, by omega, e⟩) (fun e => ⟨_, by omega, e⟩)) (fun Hn locs h_7 q_6 o_8 hS => ?_)
  have hz : Hn.size = H.size := q_6.trans hz
  have hA1 := zSt_rg (r := r) hA hinj (by decide) (by omega) o_8 h_7
  have hX := zX_now hinj hp hX (fun q hq => o_8 q (fun z => z.elim (hq (0 + 9 + 2 * r) (by omega)) (hq (0 + 10 + 2 * r) (by omega)))) hA1
  obtain ⟨hA, hsv, hhs, t5, t8, t9, t10, t11⟩ := id hX
  obtain ⟨h0, h1, h2, h3, h4, h5, h6, h7, hR⟩ := id hA
  refine lv_aload_n hx hb dX5_swap_46 rfl (lv_at hl 1 rfl) ?_
  refine z_get (ref := RX5) (C := RX5) (T := TX5) (N := 7) hx hb hts hin5 hown hG t5 rfl 0 (by decide) (by decide +kernel) rfl rfl dX5_swap_47 ?_
  refine lv_aload hx hb dX5_swap_50 (lv_at hl 0 rfl) ?_
  refine z_roVN (As := [.ref (ad (0 + 9 + 2 * r))]) (rest := []) (host := "CharmBracelets") (q := (RX3, TX3, 5)) S hG (c_X3_lean E (ad := ad) (b := 0) (v := (zsRg nw r (zSz nw r) (zxc (zKd nw r) j w))) (n := (zSz nw r)) (f := zxc (zKd nw r) j w) hn.2 hk) 1 gX5_swap_X3_lean_n95 (List.mem_of_getElem? (i := 27) rfl) (by decide +kernel) rfl kX3_lean.2 ⟨Nat.le_of_ble_eq_true rfl, Nat.le_of_ble_eq_true rfl⟩ ⟨Nat.zero_le _, Nat.zero_le _⟩ (⟨hA, zsRg_at (hR r (by omega))⟩) rfl h0 rfl hl.1 rfl rfl (Nat.le_of_ble_eq_true rfl) dX5_swap_52 ?_
  exact hret _ _ _ _ _ hS (hz) dX5_swap_55 (rfl) (zsc hp hX)

set_option maxHeartbeats 4000000 in
set_option maxRecDepth 100000 in
theorem c_X5_roll_0 (E : zEnv) {ad : Nat → Nat} {nw sv : zS} {an : Bool} {hs : Nat → zS} {ct ln : Nat} {cd : Nat → Int32} {x y : Int32} (hok : zOk nw) (hinj : zInj ad) (hct : ct ≤ 5) (hq : zfnd (zSz nw) x = none) : zWR E yX5_roll wsX5_roll 6 169 [.ref (ad 287), .int (x), .int (y)] (fun H => zCW E ad nw sv an hs ct ln cd H) (some (.int (-1))) (fun H => zCW E ad nw sv an hs ct ln cd H) (zAC ad) := by
  refine zWR.ofI (maxL := 4) rfl (Nat.le_of_ble_eq_true rfl) (fun p e s m args below meth c H Q hF hP hret ls hl => ?_)
  have S : CallFix p m c cX5_roll 4 s args wsX5_roll RX5 := hF.1
  have hG := hF.2
  obtain ⟨hx, hb, hml, hown, hts⟩ := id S
  have hS : va_S (zAC ad) H H [] := va_S.rf
  obtain ⟨locs, hlocs⟩ : ∃ x : List Loc, x = [] := ⟨_, rfl⟩
  rw [← hlocs] at hS ⊢
  have hz : H.size = H.size := rfl
  obtain ⟨π, tn, tt, nb, tf, hp, hX⟩ := hP
  obtain ⟨hA, hsv, hhs, t5, t8, t9, t10, t11⟩ := id hX
  obtain ⟨h0, h1, h2, h3, h4, h5, h6, h7, hR⟩ := id hA
  have hl : lv_has ls 4 [(0, .ref (ad 287)), (1, .int (x)), (2, .int (y))] := hl
  have hin2 : ∀ w ∈ u_ws RX2 TX2 2, w ∈ wsX5_roll := by decide +kernel
  have hin5 : ∀ w ∈ u_ws RX5 TX5 7, w ∈ wsX5_roll := by decide +kernel
  refine lv_aload_n hx hb dX5_roll_0 rfl (lv_at hl 0 rfl) ?_
  refine z_get (ref := RX5) (C := RX5) (T := TX5) (N := 7) hx hb hts hin5 hown hG t5 rfl 0 (by decide) (by decide +kernel) rfl rfl dX5_roll_1 ?_
  refine lv_iload_n hx hb dX5_roll_4 rfl (lv_at hl 1 rfl) ?_
  refine z_roVN (As := [.int (x)]) (rest := []) (host := "CharmBracelets") (q := (RX3, TX3, 5)) S hG (c_X3_find_0 E (ad := ad) (b := 0) (v := nw) hok.h16 hq) 1 gX5_roll_X3_find_n66 (List.mem_of_getElem? (i := 18) rfl) (by decide +kernel) rfl kX3_find.2 ⟨Nat.le_of_ble_eq_true rfl, Nat.le_of_ble_eq_true rfl⟩ ⟨Nat.zero_le _, Nat.zero_le _⟩ (hA) rfl h0 rfl hl.1 rfl rfl (Nat.le_of_ble_eq_true rfl) dX5_roll_5 ?_
  refine lv_astore_nN (lv' := [(3, .null), (0, .ref (ad 287)), (1, .int (x)), (2, .int (y))]) hx hb dX5_roll_8 rfl hl (by decide) rfl (fun ls hl => ?_)
  refine lv_aload_nN hx hb dX5_roll_9 rfl (lv_at hl 0 rfl) ?_
  refine lv_ifnonnullN hx hb dX5_roll_10 ?_
  refine lv_iconst (v := (-1)) hx hb dX5_roll_13 (by decide) ?_
  exact hret _ _ _ _ _ hS (hz) dX5_roll_14 (rfl) (zsc hp hX)

set_option maxHeartbeats 4000000 in
set_option maxRecDepth 100000 in
theorem c_X5_roll_1 (E : zEnv) {ad : Nat → Nat} {nw sv : zS} {an : Bool} {hs : Nat → zS} {ct ln : Nat} {cd : Nat → Int32} {r : Nat} {y : Int32} (hok : zOk nw) (hinj : zInj ad) (hct : ct ≤ 5) (hr : r < 6) (hr0 : zSz nw r ≠ 0) (hy : zin y 0 ((zSz nw r) - 1) = false) : zWR E yX5_roll wsX5_roll 6 169 [.ref (ad 287), .int (nI (r)), .int (y)] (fun H => zCW E ad nw sv an hs ct ln cd H) (some (.int (-2))) (fun H => zCW E ad nw sv an hs ct ln cd H) (zAC ad) := by
  refine zWR.ofI (maxL := 4) rfl (Nat.le_of_ble_eq_true rfl) (fun p e s m args below meth c H Q hF hP hret ls hl => ?_)
  have S : CallFix p m c cX5_roll 4 s args wsX5_roll RX5 := hF.1
  have hG := hF.2
  obtain ⟨hx, hb, hml, hown, hts⟩ := id S
  have hS : va_S (zAC ad) H H [] := va_S.rf
  obtain ⟨locs, hlocs⟩ : ∃ x : List Loc, x = [] := ⟨_, rfl⟩
  rw [← hlocs] at hS ⊢
  have hz : H.size = H.size := rfl
  obtain ⟨π, tn, tt, nb, tf, hp, hX⟩ := hP
  obtain ⟨hA, hsv, hhs, t5, t8, t9, t10, t11⟩ := id hX
  obtain ⟨h0, h1, h2, h3, h4, h5, h6, h7, hR⟩ := id hA
  have hn := hok.sz hr hr0
  have hl : lv_has ls 4 [(0, .ref (ad 287)), (1, .int (nI (r))), (2, .int (y))] := hl
  have hin2 : ∀ w ∈ u_ws RX2 TX2 2, w ∈ wsX5_roll := by decide +kernel
  have hin5 : ∀ w ∈ u_ws RX5 TX5 7, w ∈ wsX5_roll := by decide +kernel
  refine lv_aload_n hx hb dX5_roll_0 rfl (lv_at hl 0 rfl) ?_
  refine z_get (ref := RX5) (C := RX5) (T := TX5) (N := 7) hx hb hts hin5 hown hG t5 rfl 0 (by decide) (by decide +kernel) rfl rfl dX5_roll_1 ?_
  refine lv_iload_n hx hb dX5_roll_4 rfl (lv_at hl 1 rfl) ?_
  refine z_roVN (As := [.int (nI (r))]) (rest := []) (host := "CharmBracelets") (q := (RX3, TX3, 5)) S hG (c_X3_find_1 E (ad := ad) (b := 0) (v := nw) (i := r) hr ⟨hr0, hok.h16 r hr⟩) 1 gX5_roll_X3_find_n66 (List.mem_of_getElem? (i := 18) rfl) (by decide +kernel) rfl kX3_find.2 ⟨Nat.le_of_ble_eq_true rfl, Nat.le_of_ble_eq_true rfl⟩ ⟨Nat.zero_le _, Nat.zero_le _⟩ (hA) rfl h0 rfl hl.1 rfl rfl (Nat.le_of_ble_eq_true rfl) dX5_roll_5 ?_
  refine lv_astore_n (lv' := [(3, .ref (ad (0 + 9 + 2 * r))), (0, .ref (ad 287)), (1, .int (nI (r))), (2, .int (y))]) hx hb dX5_roll_8 rfl hl (by decide) rfl (fun ls hl => ?_)
  refine lv_aload_n hx hb dX5_roll_9 rfl (lv_at hl 0 rfl) ?_
  refine lv_ifnonnull (tgt := 15) hx hb dX5_roll_10 (by decide) ?_
  refine lv_iload_n hx hb dX5_roll_15 rfl (lv_at hl 3 rfl) ?_
  refine lv_if_lt (tgt := 27) hx hb dX5_roll_16 (by decide) (fun c_1 => ?_) (fun c_1 => ?_)
  · refine lv_bipush (v := (-2)) hx hb dX5_roll_27 (by decide) ?_
    exact hret _ _ _ _ _ hS (hz) dX5_roll_29 (rfl) (zsc hp hX)
  · refine lv_iload_n hx hb dX5_roll_19 rfl (lv_at hl 3 rfl) ?_
    refine lv_aload_n hx hb dX5_roll_20 rfl (lv_at hl 0 rfl) ?_
    refine z_getN (own := RX5) (ref := RX2) (host := "CharmBracelets") (C := RX2) (T := TX2) (N := 2) hx hb hts hin2 hown hG (hR r (by omega)).1 rfl 0 (by decide) (List.mem_of_getElem? (i := 4) rfl) rfl rfl dX5_roll_21 ?_
    refine lv_icmp_lt (tgt := 30) hx hb dX5_roll_24 (by decide) (fun c_2 => by exfalso; exact zin_c2 hy hn c_1 c_2) (fun c_2 => ?_)
    refine lv_bipush (v := (-2)) hx hb dX5_roll_27 (by decide) ?_
    exact hret _ _ _ _ _ hS (hz) dX5_roll_29 (rfl) (zsc hp hX)

set_option maxHeartbeats 4000000 in
set_option maxRecDepth 100000 in
theorem c_X5_roll_2 (E : zEnv) {ad : Nat → Nat} {nw sv : zS} {an : Bool} {hs : Nat → zS} {ct ln : Nat} {cd : Nat → Int32} {r j : Nat} (hok : zOk nw) (hinj : zInj ad) (hct : ct ≤ 5) (hr : r < 6) (hr0 : zSz nw r ≠ 0) (hj : j < (zSz nw r)) : zWR E yX5_roll wsX5_roll 6 169 [.ref (ad 287), .int (nI (r)), .int (nI (j))] (fun H => zCW E ad nw sv an hs ct ln cd H) (some (.int (nI (zdf (zSz nw r) (zKd nw r) j (zKd nw r))))) (fun H => zCW E ad (zsRg nw r (zSz nw r) (zpm (zimg (zSz nw r) (zKd nw r) j) (zKd nw r) (zSz nw r))) sv an (zrH hs ct nw) (zrC ct) ln cd H) (zAC ad) := by
  refine zWR.ofI (maxL := 4) rfl (Nat.le_of_ble_eq_true rfl) (fun p e s m args below meth c H Q hF hP hret ls hl => ?_)
  have S : CallFix p m c cX5_roll 4 s args wsX5_roll RX5 := hF.1
  have hG := hF.2
  obtain ⟨hx, hb, hml, hown, hts⟩ := id S
  have hS : va_S (zAC ad) H H [] := va_S.rf
  obtain ⟨locs, hlocs⟩ : ∃ x : List Loc, x = [] := ⟨_, rfl⟩
  rw [← hlocs] at hS ⊢
  have hz : H.size = H.size := rfl
  obtain ⟨π, tn, tt, nb, tf, hp, hX⟩ := hP
  obtain ⟨hA, hsv, hhs, t5, t8, t9, t10, t11⟩ := id hX
  obtain ⟨h0, h1, h2, h3, h4, h5, h6, h7, hR⟩ := id hA
  have hn := hok.sz hr hr0
  have hl : lv_has ls 4 [(0, .ref (ad 287)), (1, .int (nI (r))), (2, .int (nI (j)))] := hl
  have hin2 : ∀ w ∈ u_ws RX2 TX2 2, w ∈ wsX5_roll := by decide +kernel
  have hin5 : ∀ w ∈ u_ws RX5 TX5 7, w ∈ wsX5_roll := by decide +kernel
  refine lv_aload_n hx hb dX5_roll_0 rfl (lv_at hl 0 rfl) ?_
  refine z_get (ref := RX5) (C := RX5) (T := TX5) (N := 7) hx hb hts hin5 hown hG t5 rfl 0 (by decide) (by decide +kernel) rfl rfl dX5_roll_1 ?_
  refine lv_iload_n hx hb dX5_roll_4 rfl (lv_at hl 1 rfl) ?_
  refine z_roVN (As := [.int (nI (r))]) (rest := []) (host := "CharmBracelets") (q := (RX3, TX3, 5)) S hG (c_X3_find_1 E (ad := ad) (b := 0) (v := nw) (i := r) hr ⟨hr0, hok.h16 r hr⟩) 1 gX5_roll_X3_find_n66 (List.mem_of_getElem? (i := 18) rfl) (by decide +kernel) rfl kX3_find.2 ⟨Nat.le_of_ble_eq_true rfl, Nat.le_of_ble_eq_true rfl⟩ ⟨Nat.zero_le _, Nat.zero_le _⟩ (hA) rfl h0 rfl hl.1 rfl rfl (Nat.le_of_ble_eq_true rfl) dX5_roll_5 ?_
  refine lv_astore_n (lv' := [(3, .ref (ad (0 + 9 + 2 * r))), (0, .ref (ad 287)), (1, .int (nI (r))), (2, .int (nI (j)))]) hx hb dX5_roll_8 rfl hl (by decide) rfl (fun ls hl => ?_)
  refine lv_aload_n hx hb dX5_roll_9 rfl (lv_at hl 0 rfl) ?_
  refine lv_ifnonnull (tgt := 15) hx hb dX5_roll_10 (by decide) ?_
  refine lv_iload_n hx hb dX5_roll_15 rfl (lv_at hl 3 rfl) ?_
  refine z_flt (tgt := 27) hx hb dX5_roll_16 (by decide) (by omega) ?_
  refine lv_iload_n hx hb dX5_roll_19 rfl (lv_at hl 3 rfl) ?_
  refine lv_aload_n hx hb dX5_roll_20 rfl (lv_at hl 0 rfl) ?_
  refine z_getN (own := RX5) (ref := RX2) (host := "CharmBracelets") (C := RX2) (T := TX2) (N := 2) hx hb hts hin2 hown hG (hR r (by omega)).1 rfl 0 (by decide) (List.mem_of_getElem? (i := 4) rfl) rfl rfl dX5_roll_21 ?_
  refine z_clt (tgt := 30) hx hb dX5_roll_24 (by decide) ⟨by omega, by omega⟩ (fun c_2 => ?_) (fun c_2 => by exfalso; omega)
  refine lv_aload_n hx hb dX5_roll_30 rfl (lv_at hl 1 rfl) ?_
  refine lv_aload_n hx hb dX5_roll_31 rfl (lv_at hl 0 rfl) ?_
  refine lv_iconst (v := nI (1)) hx hb dX5_roll_32 (by decide) ?_
  refine lv_iload_n hx hb dX5_roll_33 rfl (lv_at hl 3 rfl) ?_
  refine lv_aload_n hx hb dX5_roll_34 rfl (lv_at hl 0 rfl) ?_
  refine z_getN (own := RX5) (ref := RX2) (host := "CharmBracelets") (C := RX2) (T := TX2) (N := 2) hx hb hts hin2 hown hG (hR r (by omega)).1 rfl 0 (by decide) (List.mem_of_getElem? (i := 4) rfl) rfl rfl dX5_roll_35 ?_
  refine z_roSX (As := [.int (nI (1)), .int (nI (j)), .int (nI (zSz nw r))]) (rest := [.ref (ad (0 + 9 + 2 * r)), .ref (ad 287)]) S hG (c_X5_changeAt E (lv := 1) (i := j) (n := (zSz nw r)) (by decide) (by omega) hn.2) 3 gX5_roll_X5_changeAt rfl kX5_changeAt.2 ⟨Nat.le_of_ble_eq_true rfl, Nat.le_of_ble_eq_true rfl⟩ ⟨Nat.zero_le _, Nat.zero_le _⟩ (trivial) rfl hl.1 rfl rfl (Nat.le_of_ble_eq_true rfl) dX5_roll_38 ?_
  refine z_wrV (As := [.ref (ad (0 + 9 + 2 * r)), .int (nI (j))]) (rest := []) (q := (RX5, TX5, 7)) S hG (c_X5_change E (r := r) (ch := j) hinj hp hct hok hr hr0 (by omega)) 2 gX5_roll_X5_change rfl kX5_change ⟨Nat.le_of_ble_eq_true rfl, Nat.le_of_ble_eq_true rfl⟩ ⟨Nat.zero_le _, Nat.zero_le _⟩ (hX) rfl t5 rfl hl.1 rfl rfl (Nat.le_of_ble_eq_true rfl) dX5_roll_41 hS (fun _ h => h) (fun Hn locs h_4 q_3 o_5 hS => ?_)
  have hz : Hn.size = H.size := q_3.trans hz
  obtain ⟨π, _, _, hp, hX⟩ := h_4
  exact hret _ _ _ _ _ hS (hz) dX5_roll_44 (rfl) (zsc hp hX)

set_option maxHeartbeats 4000000 in
set_option maxRecDepth 100000 in
theorem c_X5_turn_0 (E : zEnv) {ad : Nat → Nat} {nw sv : zS} {an : Bool} {hs : Nat → zS} {ct ln : Nat} {cd : Nat → Int32} {x y : Int32} (hok : zOk nw) (hinj : zInj ad) (hct : ct ≤ 5) (hq : zfnd (zSz nw) x = none) : zWR E yX5_turn wsX5_turn 6 169 [.ref (ad 287), .int (x), .int (y)] (fun H => zCW E ad nw sv an hs ct ln cd H) (some (.int (-1))) (fun H => zCW E ad nw sv an hs ct ln cd H) (zAC ad) := by
  refine zWR.ofI (maxL := 4) rfl (Nat.le_of_ble_eq_true rfl) (fun p e s m args below meth c H Q hF hP hret ls hl => ?_)
  have S : CallFix p m c cX5_turn 4 s args wsX5_turn RX5 := hF.1
  have hG := hF.2
  obtain ⟨hx, hb, hml, hown, hts⟩ := id S
  have hS : va_S (zAC ad) H H [] := va_S.rf
  obtain ⟨locs, hlocs⟩ : ∃ x : List Loc, x = [] := ⟨_, rfl⟩
  rw [← hlocs] at hS ⊢
  have hz : H.size = H.size := rfl
  obtain ⟨π, tn, tt, nb, tf, hp, hX⟩ := hP
  obtain ⟨hA, hsv, hhs, t5, t8, t9, t10, t11⟩ := id hX
  obtain ⟨h0, h1, h2, h3, h4, h5, h6, h7, hR⟩ := id hA
  have hl : lv_has ls 4 [(0, .ref (ad 287)), (1, .int (x)), (2, .int (y))] := hl
  have hin2 : ∀ w ∈ u_ws RX2 TX2 2, w ∈ wsX5_turn := by decide +kernel
  have hin5 : ∀ w ∈ u_ws RX5 TX5 7, w ∈ wsX5_turn := by decide +kernel
  refine lv_aload_n hx hb dX5_turn_0 rfl (lv_at hl 0 rfl) ?_
  refine z_get (ref := RX5) (C := RX5) (T := TX5) (N := 7) hx hb hts hin5 hown hG t5 rfl 0 (by decide) (by decide +kernel) rfl rfl dX5_turn_1 ?_
  refine lv_iload_n hx hb dX5_turn_4 rfl (lv_at hl 1 rfl) ?_
  refine z_roVN (As := [.int (x)]) (rest := []) (host := "CharmBracelets") (q := (RX3, TX3, 5)) S hG (c_X3_find_0 E (ad := ad) (b := 0) (v := nw) hok.h16 hq) 1 gX5_turn_X3_find_n66 (List.mem_of_getElem? (i := 18) rfl) (by decide +kernel) rfl kX3_find.2 ⟨Nat.le_of_ble_eq_true rfl, Nat.le_of_ble_eq_true rfl⟩ ⟨Nat.zero_le _, Nat.zero_le _⟩ (hA) rfl h0 rfl hl.1 rfl rfl (Nat.le_of_ble_eq_true rfl) dX5_turn_5 ?_
  refine lv_astore_nN (lv' := [(3, .null), (0, .ref (ad 287)), (1, .int (x)), (2, .int (y))]) hx hb dX5_turn_8 rfl hl (by decide) rfl (fun ls hl => ?_)
  refine lv_aload_nN hx hb dX5_turn_9 rfl (lv_at hl 0 rfl) ?_
  refine lv_ifnonnullN hx hb dX5_turn_10 ?_
  refine lv_iconst (v := (-1)) hx hb dX5_turn_13 (by decide) ?_
  exact hret _ _ _ _ _ hS (hz) dX5_turn_14 (rfl) (zsc hp hX)

set_option maxHeartbeats 4000000 in
set_option maxRecDepth 100000 in
theorem c_X5_turn_1 (E : zEnv) {ad : Nat → Nat} {nw sv : zS} {an : Bool} {hs : Nat → zS} {ct ln : Nat} {cd : Nat → Int32} {r : Nat} {y : Int32} (hok : zOk nw) (hinj : zInj ad) (hct : ct ≤ 5) (hr : r < 6) (hr0 : zSz nw r ≠ 0) (hy : zin y 0 3 = false) : zWR E yX5_turn wsX5_turn 6 169 [.ref (ad 287), .int (nI (r)), .int (y)] (fun H => zCW E ad nw sv an hs ct ln cd H) (some (.int (-2))) (fun H => zCW E ad nw sv an hs ct ln cd H) (zAC ad) := by
  refine zWR.ofI (maxL := 4) rfl (Nat.le_of_ble_eq_true rfl) (fun p e s m args below meth c H Q hF hP hret ls hl => ?_)
  have S : CallFix p m c cX5_turn 4 s args wsX5_turn RX5 := hF.1
  have hG := hF.2
  obtain ⟨hx, hb, hml, hown, hts⟩ := id S
  have hS : va_S (zAC ad) H H [] := va_S.rf
  obtain ⟨locs, hlocs⟩ : ∃ x : List Loc, x = [] := ⟨_, rfl⟩
  rw [← hlocs] at hS ⊢
  have hz : H.size = H.size := rfl
  obtain ⟨π, tn, tt, nb, tf, hp, hX⟩ := hP
  obtain ⟨hA, hsv, hhs, t5, t8, t9, t10, t11⟩ := id hX
  obtain ⟨h0, h1, h2, h3, h4, h5, h6, h7, hR⟩ := id hA
  have hn := hok.sz hr hr0
  have hl : lv_has ls 4 [(0, .ref (ad 287)), (1, .int (nI (r))), (2, .int (y))] := hl
  have hin2 : ∀ w ∈ u_ws RX2 TX2 2, w ∈ wsX5_turn := by decide +kernel
  have hin5 : ∀ w ∈ u_ws RX5 TX5 7, w ∈ wsX5_turn := by decide +kernel
  refine lv_aload_n hx hb dX5_turn_0 rfl (lv_at hl 0 rfl) ?_
  refine z_get (ref := RX5) (C := RX5) (T := TX5) (N := 7) hx hb hts hin5 hown hG t5 rfl 0 (by decide) (by decide +kernel) rfl rfl dX5_turn_1 ?_
  refine lv_iload_n hx hb dX5_turn_4 rfl (lv_at hl 1 rfl) ?_
  refine z_roVN (As := [.int (nI (r))]) (rest := []) (host := "CharmBracelets") (q := (RX3, TX3, 5)) S hG (c_X3_find_1 E (ad := ad) (b := 0) (v := nw) (i := r) hr ⟨hr0, hok.h16 r hr⟩) 1 gX5_turn_X3_find_n66 (List.mem_of_getElem? (i := 18) rfl) (by decide +kernel) rfl kX3_find.2 ⟨Nat.le_of_ble_eq_true rfl, Nat.le_of_ble_eq_true rfl⟩ ⟨Nat.zero_le _, Nat.zero_le _⟩ (hA) rfl h0 rfl hl.1 rfl rfl (Nat.le_of_ble_eq_true rfl) dX5_turn_5 ?_
  refine lv_astore_n (lv' := [(3, .ref (ad (0 + 9 + 2 * r))), (0, .ref (ad 287)), (1, .int (nI (r))), (2, .int (y))]) hx hb dX5_turn_8 rfl hl (by decide) rfl (fun ls hl => ?_)
  refine lv_aload_n hx hb dX5_turn_9 rfl (lv_at hl 0 rfl) ?_
  refine lv_ifnonnull (tgt := 15) hx hb dX5_turn_10 (by decide) ?_
  refine lv_iload_n hx hb dX5_turn_15 rfl (lv_at hl 3 rfl) ?_
  refine lv_if_lt (tgt := 24) hx hb dX5_turn_16 (by decide) (fun c_1 => ?_) (fun c_1 => ?_)
  · refine lv_bipush (v := (-2)) hx hb dX5_turn_24 (by decide) ?_
    exact hret _ _ _ _ _ hS (hz) dX5_turn_26 (rfl) (zsc hp hX)
  · refine lv_iload_n hx hb dX5_turn_19 rfl (lv_at hl 3 rfl) ?_
    refine lv_iconst (v := nI (4)) hx hb dX5_turn_20 (by decide) ?_
    refine lv_icmp_lt (tgt := 27) hx hb dX5_turn_21 (by decide) (fun c_2 => by exfalso; exact zin_c2 (n := 4) hy (by decide) c_1 c_2) (fun c_2 => ?_)
    refine lv_bipush (v := (-2)) hx hb dX5_turn_24 (by decide) ?_
    exact hret _ _ _ _ _ hS (hz) dX5_turn_26 (rfl) (zsc hp hX)

set_option maxHeartbeats 4000000 in
set_option maxRecDepth 100000 in
theorem c_X5_turn_2 (E : zEnv) {ad : Nat → Nat} {nw sv : zS} {an : Bool} {hs : Nat → zS} {ct ln : Nat} {cd : Nat → Int32} {r j : Nat} (hok : zOk nw) (hinj : zInj ad) (hct : ct ≤ 5) (hr : r < 6) (hr0 : zSz nw r ≠ 0) (hj : j < 4) : zWR E yX5_turn wsX5_turn 6 169 [.ref (ad 287), .int (nI (r)), .int (nI (j))] (fun H => zCW E ad nw sv an hs ct ln cd H) (some (.int (nI (zdf (zSz nw r) (zKd nw r) (j * (zSz nw r) / 4) (zKd nw r))))) (fun H => zCW E ad (zsRg nw r (zSz nw r) (zpm (zimg (zSz nw r) (zKd nw r) (j * (zSz nw r) / 4)) (zKd nw r) (zSz nw r))) sv an (zrH hs ct nw) (zrC ct) ln cd H) (zAC ad) := by
  refine zWR.ofI (maxL := 4) rfl (Nat.le_of_ble_eq_true rfl) (fun p e s m args below meth c H Q hF hP hret ls hl => ?_)
  have S : CallFix p m c cX5_turn 4 s args wsX5_turn RX5 := hF.1
  have hG := hF.2
  obtain ⟨hx, hb, hml, hown, hts⟩ := id S
  have hS : va_S (zAC ad) H H [] := va_S.rf
  obtain ⟨locs, hlocs⟩ : ∃ x : List Loc, x = [] := ⟨_, rfl⟩
  rw [← hlocs] at hS ⊢
  have hz : H.size = H.size := rfl
  obtain ⟨π, tn, tt, nb, tf, hp, hX⟩ := hP
  obtain ⟨hA, hsv, hhs, t5, t8, t9, t10, t11⟩ := id hX
  obtain ⟨h0, h1, h2, h3, h4, h5, h6, h7, hR⟩ := id hA
  have hn := hok.sz hr hr0
  have hl : lv_has ls 4 [(0, .ref (ad 287)), (1, .int (nI (r))), (2, .int (nI (j)))] := hl
  have hin2 : ∀ w ∈ u_ws RX2 TX2 2, w ∈ wsX5_turn := by decide +kernel
  have hin5 : ∀ w ∈ u_ws RX5 TX5 7, w ∈ wsX5_turn := by decide +kernel
  refine lv_aload_n hx hb dX5_turn_0 rfl (lv_at hl 0 rfl) ?_
  refine z_get (ref := RX5) (C := RX5) (T := TX5) (N := 7) hx hb hts hin5 hown hG t5 rfl 0 (by decide) (by decide +kernel) rfl rfl dX5_turn_1 ?_
  refine lv_iload_n hx hb dX5_turn_4 rfl (lv_at hl 1 rfl) ?_
  refine z_roVN (As := [.int (nI (r))]) (rest := []) (host := "CharmBracelets") (q := (RX3, TX3, 5)) S hG (c_X3_find_1 E (ad := ad) (b := 0) (v := nw) (i := r) hr ⟨hr0, hok.h16 r hr⟩) 1 gX5_turn_X3_find_n66 (List.mem_of_getElem? (i := 18) rfl) (by decide +kernel) rfl kX3_find.2 ⟨Nat.le_of_ble_eq_true rfl, Nat.le_of_ble_eq_true rfl⟩ ⟨Nat.zero_le _, Nat.zero_le _⟩ (hA) rfl h0 rfl hl.1 rfl rfl (Nat.le_of_ble_eq_true rfl) dX5_turn_5 ?_
  refine lv_astore_n (lv' := [(3, .ref (ad (0 + 9 + 2 * r))), (0, .ref (ad 287)), (1, .int (nI (r))), (2, .int (nI (j)))]) hx hb dX5_turn_8 rfl hl (by decide) rfl (fun ls hl => ?_)
  refine lv_aload_n hx hb dX5_turn_9 rfl (lv_at hl 0 rfl) ?_
  refine lv_ifnonnull (tgt := 15) hx hb dX5_turn_10 (by decide) ?_
  refine lv_iload_n hx hb dX5_turn_15 rfl (lv_at hl 3 rfl) ?_
  refine z_flt (tgt := 24) hx hb dX5_turn_16 (by decide) (by omega) ?_
  refine lv_iload_n hx hb dX5_turn_19 rfl (lv_at hl 3 rfl) ?_
  refine lv_iconst (v := nI (4)) hx hb dX5_turn_20 (by decide) ?_
  refine z_clt (tgt := 27) hx hb dX5_turn_21 (by decide) ⟨by omega, by omega⟩ (fun c_2 => ?_) (fun c_2 => by exfalso; omega)
  refine lv_aload_n hx hb dX5_turn_27 rfl (lv_at hl 1 rfl) ?_
  refine lv_aload_n hx hb dX5_turn_28 rfl (lv_at hl 0 rfl) ?_
  refine lv_iconst (v := nI (0)) hx hb dX5_turn_29 (by decide) ?_
  refine lv_iload_n hx hb dX5_turn_30 rfl (lv_at hl 3 rfl) ?_
  refine lv_aload_n hx hb dX5_turn_31 rfl (lv_at hl 0 rfl) ?_
  refine z_getN (own := RX5) (ref := RX2) (host := "CharmBracelets") (C := RX2) (T := TX2) (N := 2) hx hb hts hin2 hown hG (hR r (by omega)).1 rfl 0 (by decide) (List.mem_of_getElem? (i := 4) rfl) rfl rfl dX5_turn_32 ?_
  refine z_roSX (As := [.int (nI (0)), .int (nI (j)), .int (nI (zSz nw r))]) (rest := [.ref (ad (0 + 9 + 2 * r)), .ref (ad 287)]) S hG (c_X5_changeAt E (lv := 0) (i := j) (n := (zSz nw r)) (by decide) (by omega) hn.2) 3 gX5_turn_X5_changeAt rfl kX5_changeAt.2 ⟨Nat.le_of_ble_eq_true rfl, Nat.le_of_ble_eq_true rfl⟩ ⟨Nat.zero_le _, Nat.zero_le _⟩ (trivial) rfl hl.1 rfl rfl (Nat.le_of_ble_eq_true rfl) dX5_turn_35 ?_
  refine z_wrV (As := [.ref (ad (0 + 9 + 2 * r)), .int (nI (j * (zSz nw r) / 4))]) (rest := []) (q := (RX5, TX5, 7)) S hG (c_X5_change E (r := r) (ch := j * (zSz nw r) / 4) hinj hp hct hok hr hr0 (by have h9 : j * (zSz nw r) ≤ 3 * (zSz nw r) := Nat.mul_le_mul_right _ (by omega); omega)) 2 gX5_turn_X5_change rfl kX5_change ⟨Nat.le_of_ble_eq_true rfl, Nat.le_of_ble_eq_true rfl⟩ ⟨Nat.zero_le _, Nat.zero_le _⟩ (hX) rfl t5 rfl hl.1 rfl rfl (Nat.le_of_ble_eq_true rfl) dX5_turn_38 hS (fun _ h => h) (fun Hn locs h_4 q_3 o_5 hS => ?_)
  have hz : Hn.size = H.size := q_3.trans hz
  obtain ⟨π, _, _, hp, hX⟩ := h_4
  exact hret _ _ _ _ _ hS (hz) dX5_turn_41 (rfl) (zsc hp hX)

set_option maxHeartbeats 4000000 in
set_option maxRecDepth 100000 in
theorem c_X5_mirror_0 (E : zEnv) {ad : Nat → Nat} {nw sv : zS} {an : Bool} {hs : Nat → zS} {ct ln : Nat} {cd : Nat → Int32} {x : Int32} (hok : zOk nw) (hinj : zInj ad) (hct : ct ≤ 5) (hq : zfnd (zSz nw) x = none) : zWR E yX5_mirror wsX5_mirror 6 169 [.ref (ad 287), .int (x)] (fun H => zCW E ad nw sv an hs ct ln cd H) (some (.int (-1))) (fun H => zCW E ad nw sv an hs ct ln cd H) (zAC ad) := by
  refine zWR.ofI (maxL := 3) rfl (Nat.le_of_ble_eq_true rfl) (fun p e s m args below meth c H Q hF hP hret ls hl => ?_)
  have S : CallFix p m c cX5_mirror 3 s args wsX5_mirror RX5 := hF.1
  have hG := hF.2
  obtain ⟨hx, hb, hml, hown, hts⟩ := id S
  have hS : va_S (zAC ad) H H [] := va_S.rf
  obtain ⟨locs, hlocs⟩ : ∃ x : List Loc, x = [] := ⟨_, rfl⟩
  rw [← hlocs] at hS ⊢
  have hz : H.size = H.size := rfl
  obtain ⟨π, tn, tt, nb, tf, hp, hX⟩ := hP
  obtain ⟨hA, hsv, hhs, t5, t8, t9, t10, t11⟩ := id hX
  obtain ⟨h0, h1, h2, h3, h4, h5, h6, h7, hR⟩ := id hA
  have hl : lv_has ls 3 [(0, .ref (ad 287)), (1, .int (x))] := hl
  have hin2 : ∀ w ∈ u_ws RX2 TX2 2, w ∈ wsX5_mirror := by decide +kernel
  have hin5 : ∀ w ∈ u_ws RX5 TX5 7, w ∈ wsX5_mirror := by decide +kernel
  refine lv_aload_n hx hb dX5_mirror_0 rfl (lv_at hl 0 rfl) ?_
  refine z_get (ref := RX5) (C := RX5) (T := TX5) (N := 7) hx hb hts hin5 hown hG t5 rfl 0 (by decide) (by decide +kernel) rfl rfl dX5_mirror_1 ?_
  refine lv_iload_n hx hb dX5_mirror_4 rfl (lv_at hl 1 rfl) ?_
  refine z_roVN (As := [.int (x)]) (rest := []) (host := "CharmBracelets") (q := (RX3, TX3, 5)) S hG (c_X3_find_0 E (ad := ad) (b := 0) (v := nw) hok.h16 hq) 1 gX5_mirror_X3_find_n66 (List.mem_of_getElem? (i := 18) rfl) (by decide +kernel) rfl kX3_find.2 ⟨Nat.le_of_ble_eq_true rfl, Nat.le_of_ble_eq_true rfl⟩ ⟨Nat.zero_le _, Nat.zero_le _⟩ (hA) rfl h0 rfl hl.1 rfl rfl (Nat.le_of_ble_eq_true rfl) dX5_mirror_5 ?_
  refine lv_astore_nN (lv' := [(2, .null), (0, .ref (ad 287)), (1, .int (x))]) hx hb dX5_mirror_8 rfl hl (by decide) rfl (fun ls hl => ?_)
  refine lv_aload_nN hx hb dX5_mirror_9 rfl (lv_at hl 0 rfl) ?_
  refine lv_ifnonnullN hx hb dX5_mirror_10 ?_
  refine lv_iconst (v := (-1)) hx hb dX5_mirror_13 (by decide) ?_
  exact hret _ _ _ _ _ hS (hz) dX5_mirror_14 (rfl) (zsc hp hX)

set_option maxHeartbeats 4000000 in
set_option maxRecDepth 100000 in
theorem c_X5_mirror_1 (E : zEnv) {ad : Nat → Nat} {nw sv : zS} {an : Bool} {hs : Nat → zS} {ct ln : Nat} {cd : Nat → Int32} {r : Nat} (hok : zOk nw) (hinj : zInj ad) (hct : ct ≤ 5) (hr : r < 6) (hr0 : zSz nw r ≠ 0) : zWR E yX5_mirror wsX5_mirror 6 169 [.ref (ad 287), .int (nI (r))] (fun H => zCW E ad nw sv an hs ct ln cd H) (some (.int (nI (zdf (zSz nw r) (zKd nw r) (zSz nw r) (zKd nw r))))) (fun H => zCW E ad (zsRg nw r (zSz nw r) (zpm (zimg (zSz nw r) (zKd nw r) (zSz nw r)) (zKd nw r) (zSz nw r))) sv an (zrH hs ct nw) (zrC ct) ln cd H) (zAC ad) := by
  refine zWR.ofI (maxL := 3) rfl (Nat.le_of_ble_eq_true rfl) (fun p e s m args below meth c H Q hF hP hret ls hl => ?_)
  have S : CallFix p m c cX5_mirror 3 s args wsX5_mirror RX5 := hF.1
  have hG := hF.2
  obtain ⟨hx, hb, hml, hown, hts⟩ := id S
  have hS : va_S (zAC ad) H H [] := va_S.rf
  obtain ⟨locs, hlocs⟩ : ∃ x : List Loc, x = [] := ⟨_, rfl⟩
  rw [← hlocs] at hS ⊢
  have hz : H.size = H.size := rfl
  obtain ⟨π, tn, tt, nb, tf, hp, hX⟩ := hP
  obtain ⟨hA, hsv, hhs, t5, t8, t9, t10, t11⟩ := id hX
  obtain ⟨h0, h1, h2, h3, h4, h5, h6, h7, hR⟩ := id hA
  have hn := hok.sz hr hr0
  have hl : lv_has ls 3 [(0, .ref (ad 287)), (1, .int (nI (r)))] := hl
  have hin2 : ∀ w ∈ u_ws RX2 TX2 2, w ∈ wsX5_mirror := by decide +kernel
  have hin5 : ∀ w ∈ u_ws RX5 TX5 7, w ∈ wsX5_mirror := by decide +kernel
  refine lv_aload_n hx hb dX5_mirror_0 rfl (lv_at hl 0 rfl) ?_
  refine z_get (ref := RX5) (C := RX5) (T := TX5) (N := 7) hx hb hts hin5 hown hG t5 rfl 0 (by decide) (by decide +kernel) rfl rfl dX5_mirror_1 ?_
  refine lv_iload_n hx hb dX5_mirror_4 rfl (lv_at hl 1 rfl) ?_
  refine z_roVN (As := [.int (nI (r))]) (rest := []) (host := "CharmBracelets") (q := (RX3, TX3, 5)) S hG (c_X3_find_1 E (ad := ad) (b := 0) (v := nw) (i := r) hr ⟨hr0, hok.h16 r hr⟩) 1 gX5_mirror_X3_find_n66 (List.mem_of_getElem? (i := 18) rfl) (by decide +kernel) rfl kX3_find.2 ⟨Nat.le_of_ble_eq_true rfl, Nat.le_of_ble_eq_true rfl⟩ ⟨Nat.zero_le _, Nat.zero_le _⟩ (hA) rfl h0 rfl hl.1 rfl rfl (Nat.le_of_ble_eq_true rfl) dX5_mirror_5 ?_
  refine lv_astore_n (lv' := [(2, .ref (ad (0 + 9 + 2 * r))), (0, .ref (ad 287)), (1, .int (nI (r)))]) hx hb dX5_mirror_8 rfl hl (by decide) rfl (fun ls hl => ?_)
  refine lv_aload_n hx hb dX5_mirror_9 rfl (lv_at hl 0 rfl) ?_
  refine lv_ifnonnull (tgt := 15) hx hb dX5_mirror_10 (by decide) ?_
  refine lv_aload_n hx hb dX5_mirror_15 rfl (lv_at hl 1 rfl) ?_
  refine lv_aload_n hx hb dX5_mirror_16 rfl (lv_at hl 0 rfl) ?_
  refine lv_aload_n hx hb dX5_mirror_17 rfl (lv_at hl 0 rfl) ?_
  refine z_getN (own := RX5) (ref := RX2) (host := "CharmBracelets") (C := RX2) (T := TX2) (N := 2) hx hb hts hin2 hown hG (hR r (by omega)).1 rfl 0 (by decide) (List.mem_of_getElem? (i := 4) rfl) rfl rfl dX5_mirror_18 ?_
  refine z_wrV (As := [.ref (ad (0 + 9 + 2 * r)), .int (nI (zSz nw r))]) (rest := []) (q := (RX5, TX5, 7)) S hG (c_X5_change E (r := r) (ch := (zSz nw r)) hinj hp hct hok hr hr0 (by omega)) 2 gX5_mirror_X5_change rfl kX5_change ⟨Nat.le_of_ble_eq_true rfl, Nat.le_of_ble_eq_true rfl⟩ ⟨Nat.zero_le _, Nat.zero_le _⟩ (hX) rfl t5 rfl hl.1 rfl rfl (Nat.le_of_ble_eq_true rfl) dX5_mirror_21 hS (fun _ h => h) (fun Hn locs h_2 q_1 o_3 hS => ?_)
  have hz : Hn.size = H.size := q_1.trans hz
  obtain ⟨π, _, _, hp, hX⟩ := h_2
  exact hret _ _ _ _ _ hS (hz) dX5_mirror_24 (rfl) (zsc hp hX)

set_option maxHeartbeats 4000000 in
set_option maxRecDepth 100000 in
theorem c_X5_bracelets_0 (E : zEnv) {ad : Nat → Nat} {nw sv : zS} {an : Bool} {hs : Nat → zS} {ct ln : Nat} {cd : Nat → Int32}  (hok : zOk nw)  : zRO E yX5_bracelets wsX5_bracelets 1 22 [.ref (ad 287)] (fun H => zCW E ad nw sv an hs ct ln cd H) (some (.int (zset (fun t => decide (zSz nw t ≠ 0)) 6))) := by
  refine zRO.ofI (maxL := 1) rfl (Nat.le_of_ble_eq_true rfl) (fun p e s m args below meth c H Q hF hP hret ls hl => ?_)
  have S : CallFix p m c cX5_bracelets 1 s args wsX5_bracelets RX5 := hF.1
  have hG := hF.2
  obtain ⟨hx, hb, hml, hown, hts⟩ := id S
  obtain ⟨π, tn, tt, nb, tf, hp, hX⟩ := hP
  obtain ⟨hA, hsv, hhs, t5, t8, t9, t10, t11⟩ := id hX
  obtain ⟨h0, h1, h2, h3, h4, h5, h6, h7, hR⟩ := id hA
  have hl : lv_has ls 1 [(0, .ref (ad 287))] := hl
  have hin5 : ∀ w ∈ u_ws RX5 TX5 7, w ∈ wsX5_bracelets := by decide +kernel
  refine lv_aload_n hx hb dX5_bracelets_0 rfl (lv_at hl 0 rfl) ?_
  refine z_get (ref := RX5) (C := RX5) (T := TX5) (N := 7) hx hb hts hin5 hown hG t5 rfl 0 (by decide) (by decide +kernel) rfl rfl dX5_bracelets_1 ?_
  refine z_roVN (As := []) (rest := []) (host := "CharmBracelets") (q := (RX3, TX3, 5)) S hG (c_X3_ringSet E (ad := ad) (b := 0) (v := nw) hok.h16) 0 gX5_bracelets_X3_ringSet_n110 (List.mem_of_getElem? (i := 47) rfl) (by decide +kernel) rfl kX3_ringSet.2 ⟨Nat.le_of_ble_eq_true rfl, Nat.le_of_ble_eq_true rfl⟩ ⟨Nat.zero_le _, Nat.zero_le _⟩ (hA) rfl h0 rfl hl.1 rfl rfl (Nat.le_of_ble_eq_true rfl) dX5_bracelets_4 ?_
  exact hret _ _ _ dX5_bracelets_7 (rfl)

set_option maxHeartbeats 4000000 in
set_option maxRecDepth 100000 in
theorem c_X5_bracelet_0 (E : zEnv) {ad : Nat → Nat} {nw sv : zS} {an : Bool} {hs : Nat → zS} {ct ln : Nat} {cd : Nat → Int32} {x y : Int32} (hok : zOk nw) (hq : zfnd (zSz nw) x = none) : zRO E yX5_bracelet wsX5_bracelet 4 90 [.ref (ad 287), .int (x), .int (y)] (fun H => zCW E ad nw sv an hs ct ln cd H) (some (.int (-1))) := by
  refine zRO.ofI (maxL := 4) rfl (Nat.le_of_ble_eq_true rfl) (fun p e s m args below meth c H Q hF hP hret ls hl => ?_)
  have S : CallFix p m c cX5_bracelet 4 s args wsX5_bracelet RX5 := hF.1
  have hG := hF.2
  obtain ⟨hx, hb, hml, hown, hts⟩ := id S
  obtain ⟨π, tn, tt, nb, tf, hp, hX⟩ := hP
  obtain ⟨hA, hsv, hhs, t5, t8, t9, t10, t11⟩ := id hX
  obtain ⟨h0, h1, h2, h3, h4, h5, h6, h7, hR⟩ := id hA
  have hl : lv_has ls 4 [(0, .ref (ad 287)), (1, .int (x)), (2, .int (y))] := hl
  have hin2 : ∀ w ∈ u_ws RX2 TX2 2, w ∈ wsX5_bracelet := by decide +kernel
  have hin5 : ∀ w ∈ u_ws RX5 TX5 7, w ∈ wsX5_bracelet := by decide +kernel
  refine lv_aload_n hx hb dX5_bracelet_0 rfl (lv_at hl 0 rfl) ?_
  refine z_get (ref := RX5) (C := RX5) (T := TX5) (N := 7) hx hb hts hin5 hown hG t5 rfl 0 (by decide) (by decide +kernel) rfl rfl dX5_bracelet_1 ?_
  refine lv_iload_n hx hb dX5_bracelet_4 rfl (lv_at hl 1 rfl) ?_
  refine z_roVN (As := [.int (x)]) (rest := []) (host := "CharmBracelets") (q := (RX3, TX3, 5)) S hG (c_X3_find_0 E (ad := ad) (b := 0) (v := nw) hok.h16 hq) 1 gX5_bracelet_X3_find_n66 (List.mem_of_getElem? (i := 18) rfl) (by decide +kernel) rfl kX3_find.2 ⟨Nat.le_of_ble_eq_true rfl, Nat.le_of_ble_eq_true rfl⟩ ⟨Nat.zero_le _, Nat.zero_le _⟩ (hA) rfl h0 rfl hl.1 rfl rfl (Nat.le_of_ble_eq_true rfl) dX5_bracelet_5 ?_
  refine lv_astore_nN (lv' := [(3, .null), (0, .ref (ad 287)), (1, .int (x)), (2, .int (y))]) hx hb dX5_bracelet_8 rfl hl (by decide) rfl (fun ls hl => ?_)
  refine lv_aload_nN hx hb dX5_bracelet_9 rfl (lv_at hl 0 rfl) ?_
  refine lv_ifnonnullN hx hb dX5_bracelet_10 ?_
  refine lv_iconst (v := (-1)) hx hb dX5_bracelet_13 (by decide) ?_
  exact hret _ _ _ dX5_bracelet_14 (rfl)

set_option maxHeartbeats 4000000 in
set_option maxRecDepth 100000 in
theorem c_X5_bracelet_1 (E : zEnv) {ad : Nat → Nat} {nw sv : zS} {an : Bool} {hs : Nat → zS} {ct ln : Nat} {cd : Nat → Int32} {r : Nat} {y : Int32} (hok : zOk nw) (hr : r < 6) (hr0 : zSz nw r ≠ 0) (hy : zin y 0 3 = false) : zRO E yX5_bracelet wsX5_bracelet 4 90 [.ref (ad 287), .int (nI (r)), .int (y)] (fun H => zCW E ad nw sv an hs ct ln cd H) (some (.int (-2))) := by
  refine zRO.ofI (maxL := 4) rfl (Nat.le_of_ble_eq_true rfl) (fun p e s m args below meth c H Q hF hP hret ls hl => ?_)
  have S : CallFix p m c cX5_bracelet 4 s args wsX5_bracelet RX5 := hF.1
  have hG := hF.2
  obtain ⟨hx, hb, hml, hown, hts⟩ := id S
  obtain ⟨π, tn, tt, nb, tf, hp, hX⟩ := hP
  obtain ⟨hA, hsv, hhs, t5, t8, t9, t10, t11⟩ := id hX
  obtain ⟨h0, h1, h2, h3, h4, h5, h6, h7, hR⟩ := id hA
  have hl : lv_has ls 4 [(0, .ref (ad 287)), (1, .int (nI (r))), (2, .int (y))] := hl
  have hin2 : ∀ w ∈ u_ws RX2 TX2 2, w ∈ wsX5_bracelet := by decide +kernel
  have hin5 : ∀ w ∈ u_ws RX5 TX5 7, w ∈ wsX5_bracelet := by decide +kernel
  refine lv_aload_n hx hb dX5_bracelet_0 rfl (lv_at hl 0 rfl) ?_
  refine z_get (ref := RX5) (C := RX5) (T := TX5) (N := 7) hx hb hts hin5 hown hG t5 rfl 0 (by decide) (by decide +kernel) rfl rfl dX5_bracelet_1 ?_
  refine lv_iload_n hx hb dX5_bracelet_4 rfl (lv_at hl 1 rfl) ?_
  refine z_roVN (As := [.int (nI (r))]) (rest := []) (host := "CharmBracelets") (q := (RX3, TX3, 5)) S hG (c_X3_find_1 E (ad := ad) (b := 0) (v := nw) (i := r) hr ⟨hr0, hok.h16 r hr⟩) 1 gX5_bracelet_X3_find_n66 (List.mem_of_getElem? (i := 18) rfl) (by decide +kernel) rfl kX3_find.2 ⟨Nat.le_of_ble_eq_true rfl, Nat.le_of_ble_eq_true rfl⟩ ⟨Nat.zero_le _, Nat.zero_le _⟩ (hA) rfl h0 rfl hl.1 rfl rfl (Nat.le_of_ble_eq_true rfl) dX5_bracelet_5 ?_
  refine lv_astore_n (lv' := [(3, .ref (ad (0 + 9 + 2 * r))), (0, .ref (ad 287)), (1, .int (nI (r))), (2, .int (y))]) hx hb dX5_bracelet_8 rfl hl (by decide) rfl (fun ls hl => ?_)
  refine lv_aload_n hx hb dX5_bracelet_9 rfl (lv_at hl 0 rfl) ?_
  refine lv_ifnonnull (tgt := 15) hx hb dX5_bracelet_10 (by decide) ?_
  refine lv_iload_n hx hb dX5_bracelet_15 rfl (lv_at hl 3 rfl) ?_
  refine lv_tableOut (tgt := 81) hx hb dX5_bracelet_16 (zin_out (by decide) hy) (by decide) ?_
  refine lv_bipush (v := (-2)) hx hb dX5_bracelet_81 (by decide) ?_
  exact hret _ _ _ dX5_bracelet_83 (rfl)

set_option maxHeartbeats 4000000 in
set_option maxRecDepth 100000 in
theorem c_X5_bracelet_20 (E : zEnv) {ad : Nat → Nat} {nw sv : zS} {an : Bool} {hs : Nat → zS} {ct ln : Nat} {cd : Nat → Int32} {r : Nat} (hok : zOk nw) (hr : r < 6) (hr0 : zSz nw r ≠ 0) : zRO E yX5_bracelet wsX5_bracelet 4 90 [.ref (ad 287), .int (nI (r)), .int (nI (0))] (fun H => zCW E ad nw sv an hs ct ln cd H) (some (.int (nI (zSz nw r)))) := by
  refine zRO.ofI (maxL := 4) rfl (Nat.le_of_ble_eq_true rfl) (fun p e s m args below meth c H Q hF hP hret ls hl => ?_)
  have S : CallFix p m c cX5_bracelet 4 s args wsX5_bracelet RX5 := hF.1
  have hG := hF.2
  obtain ⟨hx, hb, hml, hown, hts⟩ := id S
  obtain ⟨π, tn, tt, nb, tf, hp, hX⟩ := hP
  obtain ⟨hA, hsv, hhs, t5, t8, t9, t10, t11⟩ := id hX
  obtain ⟨h0, h1, h2, h3, h4, h5, h6, h7, hR⟩ := id hA
  have hn := hok.sz hr hr0
  have hl : lv_has ls 4 [(0, .ref (ad 287)), (1, .int (nI (r))), (2, .int (nI (0)))] := hl
  have hin2 : ∀ w ∈ u_ws RX2 TX2 2, w ∈ wsX5_bracelet := by decide +kernel
  have hin5 : ∀ w ∈ u_ws RX5 TX5 7, w ∈ wsX5_bracelet := by decide +kernel
  refine lv_aload_n hx hb dX5_bracelet_0 rfl (lv_at hl 0 rfl) ?_
  refine z_get (ref := RX5) (C := RX5) (T := TX5) (N := 7) hx hb hts hin5 hown hG t5 rfl 0 (by decide) (by decide +kernel) rfl rfl dX5_bracelet_1 ?_
  refine lv_iload_n hx hb dX5_bracelet_4 rfl (lv_at hl 1 rfl) ?_
  refine z_roVN (As := [.int (nI (r))]) (rest := []) (host := "CharmBracelets") (q := (RX3, TX3, 5)) S hG (c_X3_find_1 E (ad := ad) (b := 0) (v := nw) (i := r) hr ⟨hr0, hok.h16 r hr⟩) 1 gX5_bracelet_X3_find_n66 (List.mem_of_getElem? (i := 18) rfl) (by decide +kernel) rfl kX3_find.2 ⟨Nat.le_of_ble_eq_true rfl, Nat.le_of_ble_eq_true rfl⟩ ⟨Nat.zero_le _, Nat.zero_le _⟩ (hA) rfl h0 rfl hl.1 rfl rfl (Nat.le_of_ble_eq_true rfl) dX5_bracelet_5 ?_
  refine lv_astore_n (lv' := [(3, .ref (ad (0 + 9 + 2 * r))), (0, .ref (ad 287)), (1, .int (nI (r))), (2, .int (nI (0)))]) hx hb dX5_bracelet_8 rfl hl (by decide) rfl (fun ls hl => ?_)
  refine lv_aload_n hx hb dX5_bracelet_9 rfl (lv_at hl 0 rfl) ?_
  refine lv_ifnonnull (tgt := 15) hx hb dX5_bracelet_10 (by decide) ?_
  refine lv_iload_n hx hb dX5_bracelet_15 rfl (lv_at hl 3 rfl) ?_
  refine lv_tableIn (off := 32) (tgt := 48) hx hb dX5_bracelet_16 (by decide) (by decide) rfl (by decide) ?_
  refine lv_aload_n hx hb dX5_bracelet_48 rfl (lv_at hl 0 rfl) ?_
  refine z_getN (own := RX5) (ref := RX2) (host := "CharmBracelets") (C := RX2) (T := TX2) (N := 2) hx hb hts hin2 hown hG (hR r (by omega)).1 rfl 0 (by decide) (List.mem_of_getElem? (i := 4) rfl) rfl rfl dX5_bracelet_49 ?_
  exact hret _ _ _ dX5_bracelet_52 (rfl)

set_option maxHeartbeats 4000000 in
set_option maxRecDepth 100000 in
theorem c_X5_bracelet_21 (E : zEnv) {ad : Nat → Nat} {nw sv : zS} {an : Bool} {hs : Nat → zS} {ct ln : Nat} {cd : Nat → Int32} {r : Nat} (hok : zOk nw) (hr : r < 6) (hr0 : zSz nw r ≠ 0) : zRO E yX5_bracelet wsX5_bracelet 4 90 [.ref (ad 287), .int (nI (r)), .int (nI (1))] (fun H => zCW E ad nw sv an hs ct ln cd H) (some (.int (nI ((zSz nw r) - zcn (zKd nw r) 0 (zSz nw r))))) := by
  refine zRO.ofI (maxL := 4) rfl (Nat.le_of_ble_eq_true rfl) (fun p e s m args below meth c H Q hF hP hret ls hl => ?_)
  have S : CallFix p m c cX5_bracelet 4 s args wsX5_bracelet RX5 := hF.1
  have hG := hF.2
  obtain ⟨hx, hb, hml, hown, hts⟩ := id S
  obtain ⟨π, tn, tt, nb, tf, hp, hX⟩ := hP
  obtain ⟨hA, hsv, hhs, t5, t8, t9, t10, t11⟩ := id hX
  obtain ⟨h0, h1, h2, h3, h4, h5, h6, h7, hR⟩ := id hA
  have hn := hok.sz hr hr0
  have hl : lv_has ls 4 [(0, .ref (ad 287)), (1, .int (nI (r))), (2, .int (nI (1)))] := hl
  have hin2 : ∀ w ∈ u_ws RX2 TX2 2, w ∈ wsX5_bracelet := by decide +kernel
  have hin5 : ∀ w ∈ u_ws RX5 TX5 7, w ∈ wsX5_bracelet := by decide +kernel
  refine lv_aload_n hx hb dX5_bracelet_0 rfl (lv_at hl 0 rfl) ?_
  refine z_get (ref := RX5) (C := RX5) (T := TX5) (N := 7) hx hb hts hin5 hown hG t5 rfl 0 (by decide) (by decide +kernel) rfl rfl dX5_bracelet_1 ?_
  refine lv_iload_n hx hb dX5_bracelet_4 rfl (lv_at hl 1 rfl) ?_
  refine z_roVN (As := [.int (nI (r))]) (rest := []) (host := "CharmBracelets") (q := (RX3, TX3, 5)) S hG (c_X3_find_1 E (ad := ad) (b := 0) (v := nw) (i := r) hr ⟨hr0, hok.h16 r hr⟩) 1 gX5_bracelet_X3_find_n66 (List.mem_of_getElem? (i := 18) rfl) (by decide +kernel) rfl kX3_find.2 ⟨Nat.le_of_ble_eq_true rfl, Nat.le_of_ble_eq_true rfl⟩ ⟨Nat.zero_le _, Nat.zero_le _⟩ (hA) rfl h0 rfl hl.1 rfl rfl (Nat.le_of_ble_eq_true rfl) dX5_bracelet_5 ?_
  refine lv_astore_n (lv' := [(3, .ref (ad (0 + 9 + 2 * r))), (0, .ref (ad 287)), (1, .int (nI (r))), (2, .int (nI (1)))]) hx hb dX5_bracelet_8 rfl hl (by decide) rfl (fun ls hl => ?_)
  refine lv_aload_n hx hb dX5_bracelet_9 rfl (lv_at hl 0 rfl) ?_
  refine lv_ifnonnull (tgt := 15) hx hb dX5_bracelet_10 (by decide) ?_
  refine lv_iload_n hx hb dX5_bracelet_15 rfl (lv_at hl 3 rfl) ?_
  refine lv_tableIn (off := 37) (tgt := 53) hx hb dX5_bracelet_16 (by decide) (by decide) rfl (by decide) ?_
  refine lv_aload_n hx hb dX5_bracelet_53 rfl (lv_at hl 0 rfl) ?_
  refine z_roVN (As := []) (rest := []) (host := "CharmBracelets") (q := (RX2, TX2, 2)) S hG (c_X2_charms E (n := (zSz nw r)) (f := (zKd nw r)) hn.2) 0 gX5_bracelet_X2_charms_n74 (List.mem_of_getElem? (i := 20) rfl) (by decide +kernel) rfl kX2_charms.2 ⟨Nat.le_of_ble_eq_true rfl, Nat.le_of_ble_eq_true rfl⟩ ⟨Nat.zero_le _, Nat.zero_le _⟩ (hR r (by omega)) rfl (hR r (by omega)).1 rfl hl.1 rfl rfl (Nat.le_of_ble_eq_true rfl) dX5_bracelet_54 ?_
  exact hret _ _ _ dX5_bracelet_57 (rfl)

set_option maxHeartbeats 4000000 in
set_option maxRecDepth 100000 in
theorem c_X5_bracelet_22 (E : zEnv) {ad : Nat → Nat} {nw sv : zS} {an : Bool} {hs : Nat → zS} {ct ln : Nat} {cd : Nat → Int32} {r : Nat} (hok : zOk nw) (hr : r < 6) (hr0 : zSz nw r ≠ 0) : zRO E yX5_bracelet wsX5_bracelet 4 90 [.ref (ad 287), .int (nI (r)), .int (nI (2))] (fun H => zCW E ad nw sv an hs ct ln cd H) (some (.int (zqs (zWt nw) (zKd nw r) 0 (zSz nw r)))) := by
  refine zRO.ofI (maxL := 4) rfl (Nat.le_of_ble_eq_true rfl) (fun p e s m args below meth c H Q hF hP hret ls hl => ?_)
  have S : CallFix p m c cX5_bracelet 4 s args wsX5_bracelet RX5 := hF.1
  have hG := hF.2
  obtain ⟨hx, hb, hml, hown, hts⟩ := id S
  obtain ⟨π, tn, tt, nb, tf, hp, hX⟩ := hP
  obtain ⟨hA, hsv, hhs, t5, t8, t9, t10, t11⟩ := id hX
  obtain ⟨h0, h1, h2, h3, h4, h5, h6, h7, hR⟩ := id hA
  have hn := hok.sz hr hr0
  have hl : lv_has ls 4 [(0, .ref (ad 287)), (1, .int (nI (r))), (2, .int (nI (2)))] := hl
  have hin2 : ∀ w ∈ u_ws RX2 TX2 2, w ∈ wsX5_bracelet := by decide +kernel
  have hin5 : ∀ w ∈ u_ws RX5 TX5 7, w ∈ wsX5_bracelet := by decide +kernel
  refine lv_aload_n hx hb dX5_bracelet_0 rfl (lv_at hl 0 rfl) ?_
  refine z_get (ref := RX5) (C := RX5) (T := TX5) (N := 7) hx hb hts hin5 hown hG t5 rfl 0 (by decide) (by decide +kernel) rfl rfl dX5_bracelet_1 ?_
  refine lv_iload_n hx hb dX5_bracelet_4 rfl (lv_at hl 1 rfl) ?_
  refine z_roVN (As := [.int (nI (r))]) (rest := []) (host := "CharmBracelets") (q := (RX3, TX3, 5)) S hG (c_X3_find_1 E (ad := ad) (b := 0) (v := nw) (i := r) hr ⟨hr0, hok.h16 r hr⟩) 1 gX5_bracelet_X3_find_n66 (List.mem_of_getElem? (i := 18) rfl) (by decide +kernel) rfl kX3_find.2 ⟨Nat.le_of_ble_eq_true rfl, Nat.le_of_ble_eq_true rfl⟩ ⟨Nat.zero_le _, Nat.zero_le _⟩ (hA) rfl h0 rfl hl.1 rfl rfl (Nat.le_of_ble_eq_true rfl) dX5_bracelet_5 ?_
  refine lv_astore_n (lv' := [(3, .ref (ad (0 + 9 + 2 * r))), (0, .ref (ad 287)), (1, .int (nI (r))), (2, .int (nI (2)))]) hx hb dX5_bracelet_8 rfl hl (by decide) rfl (fun ls hl => ?_)
  refine lv_aload_n hx hb dX5_bracelet_9 rfl (lv_at hl 0 rfl) ?_
  refine lv_ifnonnull (tgt := 15) hx hb dX5_bracelet_10 (by decide) ?_
  refine lv_iload_n hx hb dX5_bracelet_15 rfl (lv_at hl 3 rfl) ?_
  refine lv_tableIn (off := 42) (tgt := 58) hx hb dX5_bracelet_16 (by decide) (by decide) rfl (by decide) ?_
  refine lv_aload_n hx hb dX5_bracelet_58 rfl (lv_at hl 1 rfl) ?_
  refine z_get (ref := RX5) (C := RX5) (T := TX5) (N := 7) hx hb hts hin5 hown hG t5 rfl 0 (by decide) (by decide +kernel) rfl rfl dX5_bracelet_59 ?_
  refine lv_aload_n hx hb dX5_bracelet_62 rfl (lv_at hl 0 rfl) ?_
  refine lv_iconst (v := nI (0)) hx hb dX5_bracelet_63 (by decide) ?_
  refine lv_aload_n hx hb dX5_bracelet_64 rfl (lv_at hl 0 rfl) ?_
  refine z_getN (own := RX5) (ref := RX2) (host := "CharmBracelets") (C := RX2) (T := TX2) (N := 2) hx hb hts hin2 hown hG (hR r (by omega)).1 rfl 0 (by decide) (List.mem_of_getElem? (i := 4) rfl) rfl rfl dX5_bracelet_65 ?_
  refine z_roVN (As := [.ref (ad (0 + 9 + 2 * r)), .int (nI (0)), .int (nI (zSz nw r))]) (rest := []) (host := "CharmBracelets") (q := (RX3, TX3, 5)) S hG (c_X3_weight E (ad := ad) (b := 0) (v := nw) (n := (zSz nw r)) (f := (zKd nw r)) (a0 := 0) (e0 := (zSz nw r)) ⟨Nat.zero_le _, hn.2⟩ (fun s hs => hok.2.1 r hr s hs)) 3 gX5_bracelet_X3_weight_n113 (List.mem_of_getElem? (i := 49) rfl) (by decide +kernel) rfl kX3_weight.2 ⟨Nat.le_of_ble_eq_true rfl, Nat.le_of_ble_eq_true rfl⟩ ⟨Nat.zero_le _, Nat.zero_le _⟩ (⟨hA, hR r (by omega)⟩) rfl h0 rfl hl.1 rfl rfl (Nat.le_of_ble_eq_true rfl) dX5_bracelet_68 ?_
  exact hret _ _ _ dX5_bracelet_71 (rfl)

set_option maxHeartbeats 4000000 in
set_option maxRecDepth 100000 in
theorem c_X5_bracelet_23 (E : zEnv) {ad : Nat → Nat} {nw sv : zS} {an : Bool} {hs : Nat → zS} {ct ln : Nat} {cd : Nat → Int32} {r : Nat} (hok : zOk nw) (hr : r < 6) (hr0 : zSz nw r ≠ 0) : zRO E yX5_bracelet wsX5_bracelet 4 90 [.ref (ad 287), .int (nI (r)), .int (nI (3))] (fun H => zCW E ad nw sv an hs ct ln cd H) (some (.int (zlean (zWt nw) (zSz nw r) (zKd nw r)))) := by
  refine zRO.ofI (maxL := 4) rfl (Nat.le_of_ble_eq_true rfl) (fun p e s m args below meth c H Q hF hP hret ls hl => ?_)
  have S : CallFix p m c cX5_bracelet 4 s args wsX5_bracelet RX5 := hF.1
  have hG := hF.2
  obtain ⟨hx, hb, hml, hown, hts⟩ := id S
  obtain ⟨π, tn, tt, nb, tf, hp, hX⟩ := hP
  obtain ⟨hA, hsv, hhs, t5, t8, t9, t10, t11⟩ := id hX
  obtain ⟨h0, h1, h2, h3, h4, h5, h6, h7, hR⟩ := id hA
  have hn := hok.sz hr hr0
  have hl : lv_has ls 4 [(0, .ref (ad 287)), (1, .int (nI (r))), (2, .int (nI (3)))] := hl
  have hin2 : ∀ w ∈ u_ws RX2 TX2 2, w ∈ wsX5_bracelet := by decide +kernel
  have hin5 : ∀ w ∈ u_ws RX5 TX5 7, w ∈ wsX5_bracelet := by decide +kernel
  refine lv_aload_n hx hb dX5_bracelet_0 rfl (lv_at hl 0 rfl) ?_
  refine z_get (ref := RX5) (C := RX5) (T := TX5) (N := 7) hx hb hts hin5 hown hG t5 rfl 0 (by decide) (by decide +kernel) rfl rfl dX5_bracelet_1 ?_
  refine lv_iload_n hx hb dX5_bracelet_4 rfl (lv_at hl 1 rfl) ?_
  refine z_roVN (As := [.int (nI (r))]) (rest := []) (host := "CharmBracelets") (q := (RX3, TX3, 5)) S hG (c_X3_find_1 E (ad := ad) (b := 0) (v := nw) (i := r) hr ⟨hr0, hok.h16 r hr⟩) 1 gX5_bracelet_X3_find_n66 (List.mem_of_getElem? (i := 18) rfl) (by decide +kernel) rfl kX3_find.2 ⟨Nat.le_of_ble_eq_true rfl, Nat.le_of_ble_eq_true rfl⟩ ⟨Nat.zero_le _, Nat.zero_le _⟩ (hA) rfl h0 rfl hl.1 rfl rfl (Nat.le_of_ble_eq_true rfl) dX5_bracelet_5 ?_
  refine lv_astore_n (lv' := [(3, .ref (ad (0 + 9 + 2 * r))), (0, .ref (ad 287)), (1, .int (nI (r))), (2, .int (nI (3)))]) hx hb dX5_bracelet_8 rfl hl (by decide) rfl (fun ls hl => ?_)
  refine lv_aload_n hx hb dX5_bracelet_9 rfl (lv_at hl 0 rfl) ?_
  refine lv_ifnonnull (tgt := 15) hx hb dX5_bracelet_10 (by decide) ?_
  refine lv_iload_n hx hb dX5_bracelet_15 rfl (lv_at hl 3 rfl) ?_
  refine lv_tableIn (off := 56) (tgt := 72) hx hb dX5_bracelet_16 (by decide) (by decide) rfl (by decide) ?_
  refine lv_aload_n hx hb dX5_bracelet_72 rfl (lv_at hl 1 rfl) ?_
  refine z_get (ref := RX5) (C := RX5) (T := TX5) (N := 7) hx hb hts hin5 hown hG t5 rfl 0 (by decide) (by decide +kernel) rfl rfl dX5_bracelet_73 ?_
  refine lv_aload_n hx hb dX5_bracelet_76 rfl (lv_at hl 0 rfl) ?_
  refine z_roVN (As := [.ref (ad (0 + 9 + 2 * r))]) (rest := []) (host := "CharmBracelets") (q := (RX3, TX3, 5)) S hG (c_X3_lean E (ad := ad) (b := 0) (v := nw) (n := (zSz nw r)) (f := (zKd nw r)) hn.2 (fun s hs => hok.2.1 r hr s hs)) 1 gX5_bracelet_X3_lean_n95 (List.mem_of_getElem? (i := 27) rfl) (by decide +kernel) rfl kX3_lean.2 ⟨Nat.le_of_ble_eq_true rfl, Nat.le_of_ble_eq_true rfl⟩ ⟨Nat.zero_le _, Nat.zero_le _⟩ (⟨hA, hR r (by omega)⟩) rfl h0 rfl hl.1 rfl rfl (Nat.le_of_ble_eq_true rfl) dX5_bracelet_77 ?_
  exact hret _ _ _ dX5_bracelet_80 (rfl)

set_option maxHeartbeats 4000000 in
set_option maxRecDepth 100000 in
theorem c_X5_slot_0 (E : zEnv) {ad : Nat → Nat} {nw sv : zS} {an : Bool} {hs : Nat → zS} {ct ln : Nat} {cd : Nat → Int32} {x y : Int32} (hok : zOk nw) (hq : zfnd (zSz nw) x = none) : zRO E yX5_slot wsX5_slot 1 21 [.ref (ad 287), .int (x), .int (y)] (fun H => zCW E ad nw sv an hs ct ln cd H) (some (.int (-1))) := by
  refine zRO.ofI (maxL := 4) rfl (Nat.le_of_ble_eq_true rfl) (fun p e s m args below meth c H Q hF hP hret ls hl => ?_)
  have S : CallFix p m c cX5_slot 4 s args wsX5_slot RX5 := hF.1
  have hG := hF.2
  obtain ⟨hx, hb, hml, hown, hts⟩ := id S
  obtain ⟨π, tn, tt, nb, tf, hp, hX⟩ := hP
  obtain ⟨hA, hsv, hhs, t5, t8, t9, t10, t11⟩ := id hX
  obtain ⟨h0, h1, h2, h3, h4, h5, h6, h7, hR⟩ := id hA
  have hl : lv_has ls 4 [(0, .ref (ad 287)), (1, .int (x)), (2, .int (y))] := hl
  have hin5 : ∀ w ∈ u_ws RX5 TX5 7, w ∈ wsX5_slot := by decide +kernel
  refine lv_aload_n hx hb dX5_slot_0 rfl (lv_at hl 0 rfl) ?_
  refine z_get (ref := RX5) (C := RX5) (T := TX5) (N := 7) hx hb hts hin5 hown hG t5 rfl 0 (by decide) (by decide +kernel) rfl rfl dX5_slot_1 ?_
  refine lv_iload_n hx hb dX5_slot_4 rfl (lv_at hl 1 rfl) ?_
  refine z_roVN (As := [.int (x)]) (rest := []) (host := "CharmBracelets") (q := (RX3, TX3, 5)) S hG (c_X3_find_0 E (ad := ad) (b := 0) (v := nw) hok.h16 hq) 1 gX5_slot_X3_find_n66 (List.mem_of_getElem? (i := 18) rfl) (by decide +kernel) rfl kX3_find.2 ⟨Nat.le_of_ble_eq_true rfl, Nat.le_of_ble_eq_true rfl⟩ ⟨Nat.zero_le _, Nat.zero_le _⟩ (hA) rfl h0 rfl hl.1 rfl rfl (Nat.le_of_ble_eq_true rfl) dX5_slot_5 ?_
  refine lv_astore_nN (lv' := [(3, .null), (0, .ref (ad 287)), (1, .int (x)), (2, .int (y))]) hx hb dX5_slot_8 rfl hl (by decide) rfl (fun ls hl => ?_)
  refine lv_aload_nN hx hb dX5_slot_9 rfl (lv_at hl 0 rfl) ?_
  refine lv_ifnullN (tgt := 21) hx hb dX5_slot_10 (by decide) ?_
  refine lv_iconst (v := (-1)) hx hb dX5_slot_21 (by decide) ?_
  exact hret _ _ _ dX5_slot_22 (rfl)

set_option maxHeartbeats 4000000 in
set_option maxRecDepth 100000 in
theorem c_X5_slot_1 (E : zEnv) {ad : Nat → Nat} {nw sv : zS} {an : Bool} {hs : Nat → zS} {ct ln : Nat} {cd : Nat → Int32} {r : Nat} {y : Int32} (hok : zOk nw) (hr : r < 6) (hr0 : zSz nw r ≠ 0) (hy : zin y 0 ((zSz nw r) - 1) = false) : zRO E yX5_slot wsX5_slot 1 21 [.ref (ad 287), .int (nI (r)), .int (y)] (fun H => zCW E ad nw sv an hs ct ln cd H) (some (.int (-1))) := by
  refine zRO.ofI (maxL := 4) rfl (Nat.le_of_ble_eq_true rfl) (fun p e s m args below meth c H Q hF hP hret ls hl => ?_)
  have S : CallFix p m c cX5_slot 4 s args wsX5_slot RX5 := hF.1
  have hG := hF.2
  obtain ⟨hx, hb, hml, hown, hts⟩ := id S
  obtain ⟨π, tn, tt, nb, tf, hp, hX⟩ := hP
  obtain ⟨hA, hsv, hhs, t5, t8, t9, t10, t11⟩ := id hX
  obtain ⟨h0, h1, h2, h3, h4, h5, h6, h7, hR⟩ := id hA
  have hn := hok.sz hr hr0
  have hl : lv_has ls 4 [(0, .ref (ad 287)), (1, .int (nI (r))), (2, .int (y))] := hl
  have hin5 : ∀ w ∈ u_ws RX5 TX5 7, w ∈ wsX5_slot := by decide +kernel
  refine lv_aload_n hx hb dX5_slot_0 rfl (lv_at hl 0 rfl) ?_
  refine z_get (ref := RX5) (C := RX5) (T := TX5) (N := 7) hx hb hts hin5 hown hG t5 rfl 0 (by decide) (by decide +kernel) rfl rfl dX5_slot_1 ?_
  refine lv_iload_n hx hb dX5_slot_4 rfl (lv_at hl 1 rfl) ?_
  refine z_roVN (As := [.int (nI (r))]) (rest := []) (host := "CharmBracelets") (q := (RX3, TX3, 5)) S hG (c_X3_find_1 E (ad := ad) (b := 0) (v := nw) (i := r) hr ⟨hr0, hok.h16 r hr⟩) 1 gX5_slot_X3_find_n66 (List.mem_of_getElem? (i := 18) rfl) (by decide +kernel) rfl kX3_find.2 ⟨Nat.le_of_ble_eq_true rfl, Nat.le_of_ble_eq_true rfl⟩ ⟨Nat.zero_le _, Nat.zero_le _⟩ (hA) rfl h0 rfl hl.1 rfl rfl (Nat.le_of_ble_eq_true rfl) dX5_slot_5 ?_
  refine lv_astore_n (lv' := [(3, .ref (ad (0 + 9 + 2 * r))), (0, .ref (ad 287)), (1, .int (nI (r))), (2, .int (y))]) hx hb dX5_slot_8 rfl hl (by decide) rfl (fun ls hl => ?_)
  refine lv_aload_n hx hb dX5_slot_9 rfl (lv_at hl 0 rfl) ?_
  refine lv_ifnull hx hb dX5_slot_10 ?_
  refine lv_aload_n hx hb dX5_slot_13 rfl (lv_at hl 0 rfl) ?_
  refine lv_iload_n hx hb dX5_slot_14 rfl (lv_at hl 3 rfl) ?_
  refine z_roVN (As := [.int (y)]) (rest := []) (host := "CharmBracelets") (q := (RX2, TX2, 2)) S hG (c_X2_hasSlot E (n := (zSz nw r)) (f := (zKd nw r)) (x := y) hn) 1 gX5_slot_X2_hasSlot_n82 (List.mem_of_getElem? (i := 23) rfl) (by decide +kernel) rfl kX2_hasSlot.2 ⟨Nat.le_of_ble_eq_true rfl, Nat.le_of_ble_eq_true rfl⟩ ⟨Nat.zero_le _, Nat.zero_le _⟩ (hR r (by omega)) rfl (hR r (by omega)).1 rfl hl.1 rfl rfl (Nat.le_of_ble_eq_true rfl) dX5_slot_15 ?_
  refine z_bne (tgt := 23) hx hb dX5_slot_18 (by decide) (fun c_1 => by exfalso; rw [hy] at c_1; cases c_1) (fun c_1 => ?_)
  refine lv_iconst (v := (-1)) hx hb dX5_slot_21 (by decide) ?_
  exact hret _ _ _ dX5_slot_22 (rfl)

set_option maxHeartbeats 4000000 in
set_option maxRecDepth 100000 in
theorem c_X5_slot_2 (E : zEnv) {ad : Nat → Nat} {nw sv : zS} {an : Bool} {hs : Nat → zS} {ct ln : Nat} {cd : Nat → Int32} {r j : Nat} (hok : zOk nw) (hr : r < 6) (hr0 : zSz nw r ≠ 0) (hj : j < (zSz nw r)) : zRO E yX5_slot wsX5_slot 1 21 [.ref (ad 287), .int (nI (r)), .int (nI (j))] (fun H => zCW E ad nw sv an hs ct ln cd H) (some (.int ((zKd nw r) j))) := by
  refine zRO.ofI (maxL := 4) rfl (Nat.le_of_ble_eq_true rfl) (fun p e s m args below meth c H Q hF hP hret ls hl => ?_)
  have S : CallFix p m c cX5_slot 4 s args wsX5_slot RX5 := hF.1
  have hG := hF.2
  obtain ⟨hx, hb, hml, hown, hts⟩ := id S
  obtain ⟨π, tn, tt, nb, tf, hp, hX⟩ := hP
  obtain ⟨hA, hsv, hhs, t5, t8, t9, t10, t11⟩ := id hX
  obtain ⟨h0, h1, h2, h3, h4, h5, h6, h7, hR⟩ := id hA
  have hn := hok.sz hr hr0
  have hl : lv_has ls 4 [(0, .ref (ad 287)), (1, .int (nI (r))), (2, .int (nI (j)))] := hl
  have hin5 : ∀ w ∈ u_ws RX5 TX5 7, w ∈ wsX5_slot := by decide +kernel
  refine lv_aload_n hx hb dX5_slot_0 rfl (lv_at hl 0 rfl) ?_
  refine z_get (ref := RX5) (C := RX5) (T := TX5) (N := 7) hx hb hts hin5 hown hG t5 rfl 0 (by decide) (by decide +kernel) rfl rfl dX5_slot_1 ?_
  refine lv_iload_n hx hb dX5_slot_4 rfl (lv_at hl 1 rfl) ?_
  refine z_roVN (As := [.int (nI (r))]) (rest := []) (host := "CharmBracelets") (q := (RX3, TX3, 5)) S hG (c_X3_find_1 E (ad := ad) (b := 0) (v := nw) (i := r) hr ⟨hr0, hok.h16 r hr⟩) 1 gX5_slot_X3_find_n66 (List.mem_of_getElem? (i := 18) rfl) (by decide +kernel) rfl kX3_find.2 ⟨Nat.le_of_ble_eq_true rfl, Nat.le_of_ble_eq_true rfl⟩ ⟨Nat.zero_le _, Nat.zero_le _⟩ (hA) rfl h0 rfl hl.1 rfl rfl (Nat.le_of_ble_eq_true rfl) dX5_slot_5 ?_
  refine lv_astore_n (lv' := [(3, .ref (ad (0 + 9 + 2 * r))), (0, .ref (ad 287)), (1, .int (nI (r))), (2, .int (nI (j)))]) hx hb dX5_slot_8 rfl hl (by decide) rfl (fun ls hl => ?_)
  refine lv_aload_n hx hb dX5_slot_9 rfl (lv_at hl 0 rfl) ?_
  refine lv_ifnull hx hb dX5_slot_10 ?_
  refine lv_aload_n hx hb dX5_slot_13 rfl (lv_at hl 0 rfl) ?_
  refine lv_iload_n hx hb dX5_slot_14 rfl (lv_at hl 3 rfl) ?_
  refine z_roVN (As := [.int (nI (j))]) (rest := []) (host := "CharmBracelets") (q := (RX2, TX2, 2)) S hG (c_X2_hasSlot E (n := (zSz nw r)) (f := (zKd nw r)) (x := (nI j)) hn) 1 gX5_slot_X2_hasSlot_n82 (List.mem_of_getElem? (i := 23) rfl) (by decide +kernel) rfl kX2_hasSlot.2 ⟨Nat.le_of_ble_eq_true rfl, Nat.le_of_ble_eq_true rfl⟩ ⟨Nat.zero_le _, Nat.zero_le _⟩ (hR r (by omega)) rfl (hR r (by omega)).1 rfl hl.1 rfl rfl (Nat.le_of_ble_eq_true rfl) dX5_slot_15 ?_
  refine z_bne (tgt := 23) hx hb dX5_slot_18 (by decide) (fun c_1 => ?_) (fun c_1 => by exfalso; rw [zin_y (by omega) (by omega) (by omega)] at c_1; cases c_1)
  refine lv_aload_n hx hb dX5_slot_23 rfl (lv_at hl 0 rfl) ?_
  refine lv_iload_n hx hb dX5_slot_24 rfl (lv_at hl 3 rfl) ?_
  refine z_roVN (As := [.int (nI (j))]) (rest := []) (host := "CharmBracelets") (q := (RX2, TX2, 2)) S hG (c_X2_at E (n := (zSz nw r)) (f := (zKd nw r)) (j := j) (by omega)) 1 gX5_slot_X2_at_n85 (List.mem_of_getElem? (i := 24) rfl) (by decide +kernel) rfl kX2_at.2 ⟨Nat.le_of_ble_eq_true rfl, Nat.le_of_ble_eq_true rfl⟩ ⟨Nat.zero_le _, Nat.zero_le _⟩ (hR r (by omega)) rfl (hR r (by omega)).1 rfl hl.1 rfl rfl (Nat.le_of_ble_eq_true rfl) dX5_slot_25 ?_
  exact hret _ _ _ dX5_slot_28 (rfl)

set_option maxHeartbeats 4000000 in
set_option maxRecDepth 100000 in
theorem c_X5_quarter_0 (E : zEnv) {ad : Nat → Nat} {nw sv : zS} {an : Bool} {hs : Nat → zS} {ct ln : Nat} {cd : Nat → Int32} {x y : Int32} (hok : zOk nw) (hq : zfnd (zSz nw) x = none) : zRO E yX5_quarter wsX5_quarter 3 69 [.ref (ad 287), .int (x), .int (y)] (fun H => zCW E ad nw sv an hs ct ln cd H) (some (.int (-1))) := by
  refine zRO.ofI (maxL := 4) rfl (Nat.le_of_ble_eq_true rfl) (fun p e s m args below meth c H Q hF hP hret ls hl => ?_)
  have S : CallFix p m c cX5_quarter 4 s args wsX5_quarter RX5 := hF.1
  have hG := hF.2
  obtain ⟨hx, hb, hml, hown, hts⟩ := id S
  obtain ⟨π, tn, tt, nb, tf, hp, hX⟩ := hP
  obtain ⟨hA, hsv, hhs, t5, t8, t9, t10, t11⟩ := id hX
  obtain ⟨h0, h1, h2, h3, h4, h5, h6, h7, hR⟩ := id hA
  have hl : lv_has ls 4 [(0, .ref (ad 287)), (1, .int (x)), (2, .int (y))] := hl
  have hin5 : ∀ w ∈ u_ws RX5 TX5 7, w ∈ wsX5_quarter := by decide +kernel
  refine lv_aload_n hx hb dX5_quarter_0 rfl (lv_at hl 0 rfl) ?_
  refine z_get (ref := RX5) (C := RX5) (T := TX5) (N := 7) hx hb hts hin5 hown hG t5 rfl 0 (by decide) (by decide +kernel) rfl rfl dX5_quarter_1 ?_
  refine lv_iload_n hx hb dX5_quarter_4 rfl (lv_at hl 1 rfl) ?_
  refine z_roVN (As := [.int (x)]) (rest := []) (host := "CharmBracelets") (q := (RX3, TX3, 5)) S hG (c_X3_find_0 E (ad := ad) (b := 0) (v := nw) hok.h16 hq) 1 gX5_quarter_X3_find_n66 (List.mem_of_getElem? (i := 18) rfl) (by decide +kernel) rfl kX3_find.2 ⟨Nat.le_of_ble_eq_true rfl, Nat.le_of_ble_eq_true rfl⟩ ⟨Nat.zero_le _, Nat.zero_le _⟩ (hA) rfl h0 rfl hl.1 rfl rfl (Nat.le_of_ble_eq_true rfl) dX5_quarter_5 ?_
  refine lv_astore_nN (lv' := [(3, .null), (0, .ref (ad 287)), (1, .int (x)), (2, .int (y))]) hx hb dX5_quarter_8 rfl hl (by decide) rfl (fun ls hl => ?_)
  refine lv_aload_nN hx hb dX5_quarter_9 rfl (lv_at hl 0 rfl) ?_
  refine lv_ifnullN (tgt := 22) hx hb dX5_quarter_10 (by decide) ?_
  refine lv_iconst (v := (-1)) hx hb dX5_quarter_22 (by decide) ?_
  exact hret _ _ _ dX5_quarter_23 (rfl)

set_option maxHeartbeats 4000000 in
set_option maxRecDepth 100000 in
theorem c_X5_quarter_1 (E : zEnv) {ad : Nat → Nat} {nw sv : zS} {an : Bool} {hs : Nat → zS} {ct ln : Nat} {cd : Nat → Int32} {r : Nat} {y : Int32} (hok : zOk nw) (hr : r < 6) (hr0 : zSz nw r ≠ 0) (hy : zin y 0 3 = false) : zRO E yX5_quarter wsX5_quarter 3 69 [.ref (ad 287), .int (nI (r)), .int (y)] (fun H => zCW E ad nw sv an hs ct ln cd H) (some (.int (-1))) := by
  refine zRO.ofI (maxL := 4) rfl (Nat.le_of_ble_eq_true rfl) (fun p e s m args below meth c H Q hF hP hret ls hl => ?_)
  have S : CallFix p m c cX5_quarter 4 s args wsX5_quarter RX5 := hF.1
  have hG := hF.2
  obtain ⟨hx, hb, hml, hown, hts⟩ := id S
  obtain ⟨π, tn, tt, nb, tf, hp, hX⟩ := hP
  obtain ⟨hA, hsv, hhs, t5, t8, t9, t10, t11⟩ := id hX
  obtain ⟨h0, h1, h2, h3, h4, h5, h6, h7, hR⟩ := id hA
  have hl : lv_has ls 4 [(0, .ref (ad 287)), (1, .int (nI (r))), (2, .int (y))] := hl
  have hin5 : ∀ w ∈ u_ws RX5 TX5 7, w ∈ wsX5_quarter := by decide +kernel
  refine lv_aload_n hx hb dX5_quarter_0 rfl (lv_at hl 0 rfl) ?_
  refine z_get (ref := RX5) (C := RX5) (T := TX5) (N := 7) hx hb hts hin5 hown hG t5 rfl 0 (by decide) (by decide +kernel) rfl rfl dX5_quarter_1 ?_
  refine lv_iload_n hx hb dX5_quarter_4 rfl (lv_at hl 1 rfl) ?_
  refine z_roVN (As := [.int (nI (r))]) (rest := []) (host := "CharmBracelets") (q := (RX3, TX3, 5)) S hG (c_X3_find_1 E (ad := ad) (b := 0) (v := nw) (i := r) hr ⟨hr0, hok.h16 r hr⟩) 1 gX5_quarter_X3_find_n66 (List.mem_of_getElem? (i := 18) rfl) (by decide +kernel) rfl kX3_find.2 ⟨Nat.le_of_ble_eq_true rfl, Nat.le_of_ble_eq_true rfl⟩ ⟨Nat.zero_le _, Nat.zero_le _⟩ (hA) rfl h0 rfl hl.1 rfl rfl (Nat.le_of_ble_eq_true rfl) dX5_quarter_5 ?_
  refine lv_astore_n (lv' := [(3, .ref (ad (0 + 9 + 2 * r))), (0, .ref (ad 287)), (1, .int (nI (r))), (2, .int (y))]) hx hb dX5_quarter_8 rfl hl (by decide) rfl (fun ls hl => ?_)
  refine lv_aload_n hx hb dX5_quarter_9 rfl (lv_at hl 0 rfl) ?_
  refine lv_ifnull hx hb dX5_quarter_10 ?_
  refine lv_iload_n hx hb dX5_quarter_13 rfl (lv_at hl 3 rfl) ?_
  refine lv_if_lt (tgt := 22) hx hb dX5_quarter_14 (by decide) (fun c_1 => ?_) (fun c_1 => ?_)
  · refine lv_iconst (v := (-1)) hx hb dX5_quarter_22 (by decide) ?_
    exact hret _ _ _ dX5_quarter_23 (rfl)
  · refine lv_iload_n hx hb dX5_quarter_17 rfl (lv_at hl 3 rfl) ?_
    refine lv_iconst (v := nI (4)) hx hb dX5_quarter_18 (by decide) ?_
    refine lv_icmp_lt (tgt := 24) hx hb dX5_quarter_19 (by decide) (fun c_2 => by exfalso; exact zin_c2 (n := 4) hy (by decide) c_1 c_2) (fun c_2 => ?_)
    refine lv_iconst (v := (-1)) hx hb dX5_quarter_22 (by decide) ?_
    exact hret _ _ _ dX5_quarter_23 (rfl)

set_option maxHeartbeats 4000000 in
set_option maxRecDepth 100000 in
theorem c_X5_quarter_2 (E : zEnv) {ad : Nat → Nat} {nw sv : zS} {an : Bool} {hs : Nat → zS} {ct ln : Nat} {cd : Nat → Int32} {r j : Nat} (hok : zOk nw) (hr : r < 6) (hr0 : zSz nw r ≠ 0) (hj : j < 4) : zRO E yX5_quarter wsX5_quarter 3 69 [.ref (ad 287), .int (nI (r)), .int (nI (j))] (fun H => zCW E ad nw sv an hs ct ln cd H) (some (.int (zqw (zWt nw) (zSz nw r) (zKd nw r) j))) := by
  refine zRO.ofI (maxL := 4) rfl (Nat.le_of_ble_eq_true rfl) (fun p e s m args below meth c H Q hF hP hret ls hl => ?_)
  have S : CallFix p m c cX5_quarter 4 s args wsX5_quarter RX5 := hF.1
  have hG := hF.2
  obtain ⟨hx, hb, hml, hown, hts⟩ := id S
  obtain ⟨π, tn, tt, nb, tf, hp, hX⟩ := hP
  obtain ⟨hA, hsv, hhs, t5, t8, t9, t10, t11⟩ := id hX
  obtain ⟨h0, h1, h2, h3, h4, h5, h6, h7, hR⟩ := id hA
  have hn := hok.sz hr hr0
  have hl : lv_has ls 4 [(0, .ref (ad 287)), (1, .int (nI (r))), (2, .int (nI (j)))] := hl
  have hin5 : ∀ w ∈ u_ws RX5 TX5 7, w ∈ wsX5_quarter := by decide +kernel
  refine lv_aload_n hx hb dX5_quarter_0 rfl (lv_at hl 0 rfl) ?_
  refine z_get (ref := RX5) (C := RX5) (T := TX5) (N := 7) hx hb hts hin5 hown hG t5 rfl 0 (by decide) (by decide +kernel) rfl rfl dX5_quarter_1 ?_
  refine lv_iload_n hx hb dX5_quarter_4 rfl (lv_at hl 1 rfl) ?_
  refine z_roVN (As := [.int (nI (r))]) (rest := []) (host := "CharmBracelets") (q := (RX3, TX3, 5)) S hG (c_X3_find_1 E (ad := ad) (b := 0) (v := nw) (i := r) hr ⟨hr0, hok.h16 r hr⟩) 1 gX5_quarter_X3_find_n66 (List.mem_of_getElem? (i := 18) rfl) (by decide +kernel) rfl kX3_find.2 ⟨Nat.le_of_ble_eq_true rfl, Nat.le_of_ble_eq_true rfl⟩ ⟨Nat.zero_le _, Nat.zero_le _⟩ (hA) rfl h0 rfl hl.1 rfl rfl (Nat.le_of_ble_eq_true rfl) dX5_quarter_5 ?_
  refine lv_astore_n (lv' := [(3, .ref (ad (0 + 9 + 2 * r))), (0, .ref (ad 287)), (1, .int (nI (r))), (2, .int (nI (j)))]) hx hb dX5_quarter_8 rfl hl (by decide) rfl (fun ls hl => ?_)
  refine lv_aload_n hx hb dX5_quarter_9 rfl (lv_at hl 0 rfl) ?_
  refine lv_ifnull hx hb dX5_quarter_10 ?_
  refine lv_iload_n hx hb dX5_quarter_13 rfl (lv_at hl 3 rfl) ?_
  refine z_flt (tgt := 22) hx hb dX5_quarter_14 (by decide) (by omega) ?_
  refine lv_iload_n hx hb dX5_quarter_17 rfl (lv_at hl 3 rfl) ?_
  refine lv_iconst (v := nI (4)) hx hb dX5_quarter_18 (by decide) ?_
  refine z_clt (tgt := 24) hx hb dX5_quarter_19 (by decide) ⟨by omega, by omega⟩ (fun c_2 => ?_) (fun c_2 => by exfalso; omega)
  refine lv_aload_n hx hb dX5_quarter_24 rfl (lv_at hl 1 rfl) ?_
  refine z_get (ref := RX5) (C := RX5) (T := TX5) (N := 7) hx hb hts hin5 hown hG t5 rfl 0 (by decide) (by decide +kernel) rfl rfl dX5_quarter_25 ?_
  refine lv_aload_n hx hb dX5_quarter_28 rfl (lv_at hl 0 rfl) ?_
  refine lv_iload_n hx hb dX5_quarter_29 rfl (lv_at hl 3 rfl) ?_
  refine z_roVN (As := [.ref (ad (0 + 9 + 2 * r)), .int (nI (j))]) (rest := []) (host := "CharmBracelets") (q := (RX3, TX3, 5)) S hG (c_X3_quarterWeight E (ad := ad) (b := 0) (v := nw) (n := (zSz nw r)) (f := (zKd nw r)) (q := j) hn.2 hj (fun s hs => hok.2.1 r hr s hs)) 2 gX5_quarter_X3_quarterWeight_n117 (List.mem_of_getElem? (i := 48) rfl) (by decide +kernel) rfl kX3_quarterWeight.2 ⟨Nat.le_of_ble_eq_true rfl, Nat.le_of_ble_eq_true rfl⟩ ⟨Nat.zero_le _, Nat.zero_le _⟩ (⟨hA, hR r (by omega)⟩) rfl h0 rfl hl.1 rfl rfl (Nat.le_of_ble_eq_true rfl) dX5_quarter_30 ?_
  exact hret _ _ _ dX5_quarter_33 (rfl)
