set_option maxHeartbeats 4000000 in
set_option maxRecDepth 100000 in
theorem c_X6_fill_0 (E : zEnv) {am : Nat → Nat} {nw sv : zS} {an : Bool} {hs : Nat → zS} {ct ln : Nat} {cd : Nat → Int32} {x y : Int32} (hok : zOk nw) (hinj : zInM am) (hct : ct ≤ 5) (hx1 : zin x 1 5 = false) : zWR E yX6_fill wsX6_fill 2 42 [.ref (am 0), .int (x), .int (y)] (fun H => zMW E am nw sv an hs ct ln cd H) (some (.int (-1))) (fun H => zMW E am nw sv an hs ct ln cd H) (zAM am) := by
  refine zWR.ofI (maxL := 4) rfl (Nat.le_of_ble_eq_true rfl) (fun p e s m args below meth c H Q hF hP hret ls hl => ?_)
  have S : CallFix p m c cX6_fill 4 s args wsX6_fill RX6 := hF.1
  have hG := hF.2
  obtain ⟨hx, hb, hml, hown, hts⟩ := id S
  have hS : va_S (zAM am) H H [] := va_S.rf
  obtain ⟨locs, hlocs⟩ : ∃ x : List Loc, x = [] := ⟨_, rfl⟩
  rw [← hlocs] at hS ⊢
  have hz : H.size = H.size := rfl
  obtain ⟨z, past, kept, buf, rg, td, tm, nb, ⟨h0, h1, h2, h3, h4, h5, h6⟩, hrep, hpa, hke, hbu⟩ := hP
  obtain ⟨r1, rwt, r3, r4, r5, r6, r7⟩ := id hrep
  have hl : lv_has ls 4 [(0, .ref (am 0)), (1, .int (x)), (2, .int (y))] := hl
  have hin6 : ∀ w ∈ u_ws RX6 TX6 11, w ∈ wsX6_fill := by decide +kernel
  refine lv_iload_n hx hb dX6_fill_0 rfl (lv_at hl 1 rfl) ?_
  refine z_roSX (As := [.int (x)]) (rest := []) S hG (c_X6_isKind E) 1 gX6_fill_X6_isKind rfl kX6_isKind.2 ⟨Nat.le_of_ble_eq_true rfl, Nat.le_of_ble_eq_true rfl⟩ ⟨Nat.zero_le _, Nat.zero_le _⟩ (trivial) rfl hl.1 rfl rfl (Nat.le_of_ble_eq_true rfl) dX6_fill_1 ?_
  refine z_bne (tgt := 9) hx hb dX6_fill_4 (by decide) (fun c_1 => by exfalso; rw [hx1] at c_1; cases c_1) (fun c_1 => ?_)
  refine lv_iconst (v := (-1)) hx hb dX6_fill_7 (by decide) ?_
  exact hret _ _ _ _ _ hS (hz) dX6_fill_8 (rfl) (⟨_, _, _, _, _, _, _, _, ⟨h0, h1, h2, h3, h4, h5, h6⟩, hrep, hpa, hke, hbu⟩)

set_option maxHeartbeats 4000000 in
set_option maxRecDepth 100000 in
theorem c_X6_fill_1 (E : zEnv) {am : Nat → Nat} {nw sv : zS} {an : Bool} {hs : Nat → zS} {ct ln : Nat} {cd : Nat → Int32} {j : Nat} {y : Int32} (hok : zOk nw) (hinj : zInM am) (hct : ct ≤ 5) (hj : 1 ≤ j ∧ j ≤ 5) (hy : zin y 0 99 = false) : zWR E yX6_fill wsX6_fill 2 42 [.ref (am 0), .int (nI (j)), .int (y)] (fun H => zMW E am nw sv an hs ct ln cd H) (some (.int (-2))) (fun H => zMW E am nw sv an hs ct ln cd H) (zAM am) := by
  refine zWR.ofI (maxL := 4) rfl (Nat.le_of_ble_eq_true rfl) (fun p e s m args below meth c H Q hF hP hret ls hl => ?_)
  have S : CallFix p m c cX6_fill 4 s args wsX6_fill RX6 := hF.1
  have hG := hF.2
  obtain ⟨hx, hb, hml, hown, hts⟩ := id S
  have hS : va_S (zAM am) H H [] := va_S.rf
  obtain ⟨locs, hlocs⟩ : ∃ x : List Loc, x = [] := ⟨_, rfl⟩
  rw [← hlocs] at hS ⊢
  have hz : H.size = H.size := rfl
  obtain ⟨z, past, kept, buf, rg, td, tm, nb, ⟨h0, h1, h2, h3, h4, h5, h6⟩, hrep, hpa, hke, hbu⟩ := hP
  obtain ⟨r1, rwt, r3, r4, r5, r6, r7⟩ := id hrep
  have hl : lv_has ls 4 [(0, .ref (am 0)), (1, .int (nI (j))), (2, .int (y))] := hl
  have hin6 : ∀ w ∈ u_ws RX6 TX6 11, w ∈ wsX6_fill := by decide +kernel
  refine lv_iload_n hx hb dX6_fill_0 rfl (lv_at hl 1 rfl) ?_
  refine z_roSX (As := [.int (nI (j))]) (rest := []) S hG (c_X6_isKind E) 1 gX6_fill_X6_isKind rfl kX6_isKind.2 ⟨Nat.le_of_ble_eq_true rfl, Nat.le_of_ble_eq_true rfl⟩ ⟨Nat.zero_le _, Nat.zero_le _⟩ (trivial) rfl hl.1 rfl rfl (Nat.le_of_ble_eq_true rfl) dX6_fill_1 ?_
  refine z_bne (tgt := 9) hx hb dX6_fill_4 (by decide) (fun c_1 => ?_) (fun c_1 => by exfalso; rw [zin_y hj.1 hj.2 (by decide)] at c_1; cases c_1)
  refine lv_iload_n hx hb dX6_fill_9 rfl (lv_at hl 2 rfl) ?_
  refine lv_iconst (v := nI (0)) hx hb dX6_fill_10 (by decide) ?_
  refine lv_bipush (v := nI (99)) hx hb dX6_fill_11 (by decide) ?_
  refine z_roSX (As := [.int (y), .int (nI (0)), .int (nI (99))]) (rest := []) S hG (c_X6_in E) 3 gX6_fill_X6_in rfl kX6_in.2 ⟨Nat.le_of_ble_eq_true rfl, Nat.le_of_ble_eq_true rfl⟩ ⟨Nat.zero_le _, Nat.zero_le _⟩ (trivial) rfl hl.1 rfl rfl (Nat.le_of_ble_eq_true rfl) dX6_fill_13 ?_
  refine z_bne (tgt := 22) hx hb dX6_fill_16 (by decide) (fun c_2 => by exfalso; rw [hy] at c_2; cases c_2) (fun c_2 => ?_)
  refine lv_bipush (v := (-2)) hx hb dX6_fill_19 (by decide) ?_
  exact hret _ _ _ _ _ hS (hz) dX6_fill_21 (rfl) (⟨_, _, _, _, _, _, _, _, ⟨h0, h1, h2, h3, h4, h5, h6⟩, hrep, hpa, hke, hbu⟩)

set_option maxHeartbeats 4000000 in
set_option maxRecDepth 100000 in
theorem c_X6_fill_2 (E : zEnv) {am : Nat → Nat} {nw sv : zS} {an : Bool} {hs : Nat → zS} {ct ln : Nat} {cd : Nat → Int32} {j w : Nat} (hok : zOk nw) (hinj : zInM am) (hct : ct ≤ 5) (hj : 1 ≤ j ∧ j ≤ 5) (hw : 0 ≤ w ∧ w ≤ 99) : zWR E yX6_fill wsX6_fill 2 42 [.ref (am 0), .int (nI (j)), .int (nI (w))] (fun H => zMW E am nw sv an hs ct ln cd H) (some (.int (zBx nw j))) (fun H => zMW E am (zsBx nw (upd (zBx nw) j (nI w))) sv an (zrH hs ct nw) (zrC ct) ln cd H) (zAM am) := by
  refine zWR.ofI (maxL := 4) rfl (Nat.le_of_ble_eq_true rfl) (fun p e s m args below meth c H Q hF hP hret ls hl => ?_)
  have S : CallFix p m c cX6_fill 4 s args wsX6_fill RX6 := hF.1
  have hG := hF.2
  obtain ⟨hx, hb, hml, hown, hts⟩ := id S
  have hS : va_S (zAM am) H H [] := va_S.rf
  obtain ⟨locs, hlocs⟩ : ∃ x : List Loc, x = [] := ⟨_, rfl⟩
  rw [← hlocs] at hS ⊢
  have hz : H.size = H.size := rfl
  obtain ⟨z, past, kept, buf, rg, td, tm, nb, ⟨h0, h1, h2, h3, h4, h5, h6⟩, hrep, hpa, hke, hbu⟩ := hP
  obtain ⟨r1, rwt, r3, r4, r5, r6, r7⟩ := id hrep
  have hl : lv_has ls 4 [(0, .ref (am 0)), (1, .int (nI (j))), (2, .int (nI (w)))] := hl
  have hin6 : ∀ w ∈ u_ws RX6 TX6 11, w ∈ wsX6_fill := by decide +kernel
  refine lv_iload_n hx hb dX6_fill_0 rfl (lv_at hl 1 rfl) ?_
  refine z_roSX (As := [.int (nI (j))]) (rest := []) S hG (c_X6_isKind E) 1 gX6_fill_X6_isKind rfl kX6_isKind.2 ⟨Nat.le_of_ble_eq_true rfl, Nat.le_of_ble_eq_true rfl⟩ ⟨Nat.zero_le _, Nat.zero_le _⟩ (trivial) rfl hl.1 rfl rfl (Nat.le_of_ble_eq_true rfl) dX6_fill_1 ?_
  refine z_bne (tgt := 9) hx hb dX6_fill_4 (by decide) (fun c_1 => ?_) (fun c_1 => by exfalso; rw [zin_y hj.1 hj.2 (by decide)] at c_1; cases c_1)
  refine lv_iload_n hx hb dX6_fill_9 rfl (lv_at hl 2 rfl) ?_
  refine lv_iconst (v := nI (0)) hx hb dX6_fill_10 (by decide) ?_
  refine lv_bipush (v := nI (99)) hx hb dX6_fill_11 (by decide) ?_
  refine z_roSX (As := [.int (nI (w)), .int (nI (0)), .int (nI (99))]) (rest := []) S hG (c_X6_in E) 3 gX6_fill_X6_in rfl kX6_in.2 ⟨Nat.le_of_ble_eq_true rfl, Nat.le_of_ble_eq_true rfl⟩ ⟨Nat.zero_le _, Nat.zero_le _⟩ (trivial) rfl hl.1 rfl rfl (Nat.le_of_ble_eq_true rfl) dX6_fill_13 ?_
  refine z_bne (tgt := 22) hx hb dX6_fill_16 (by decide) (fun c_2 => ?_) (fun c_2 => by exfalso; rw [zin_y hw.1 hw.2 (by decide)] at c_2; cases c_2)
  refine lv_aload_n hx hb dX6_fill_22 rfl (lv_at hl 0 rfl) ?_
  refine z_wrV (As := []) (rest := []) (q := (RX6, TX6, 11)) S hG (c_X6_record E hinj hct hok hrep hpa) 0 gX6_fill_X6_record rfl kX6_record ⟨Nat.le_of_ble_eq_true rfl, Nat.le_of_ble_eq_true rfl⟩ ⟨Nat.zero_le _, Nat.zero_le _⟩ (⟨h0, h1, h2, h3, h4, h5, h6⟩) rfl h0 rfl hl.1 rfl rfl (Nat.le_of_ble_eq_true rfl) dX6_fill_23 hS (fun _ h => h) (fun Hn locs h_4 q_3 o_5 hS => ?_)
  have hz : Hn.size = H.size := q_3.trans hz
  obtain ⟨past, ⟨h0, h1, h2, h3, h4, h5, h6⟩, hpa⟩ := h_4
  refine lv_aload_n hx hb dX6_fill_26 rfl (lv_at hl 0 rfl) ?_
  refine z_get (ref := RX6) (C := RX6) (T := TX6) (N := 11) hx hb hts hin6 hown hG h0 rfl 0 (by decide) (by decide +kernel) rfl rfl dX6_fill_27 ?_
  refine lv_iconst (v := nI (0)) hx hb dX6_fill_30 (by decide) ?_
  refine lv_iload_n hx hb dX6_fill_31 rfl (lv_at hl 1 rfl) ?_
  refine z_iadd hx hb dX6_fill_32 ?_
  refine lv_iconst (v := nI (1)) hx hb dX6_fill_33 (by decide) ?_
  refine z_isub hx hb dX6_fill_34 (by omega) ?_
  refine z_iald (j := (0 + j) - 1) hx hb hG h1 ⟨by omega, by omega⟩ dX6_fill_35 ?_
  refine z_top (y := (zBx nw j)) (r1 j hj.1 hj.2) ?_
  refine lv_istore_n (lv' := [(3, .int (zBx nw j)), (0, .ref (am 0)), (1, .int (nI (j))), (2, .int (nI (w)))]) hx hb dX6_fill_36 rfl hl (by decide) rfl (fun ls hl => ?_)
  refine lv_aload_n hx hb dX6_fill_37 rfl (lv_at hl 1 rfl) ?_
  refine z_get (ref := RX6) (C := RX6) (T := TX6) (N := 11) hx hb hts hin6 hown hG h0 rfl 0 (by decide) (by decide +kernel) rfl rfl dX6_fill_38 ?_
  refine lv_iconst (v := nI (0)) hx hb dX6_fill_41 (by decide) ?_
  refine lv_iload_n hx hb dX6_fill_42 rfl (lv_at hl 2 rfl) ?_
  refine z_iadd hx hb dX6_fill_43 ?_
  refine lv_iconst (v := nI (1)) hx hb dX6_fill_44 (by decide) ?_
  refine z_isub hx hb dX6_fill_45 (by omega) ?_
  refine lv_iload_n hx hb dX6_fill_46 rfl (lv_at hl 3 rfl) ?_
  refine z_iast (j := (0 + j) - 1) hx hb hG h1 ⟨by omega, by omega⟩ hS (⟨1, by decide, rfl⟩) dX6_fill_47 (fun Hn locs h_6 o_7 hS => ?_)
  have k_8 := va_at.kept h0 (o_7.2 _ (hinj.ne (by decide) (by decide) (by decide)))
  have k_9 := va_at.kept h2 (o_7.2 _ (hinj.ne (by decide) (by decide) (by decide)))
  have k_10 := va_at.kept h3 (o_7.2 _ (hinj.ne (by decide) (by decide) (by decide)))
  have k_11 := va_at.kept h4 (o_7.2 _ (hinj.ne (by decide) (by decide) (by decide)))
  have k_12 := va_at.kept h5 (o_7.2 _ (hinj.ne (by decide) (by decide) (by decide)))
  have k_13 := va_at.kept h6 (o_7.2 _ (hinj.ne (by decide) (by decide) (by decide)))
  have hz : Hn.size = H.size := o_7.1.trans hz
  refine lv_iload_n hx hb dX6_fill_48 rfl (lv_at hl 0 rfl) ?_
  exact hret _ _ _ _ _ hS (hz) dX6_fill_49 (rfl) (⟨_, _, _, _, _, _, _, _, ⟨k_8, h_6, k_9, k_10, k_11, k_12, k_13⟩, zRep_bx1 hok.B hj hrep, hpa, hke, hbu⟩)

set_option maxHeartbeats 4000000 in
set_option maxRecDepth 100000 in
theorem c_X6_weigh_0 (E : zEnv) {am : Nat → Nat} {nw sv : zS} {an : Bool} {hs : Nat → zS} {ct ln : Nat} {cd : Nat → Int32} {x y : Int32} (hok : zOk nw) (hinj : zInM am) (hct : ct ≤ 5) (hx1 : zin x 1 5 = false) : zWR E yX6_weigh wsX6_weigh 2 42 [.ref (am 0), .int (x), .int (y)] (fun H => zMW E am nw sv an hs ct ln cd H) (some (.int (-1))) (fun H => zMW E am nw sv an hs ct ln cd H) (zAM am) := by
  refine zWR.ofI (maxL := 4) rfl (Nat.le_of_ble_eq_true rfl) (fun p e s m args below meth c H Q hF hP hret ls hl => ?_)
  have S : CallFix p m c cX6_weigh 4 s args wsX6_weigh RX6 := hF.1
  have hG := hF.2
  obtain ⟨hx, hb, hml, hown, hts⟩ := id S
  have hS : va_S (zAM am) H H [] := va_S.rf
  obtain ⟨locs, hlocs⟩ : ∃ x : List Loc, x = [] := ⟨_, rfl⟩
  rw [← hlocs] at hS ⊢
  have hz : H.size = H.size := rfl
  obtain ⟨z, past, kept, buf, rg, td, tm, nb, ⟨h0, h1, h2, h3, h4, h5, h6⟩, hrep, hpa, hke, hbu⟩ := hP
  obtain ⟨r1, rwt, r3, r4, r5, r6, r7⟩ := id hrep
  have hl : lv_has ls 4 [(0, .ref (am 0)), (1, .int (x)), (2, .int (y))] := hl
  have hin6 : ∀ w ∈ u_ws RX6 TX6 11, w ∈ wsX6_weigh := by decide +kernel
  refine lv_iload_n hx hb dX6_weigh_0 rfl (lv_at hl 1 rfl) ?_
  refine z_roSX (As := [.int (x)]) (rest := []) S hG (c_X6_isKind E) 1 gX6_weigh_X6_isKind rfl kX6_isKind.2 ⟨Nat.le_of_ble_eq_true rfl, Nat.le_of_ble_eq_true rfl⟩ ⟨Nat.zero_le _, Nat.zero_le _⟩ (trivial) rfl hl.1 rfl rfl (Nat.le_of_ble_eq_true rfl) dX6_weigh_1 ?_
  refine z_bne (tgt := 9) hx hb dX6_weigh_4 (by decide) (fun c_1 => by exfalso; rw [hx1] at c_1; cases c_1) (fun c_1 => ?_)
  refine lv_iconst (v := (-1)) hx hb dX6_weigh_7 (by decide) ?_
  exact hret _ _ _ _ _ hS (hz) dX6_weigh_8 (rfl) (⟨_, _, _, _, _, _, _, _, ⟨h0, h1, h2, h3, h4, h5, h6⟩, hrep, hpa, hke, hbu⟩)

set_option maxHeartbeats 4000000 in
set_option maxRecDepth 100000 in
theorem c_X6_weigh_1 (E : zEnv) {am : Nat → Nat} {nw sv : zS} {an : Bool} {hs : Nat → zS} {ct ln : Nat} {cd : Nat → Int32} {j : Nat} {y : Int32} (hok : zOk nw) (hinj : zInM am) (hct : ct ≤ 5) (hj : 1 ≤ j ∧ j ≤ 5) (hy : zin y 1 50 = false) : zWR E yX6_weigh wsX6_weigh 2 42 [.ref (am 0), .int (nI (j)), .int (y)] (fun H => zMW E am nw sv an hs ct ln cd H) (some (.int (-2))) (fun H => zMW E am nw sv an hs ct ln cd H) (zAM am) := by
  refine zWR.ofI (maxL := 4) rfl (Nat.le_of_ble_eq_true rfl) (fun p e s m args below meth c H Q hF hP hret ls hl => ?_)
  have S : CallFix p m c cX6_weigh 4 s args wsX6_weigh RX6 := hF.1
  have hG := hF.2
  obtain ⟨hx, hb, hml, hown, hts⟩ := id S
  have hS : va_S (zAM am) H H [] := va_S.rf
  obtain ⟨locs, hlocs⟩ : ∃ x : List Loc, x = [] := ⟨_, rfl⟩
  rw [← hlocs] at hS ⊢
  have hz : H.size = H.size := rfl
  obtain ⟨z, past, kept, buf, rg, td, tm, nb, ⟨h0, h1, h2, h3, h4, h5, h6⟩, hrep, hpa, hke, hbu⟩ := hP
  obtain ⟨r1, rwt, r3, r4, r5, r6, r7⟩ := id hrep
  have hl : lv_has ls 4 [(0, .ref (am 0)), (1, .int (nI (j))), (2, .int (y))] := hl
  have hin6 : ∀ w ∈ u_ws RX6 TX6 11, w ∈ wsX6_weigh := by decide +kernel
  refine lv_iload_n hx hb dX6_weigh_0 rfl (lv_at hl 1 rfl) ?_
  refine z_roSX (As := [.int (nI (j))]) (rest := []) S hG (c_X6_isKind E) 1 gX6_weigh_X6_isKind rfl kX6_isKind.2 ⟨Nat.le_of_ble_eq_true rfl, Nat.le_of_ble_eq_true rfl⟩ ⟨Nat.zero_le _, Nat.zero_le _⟩ (trivial) rfl hl.1 rfl rfl (Nat.le_of_ble_eq_true rfl) dX6_weigh_1 ?_
  refine z_bne (tgt := 9) hx hb dX6_weigh_4 (by decide) (fun c_1 => ?_) (fun c_1 => by exfalso; rw [zin_y hj.1 hj.2 (by decide)] at c_1; cases c_1)
  refine lv_iload_n hx hb dX6_weigh_9 rfl (lv_at hl 2 rfl) ?_
  refine lv_iconst (v := nI (1)) hx hb dX6_weigh_10 (by decide) ?_
  refine lv_bipush (v := nI (50)) hx hb dX6_weigh_11 (by decide) ?_
  refine z_roSX (As := [.int (y), .int (nI (1)), .int (nI (50))]) (rest := []) S hG (c_X6_in E) 3 gX6_weigh_X6_in rfl kX6_in.2 ⟨Nat.le_of_ble_eq_true rfl, Nat.le_of_ble_eq_true rfl⟩ ⟨Nat.zero_le _, Nat.zero_le _⟩ (trivial) rfl hl.1 rfl rfl (Nat.le_of_ble_eq_true rfl) dX6_weigh_13 ?_
  refine z_bne (tgt := 22) hx hb dX6_weigh_16 (by decide) (fun c_2 => by exfalso; rw [hy] at c_2; cases c_2) (fun c_2 => ?_)
  refine lv_bipush (v := (-2)) hx hb dX6_weigh_19 (by decide) ?_
  exact hret _ _ _ _ _ hS (hz) dX6_weigh_21 (rfl) (⟨_, _, _, _, _, _, _, _, ⟨h0, h1, h2, h3, h4, h5, h6⟩, hrep, hpa, hke, hbu⟩)

set_option maxHeartbeats 4000000 in
set_option maxRecDepth 100000 in
theorem c_X6_weigh_2 (E : zEnv) {am : Nat → Nat} {nw sv : zS} {an : Bool} {hs : Nat → zS} {ct ln : Nat} {cd : Nat → Int32} {j w : Nat} (hok : zOk nw) (hinj : zInM am) (hct : ct ≤ 5) (hj : 1 ≤ j ∧ j ≤ 5) (hw : 1 ≤ w ∧ w ≤ 50) : zWR E yX6_weigh wsX6_weigh 2 42 [.ref (am 0), .int (nI (j)), .int (nI (w))] (fun H => zMW E am nw sv an hs ct ln cd H) (some (.int (zWt nw j))) (fun H => zMW E am (zsWt nw (upd (zWt nw) j (nI w))) sv an (zrH hs ct nw) (zrC ct) ln cd H) (zAM am) := by
  refine zWR.ofI (maxL := 4) rfl (Nat.le_of_ble_eq_true rfl) (fun p e s m args below meth c H Q hF hP hret ls hl => ?_)
  have S : CallFix p m c cX6_weigh 4 s args wsX6_weigh RX6 := hF.1
  have hG := hF.2
  obtain ⟨hx, hb, hml, hown, hts⟩ := id S
  have hS : va_S (zAM am) H H [] := va_S.rf
  obtain ⟨locs, hlocs⟩ : ∃ x : List Loc, x = [] := ⟨_, rfl⟩
  rw [← hlocs] at hS ⊢
  have hz : H.size = H.size := rfl
  obtain ⟨z, past, kept, buf, rg, td, tm, nb, ⟨h0, h1, h2, h3, h4, h5, h6⟩, hrep, hpa, hke, hbu⟩ := hP
  obtain ⟨r1, rwt, r3, r4, r5, r6, r7⟩ := id hrep
  have hl : lv_has ls 4 [(0, .ref (am 0)), (1, .int (nI (j))), (2, .int (nI (w)))] := hl
  have hin6 : ∀ w ∈ u_ws RX6 TX6 11, w ∈ wsX6_weigh := by decide +kernel
  refine lv_iload_n hx hb dX6_weigh_0 rfl (lv_at hl 1 rfl) ?_
  refine z_roSX (As := [.int (nI (j))]) (rest := []) S hG (c_X6_isKind E) 1 gX6_weigh_X6_isKind rfl kX6_isKind.2 ⟨Nat.le_of_ble_eq_true rfl, Nat.le_of_ble_eq_true rfl⟩ ⟨Nat.zero_le _, Nat.zero_le _⟩ (trivial) rfl hl.1 rfl rfl (Nat.le_of_ble_eq_true rfl) dX6_weigh_1 ?_
  refine z_bne (tgt := 9) hx hb dX6_weigh_4 (by decide) (fun c_1 => ?_) (fun c_1 => by exfalso; rw [zin_y hj.1 hj.2 (by decide)] at c_1; cases c_1)
  refine lv_iload_n hx hb dX6_weigh_9 rfl (lv_at hl 2 rfl) ?_
  refine lv_iconst (v := nI (1)) hx hb dX6_weigh_10 (by decide) ?_
  refine lv_bipush (v := nI (50)) hx hb dX6_weigh_11 (by decide) ?_
  refine z_roSX (As := [.int (nI (w)), .int (nI (1)), .int (nI (50))]) (rest := []) S hG (c_X6_in E) 3 gX6_weigh_X6_in rfl kX6_in.2 ⟨Nat.le_of_ble_eq_true rfl, Nat.le_of_ble_eq_true rfl⟩ ⟨Nat.zero_le _, Nat.zero_le _⟩ (trivial) rfl hl.1 rfl rfl (Nat.le_of_ble_eq_true rfl) dX6_weigh_13 ?_
  refine z_bne (tgt := 22) hx hb dX6_weigh_16 (by decide) (fun c_2 => ?_) (fun c_2 => by exfalso; rw [zin_y hw.1 hw.2 (by decide)] at c_2; cases c_2)
  refine lv_aload_n hx hb dX6_weigh_22 rfl (lv_at hl 0 rfl) ?_
  refine z_wrV (As := []) (rest := []) (q := (RX6, TX6, 11)) S hG (c_X6_record E hinj hct hok hrep hpa) 0 gX6_weigh_X6_record rfl kX6_record ⟨Nat.le_of_ble_eq_true rfl, Nat.le_of_ble_eq_true rfl⟩ ⟨Nat.zero_le _, Nat.zero_le _⟩ (⟨h0, h1, h2, h3, h4, h5, h6⟩) rfl h0 rfl hl.1 rfl rfl (Nat.le_of_ble_eq_true rfl) dX6_weigh_23 hS (fun _ h => h) (fun Hn locs h_4 q_3 o_5 hS => ?_)
  have hz : Hn.size = H.size := q_3.trans hz
  obtain ⟨past, ⟨h0, h1, h2, h3, h4, h5, h6⟩, hpa⟩ := h_4
  refine lv_aload_n hx hb dX6_weigh_26 rfl (lv_at hl 0 rfl) ?_
  refine z_get (ref := RX6) (C := RX6) (T := TX6) (N := 11) hx hb hts hin6 hown hG h0 rfl 0 (by decide) (by decide +kernel) rfl rfl dX6_weigh_27 ?_
  refine lv_iconst (v := nI (5)) hx hb dX6_weigh_30 (by decide) ?_
  refine lv_iload_n hx hb dX6_weigh_31 rfl (lv_at hl 1 rfl) ?_
  refine z_iadd hx hb dX6_weigh_32 ?_
  refine lv_iconst (v := nI (1)) hx hb dX6_weigh_33 (by decide) ?_
  refine z_isub hx hb dX6_weigh_34 (by omega) ?_
  refine z_iald (j := (5 + j) - 1) hx hb hG h1 ⟨by omega, by omega⟩ dX6_weigh_35 ?_
  refine z_top (y := (zWt nw j)) (rwt j hj.1 hj.2) ?_
  refine lv_istore_n (lv' := [(3, .int (zWt nw j)), (0, .ref (am 0)), (1, .int (nI (j))), (2, .int (nI (w)))]) hx hb dX6_weigh_36 rfl hl (by decide) rfl (fun ls hl => ?_)
  refine lv_aload_n hx hb dX6_weigh_37 rfl (lv_at hl 1 rfl) ?_
  refine z_get (ref := RX6) (C := RX6) (T := TX6) (N := 11) hx hb hts hin6 hown hG h0 rfl 0 (by decide) (by decide +kernel) rfl rfl dX6_weigh_38 ?_
  refine lv_iconst (v := nI (5)) hx hb dX6_weigh_41 (by decide) ?_
  refine lv_iload_n hx hb dX6_weigh_42 rfl (lv_at hl 2 rfl) ?_
  refine z_iadd hx hb dX6_weigh_43 ?_
  refine lv_iconst (v := nI (1)) hx hb dX6_weigh_44 (by decide) ?_
  refine z_isub hx hb dX6_weigh_45 (by omega) ?_
  refine lv_iload_n hx hb dX6_weigh_46 rfl (lv_at hl 3 rfl) ?_
  refine z_iast (j := (5 + j) - 1) hx hb hG h1 ⟨by omega, by omega⟩ hS (⟨1, by decide, rfl⟩) dX6_weigh_47 (fun Hn locs h_6 o_7 hS => ?_)
  have k_8 := va_at.kept h0 (o_7.2 _ (hinj.ne (by decide) (by decide) (by decide)))
  have k_9 := va_at.kept h2 (o_7.2 _ (hinj.ne (by decide) (by decide) (by decide)))
  have k_10 := va_at.kept h3 (o_7.2 _ (hinj.ne (by decide) (by decide) (by decide)))
  have k_11 := va_at.kept h4 (o_7.2 _ (hinj.ne (by decide) (by decide) (by decide)))
  have k_12 := va_at.kept h5 (o_7.2 _ (hinj.ne (by decide) (by decide) (by decide)))
  have k_13 := va_at.kept h6 (o_7.2 _ (hinj.ne (by decide) (by decide) (by decide)))
  have hz : Hn.size = H.size := o_7.1.trans hz
  refine lv_iload_n hx hb dX6_weigh_48 rfl (lv_at hl 0 rfl) ?_
  exact hret _ _ _ _ _ hS (hz) dX6_weigh_49 (rfl) (⟨_, _, _, _, _, _, _, _, ⟨k_8, h_6, k_9, k_10, k_11, k_12, k_13⟩, zRep_wt1 hok.B hj hrep, hpa, hke, hbu⟩)

set_option maxHeartbeats 4000000 in
set_option maxRecDepth 100000 in
theorem c_X6_kind_0 (E : zEnv) {am : Nat → Nat} {nw sv : zS} {an : Bool} {hs : Nat → zS} {ct ln : Nat} {cd : Nat → Int32} {x y : Int32} (hok : zOk nw) (hx1 : zin x 1 5 = false) : zRO E yX6_kind wsX6_kind 3 67 [.ref (am 0), .int (x), .int (y)] (fun H => zMW E am nw sv an hs ct ln cd H) (some (.int (-1))) := by
  refine zRO.ofI (maxL := 5) rfl (Nat.le_of_ble_eq_true rfl) (fun p e s m args below meth c H Q hF hP hret ls hl => ?_)
  have S : CallFix p m c cX6_kind 5 s args wsX6_kind RX6 := hF.1
  have hG := hF.2
  obtain ⟨hx, hb, hml, hown, hts⟩ := id S
  obtain ⟨z, past, kept, buf, rg, td, tm, nb, ⟨h0, h1, h2, h3, h4, h5, h6⟩, hrep, hpa, hke, hbu⟩ := hP
  obtain ⟨r1, rwt, r3, r4, r5, r6, r7⟩ := id hrep
  have hl : lv_has ls 5 [(0, .ref (am 0)), (1, .int (x)), (2, .int (y))] := hl
  have hin6 : ∀ w ∈ u_ws RX6 TX6 11, w ∈ wsX6_kind := by decide +kernel
  refine lv_iload_n hx hb dX6_kind_0 rfl (lv_at hl 1 rfl) ?_
  refine z_roSX (As := [.int (x)]) (rest := []) S hG (c_X6_isKind E) 1 gX6_kind_X6_isKind rfl kX6_isKind.2 ⟨Nat.le_of_ble_eq_true rfl, Nat.le_of_ble_eq_true rfl⟩ ⟨Nat.zero_le _, Nat.zero_le _⟩ (trivial) rfl hl.1 rfl rfl (Nat.le_of_ble_eq_true rfl) dX6_kind_1 ?_
  refine z_bne (tgt := 9) hx hb dX6_kind_4 (by decide) (fun c_1 => by exfalso; rw [hx1] at c_1; cases c_1) (fun c_1 => ?_)
  refine lv_iconst (v := (-1)) hx hb dX6_kind_7 (by decide) ?_
  exact hret _ _ _ dX6_kind_8 (rfl)

set_option maxHeartbeats 4000000 in
set_option maxRecDepth 100000 in
theorem c_X6_kind_1 (E : zEnv) {am : Nat → Nat} {nw sv : zS} {an : Bool} {hs : Nat → zS} {ct ln : Nat} {cd : Nat → Int32} {j : Nat} {y : Int32} (hok : zOk nw) (hj : 1 ≤ j ∧ j ≤ 5) (hy : zin y 0 2 = false) : zRO E yX6_kind wsX6_kind 3 67 [.ref (am 0), .int (nI (j)), .int (y)] (fun H => zMW E am nw sv an hs ct ln cd H) (some (.int (-2))) := by
  refine zRO.ofI (maxL := 5) rfl (Nat.le_of_ble_eq_true rfl) (fun p e s m args below meth c H Q hF hP hret ls hl => ?_)
  have S : CallFix p m c cX6_kind 5 s args wsX6_kind RX6 := hF.1
  have hG := hF.2
  obtain ⟨hx, hb, hml, hown, hts⟩ := id S
  obtain ⟨z, past, kept, buf, rg, td, tm, nb, ⟨h0, h1, h2, h3, h4, h5, h6⟩, hrep, hpa, hke, hbu⟩ := hP
  obtain ⟨r1, rwt, r3, r4, r5, r6, r7⟩ := id hrep
  have hl : lv_has ls 5 [(0, .ref (am 0)), (1, .int (nI (j))), (2, .int (y))] := hl
  have hin6 : ∀ w ∈ u_ws RX6 TX6 11, w ∈ wsX6_kind := by decide +kernel
  refine lv_iload_n hx hb dX6_kind_0 rfl (lv_at hl 1 rfl) ?_
  refine z_roSX (As := [.int (nI (j))]) (rest := []) S hG (c_X6_isKind E) 1 gX6_kind_X6_isKind rfl kX6_isKind.2 ⟨Nat.le_of_ble_eq_true rfl, Nat.le_of_ble_eq_true rfl⟩ ⟨Nat.zero_le _, Nat.zero_le _⟩ (trivial) rfl hl.1 rfl rfl (Nat.le_of_ble_eq_true rfl) dX6_kind_1 ?_
  refine z_bne (tgt := 9) hx hb dX6_kind_4 (by decide) (fun c_1 => ?_) (fun c_1 => by exfalso; rw [zin_y hj.1 hj.2 (by decide)] at c_1; cases c_1)
  refine lv_iload_n hx hb dX6_kind_9 rfl (lv_at hl 2 rfl) ?_
  refine lv_iconst (v := nI (0)) hx hb dX6_kind_10 (by decide) ?_
  refine lv_iconst (v := nI (2)) hx hb dX6_kind_11 (by decide) ?_
  refine z_roSX (As := [.int (y), .int (nI (0)), .int (nI (2))]) (rest := []) S hG (c_X6_in E) 3 gX6_kind_X6_in rfl kX6_in.2 ⟨Nat.le_of_ble_eq_true rfl, Nat.le_of_ble_eq_true rfl⟩ ⟨Nat.zero_le _, Nat.zero_le _⟩ (trivial) rfl hl.1 rfl rfl (Nat.le_of_ble_eq_true rfl) dX6_kind_12 ?_
  refine z_bne (tgt := 21) hx hb dX6_kind_15 (by decide) (fun c_2 => by exfalso; rw [hy] at c_2; cases c_2) (fun c_2 => ?_)
  refine lv_bipush (v := (-2)) hx hb dX6_kind_18 (by decide) ?_
  exact hret _ _ _ dX6_kind_20 (rfl)

set_option maxHeartbeats 4000000 in
set_option maxRecDepth 100000 in
theorem c_X6_kind_20 (E : zEnv) {am : Nat → Nat} {nw sv : zS} {an : Bool} {hs : Nat → zS} {ct ln : Nat} {cd : Nat → Int32} {j : Nat} (hok : zOk nw) (hj : 1 ≤ j ∧ j ≤ 5) : zRO E yX6_kind wsX6_kind 3 67 [.ref (am 0), .int (nI (j)), .int (nI (0))] (fun H => zMW E am nw sv an hs ct ln cd H) (some (.int (zBx nw j))) := by
  refine zRO.ofI (maxL := 5) rfl (Nat.le_of_ble_eq_true rfl) (fun p e s m args below meth c H Q hF hP hret ls hl => ?_)
  have S : CallFix p m c cX6_kind 5 s args wsX6_kind RX6 := hF.1
  have hG := hF.2
  obtain ⟨hx, hb, hml, hown, hts⟩ := id S
  obtain ⟨z, past, kept, buf, rg, td, tm, nb, ⟨h0, h1, h2, h3, h4, h5, h6⟩, hrep, hpa, hke, hbu⟩ := hP
  obtain ⟨r1, rwt, r3, r4, r5, r6, r7⟩ := id hrep
  have hl : lv_has ls 5 [(0, .ref (am 0)), (1, .int (nI (j))), (2, .int (nI (0)))] := hl
  have hin6 : ∀ w ∈ u_ws RX6 TX6 11, w ∈ wsX6_kind := by decide +kernel
  refine lv_iload_n hx hb dX6_kind_0 rfl (lv_at hl 1 rfl) ?_
  refine z_roSX (As := [.int (nI (j))]) (rest := []) S hG (c_X6_isKind E) 1 gX6_kind_X6_isKind rfl kX6_isKind.2 ⟨Nat.le_of_ble_eq_true rfl, Nat.le_of_ble_eq_true rfl⟩ ⟨Nat.zero_le _, Nat.zero_le _⟩ (trivial) rfl hl.1 rfl rfl (Nat.le_of_ble_eq_true rfl) dX6_kind_1 ?_
  refine z_bne (tgt := 9) hx hb dX6_kind_4 (by decide) (fun c_1 => ?_) (fun c_1 => by exfalso; rw [zin_y hj.1 hj.2 (by decide)] at c_1; cases c_1)
  refine lv_iload_n hx hb dX6_kind_9 rfl (lv_at hl 2 rfl) ?_
  refine lv_iconst (v := nI (0)) hx hb dX6_kind_10 (by decide) ?_
  refine lv_iconst (v := nI (2)) hx hb dX6_kind_11 (by decide) ?_
  refine z_roSX (As := [.int (nI (0)), .int (nI (0)), .int (nI (2))]) (rest := []) S hG (c_X6_in E) 3 gX6_kind_X6_in rfl kX6_in.2 ⟨Nat.le_of_ble_eq_true rfl, Nat.le_of_ble_eq_true rfl⟩ ⟨Nat.zero_le _, Nat.zero_le _⟩ (trivial) rfl hl.1 rfl rfl (Nat.le_of_ble_eq_true rfl) dX6_kind_12 ?_
  refine z_bne (tgt := 21) hx hb dX6_kind_15 (by decide) (fun c_2 => ?_) (fun c_2 => by exfalso; rw [zin_y (by omega) (by omega) (by decide)] at c_2; cases c_2)
  refine lv_iconst (v := nI (0)) hx hb dX6_kind_21 (by decide) ?_
  refine lv_istore_n (lv' := [(3, .int (nI (0))), (0, .ref (am 0)), (1, .int (nI (j))), (2, .int (nI (0)))]) hx hb dX6_kind_22 rfl hl (by decide) rfl (fun ls hl => ?_)
  refine lv_iconst (v := nI (0)) hx hb dX6_kind_23 (by decide) ?_
  refine lv_istore (lv' := [(4, .int (nI (0))), (3, .int (nI (0))), (0, .ref (am 0)), (1, .int (nI (j))), (2, .int (nI (0)))]) hx hb dX6_kind_24 hl (by decide) rfl (fun ls hl => ?_)
  have L26 : ∀ (dd : Nat) (i : Nat), 6 - i < dd → (i ≤ 6) → ∀ (ls : Array Slot), lv_has ls 5 [(0, .ref (am 0)), (1, .int (nI (j))), (2, .int (nI (0))), (3, .int (nI (zns (fun t9 => zcn (zKd nw t9) (nI j) (zSz nw t9)) i))), (4, .int (nI (i)))] → W p (zl E) e (zRm 3 67) s m args below meth c H [] 0 0 Q (F0 m 26 ls []) := by
    intro dd
    induction dd with
    | zero => intro i hdd; exact absurd hdd (Nat.not_lt_zero _)
    | succ dd ih26 =>
      intro i hdd26 hi ls hl
      refine lv_iload hx hb dX6_kind_26 (lv_at hl 4 rfl) ?_
      refine lv_bipush (v := nI (6)) hx hb dX6_kind_28 (by decide) ?_
      refine z_cge (tgt := 49) hx hb dX6_kind_30 (by decide) ⟨by omega, by omega⟩ (fun c_3 => ?_) (fun c_3 => ?_)
      · refine lv_iload_n hx hb dX6_kind_49 rfl (lv_at hl 2 rfl) ?_
        refine z_fne (tgt := 66) hx hb dX6_kind_50 (by decide) (by omega) (fun c_4 => by exfalso; omega) (fun c_4 => ?_)
        refine lv_aload_n hx hb dX6_kind_53 rfl (lv_at hl 0 rfl) ?_
        refine z_get (ref := RX6) (C := RX6) (T := TX6) (N := 11) hx hb hts hin6 hown hG h0 rfl 0 (by decide) (by decide +kernel) rfl rfl dX6_kind_54 ?_
        refine lv_iconst (v := nI (0)) hx hb dX6_kind_57 (by decide) ?_
        refine lv_iload_n hx hb dX6_kind_58 rfl (lv_at hl 1 rfl) ?_
        refine z_iadd hx hb dX6_kind_59 ?_
        refine lv_iconst (v := nI (1)) hx hb dX6_kind_60 (by decide) ?_
        refine z_isub hx hb dX6_kind_61 (by omega) ?_
        refine z_iald (j := (0 + j) - 1) hx hb hG h1 ⟨by omega, by omega⟩ dX6_kind_62 ?_
        refine z_top (y := (zBx nw j)) (r1 j hj.1 hj.2) ?_
        refine lv_goto (tgt := 85) hx hb dX6_kind_63 (by decide) ?_
        exact hret _ _ _ dX6_kind_85 (by first | rfl | rw [show i = 6 by omega])
      · refine lv_iload_n hx hb dX6_kind_33 rfl (lv_at hl 3 rfl) ?_
        refine lv_aload_n hx hb dX6_kind_34 rfl (lv_at hl 0 rfl) ?_
        refine lv_iload hx hb dX6_kind_35 (lv_at hl 4 rfl) ?_
        refine lv_iload_n hx hb dX6_kind_37 rfl (lv_at hl 1 rfl) ?_
        refine z_roV (As := [.int (nI (i)), .int (nI (j))]) (rest := [.int (nI (zns (fun t9 => zcn (zKd nw t9) (nI j) (zSz nw t9)) i))]) (q := (RX6, TX6, 11)) S hG (c_X6_hung E (z := z) (i := i) (x := nI j) (by omega) (hok.h16 i (by omega)) (r3 i (by omega))) 2 gX6_kind_X6_hung rfl kX6_hung ⟨Nat.le_of_ble_eq_true rfl, Nat.le_of_ble_eq_true rfl⟩ ⟨Nat.zero_le _, Nat.zero_le _⟩ (⟨h0, h1⟩) rfl h0 rfl hl.1 rfl rfl (Nat.le_of_ble_eq_true rfl) dX6_kind_38 ?_
        refine z_iadd hx hb dX6_kind_41 ?_
        refine lv_istore_n (lv' := [(3, .int (nI ((zns (fun t9 => zcn (zKd nw t9) (nI j) (zSz nw t9)) i) + (zcn (zKd nw i) (nI j) (zSz nw i))))), (0, .ref (am 0)), (1, .int (nI (j))), (2, .int (nI (0))), (4, .int (nI (i)))]) hx hb dX6_kind_42 rfl hl (by decide) rfl (fun ls hl => ?_)
        refine lv_iinc (v := nI (i + 1)) (lv' := [(4, .int (nI (i + 1))), (3, .int (nI ((zns (fun t9 => zcn (zKd nw t9) (nI j) (zSz nw t9)) i) + (zcn (zKd nw i) (nI j) (zSz nw i))))), (0, .ref (am 0)), (1, .int (nI (j))), (2, .int (nI (0)))]) hx hb dX6_kind_43 hl (k := 4) rfl (z_inc1 _) (by decide) rfl (fun ls hl => ?_)
        refine lv_goto (tgt := 26) hx hb dX6_kind_46 (by decide) ?_
        have hl9 := lv_sub hl [2, 3, 4, 1, 0] (l' := [(0, .ref (am 0)), (1, .int (nI (j))), (2, .int (nI (0))), (3, .int (nI ((zns (fun t9 => zcn (zKd nw t9) (nI j) (zSz nw t9)) i) + (zcn (zKd nw i) (nI j) (zSz nw i))))), (4, .int (nI (i + 1)))]) rfl
        have e9_3 : ((zns (fun t9 => zcn (zKd nw t9) (nI j) (zSz nw t9)) i) + (zcn (zKd nw i) (nI j) (zSz nw i))) = (zns (fun t9 => zcn (zKd nw t9) (nI j) (zSz nw t9)) (i + 1)) := rfl
        have e9_4 : (i + 1) = ((i + 1)) := by omega
        exact ih26 (i + 1) (by omega) (by omega) ls (by rw [← e9_3, ← e9_4]; exact hl9)
  exact L26 ((6 - (0)) + 1) (0) (Nat.lt_succ_self _) (by decide) ls (lv_sub hl [2, 3, 4, 1, 0] rfl)

set_option maxHeartbeats 4000000 in
set_option maxRecDepth 100000 in
theorem c_X6_kind_21 (E : zEnv) {am : Nat → Nat} {nw sv : zS} {an : Bool} {hs : Nat → zS} {ct ln : Nat} {cd : Nat → Int32} {j : Nat} (hok : zOk nw) (hj : 1 ≤ j ∧ j ≤ 5) : zRO E yX6_kind wsX6_kind 3 67 [.ref (am 0), .int (nI (j)), .int (nI (1))] (fun H => zMW E am nw sv an hs ct ln cd H) (some (.int (zWt nw j))) := by
  refine zRO.ofI (maxL := 5) rfl (Nat.le_of_ble_eq_true rfl) (fun p e s m args below meth c H Q hF hP hret ls hl => ?_)
  have S : CallFix p m c cX6_kind 5 s args wsX6_kind RX6 := hF.1
  have hG := hF.2
  obtain ⟨hx, hb, hml, hown, hts⟩ := id S
  obtain ⟨z, past, kept, buf, rg, td, tm, nb, ⟨h0, h1, h2, h3, h4, h5, h6⟩, hrep, hpa, hke, hbu⟩ := hP
  obtain ⟨r1, rwt, r3, r4, r5, r6, r7⟩ := id hrep
  have hl : lv_has ls 5 [(0, .ref (am 0)), (1, .int (nI (j))), (2, .int (nI (1)))] := hl
  have hin6 : ∀ w ∈ u_ws RX6 TX6 11, w ∈ wsX6_kind := by decide +kernel
  refine lv_iload_n hx hb dX6_kind_0 rfl (lv_at hl 1 rfl) ?_
  refine z_roSX (As := [.int (nI (j))]) (rest := []) S hG (c_X6_isKind E) 1 gX6_kind_X6_isKind rfl kX6_isKind.2 ⟨Nat.le_of_ble_eq_true rfl, Nat.le_of_ble_eq_true rfl⟩ ⟨Nat.zero_le _, Nat.zero_le _⟩ (trivial) rfl hl.1 rfl rfl (Nat.le_of_ble_eq_true rfl) dX6_kind_1 ?_
  refine z_bne (tgt := 9) hx hb dX6_kind_4 (by decide) (fun c_1 => ?_) (fun c_1 => by exfalso; rw [zin_y hj.1 hj.2 (by decide)] at c_1; cases c_1)
  refine lv_iload_n hx hb dX6_kind_9 rfl (lv_at hl 2 rfl) ?_
  refine lv_iconst (v := nI (0)) hx hb dX6_kind_10 (by decide) ?_
  refine lv_iconst (v := nI (2)) hx hb dX6_kind_11 (by decide) ?_
  refine z_roSX (As := [.int (nI (1)), .int (nI (0)), .int (nI (2))]) (rest := []) S hG (c_X6_in E) 3 gX6_kind_X6_in rfl kX6_in.2 ⟨Nat.le_of_ble_eq_true rfl, Nat.le_of_ble_eq_true rfl⟩ ⟨Nat.zero_le _, Nat.zero_le _⟩ (trivial) rfl hl.1 rfl rfl (Nat.le_of_ble_eq_true rfl) dX6_kind_12 ?_
  refine z_bne (tgt := 21) hx hb dX6_kind_15 (by decide) (fun c_2 => ?_) (fun c_2 => by exfalso; rw [zin_y (by omega) (by omega) (by decide)] at c_2; cases c_2)
  refine lv_iconst (v := nI (0)) hx hb dX6_kind_21 (by decide) ?_
  refine lv_istore_n (lv' := [(3, .int (nI (0))), (0, .ref (am 0)), (1, .int (nI (j))), (2, .int (nI (1)))]) hx hb dX6_kind_22 rfl hl (by decide) rfl (fun ls hl => ?_)
  refine lv_iconst (v := nI (0)) hx hb dX6_kind_23 (by decide) ?_
  refine lv_istore (lv' := [(4, .int (nI (0))), (3, .int (nI (0))), (0, .ref (am 0)), (1, .int (nI (j))), (2, .int (nI (1)))]) hx hb dX6_kind_24 hl (by decide) rfl (fun ls hl => ?_)
  have L26 : ∀ (dd : Nat) (i : Nat), 6 - i < dd → (i ≤ 6) → ∀ (ls : Array Slot), lv_has ls 5 [(0, .ref (am 0)), (1, .int (nI (j))), (2, .int (nI (1))), (3, .int (nI (zns (fun t9 => zcn (zKd nw t9) (nI j) (zSz nw t9)) i))), (4, .int (nI (i)))] → W p (zl E) e (zRm 3 67) s m args below meth c H [] 0 0 Q (F0 m 26 ls []) := by
    intro dd
    induction dd with
    | zero => intro i hdd; exact absurd hdd (Nat.not_lt_zero _)
    | succ dd ih26 =>
      intro i hdd26 hi ls hl
      refine lv_iload hx hb dX6_kind_26 (lv_at hl 4 rfl) ?_
      refine lv_bipush (v := nI (6)) hx hb dX6_kind_28 (by decide) ?_
      refine z_cge (tgt := 49) hx hb dX6_kind_30 (by decide) ⟨by omega, by omega⟩ (fun c_3 => ?_) (fun c_3 => ?_)
      · refine lv_iload_n hx hb dX6_kind_49 rfl (lv_at hl 2 rfl) ?_
        refine z_fne (tgt := 66) hx hb dX6_kind_50 (by decide) (by omega) (fun c_4 => ?_) (fun c_4 => by exfalso; omega)
        refine lv_iload_n hx hb dX6_kind_66 rfl (lv_at hl 2 rfl) ?_
        refine lv_iconst (v := nI (1)) hx hb dX6_kind_67 (by decide) ?_
        refine z_cne (tgt := 84) hx hb dX6_kind_68 (by decide) ⟨by omega, by omega⟩ (fun c_5 => by exfalso; omega) (fun c_5 => ?_)
        refine lv_aload_n hx hb dX6_kind_71 rfl (lv_at hl 0 rfl) ?_
        refine z_get (ref := RX6) (C := RX6) (T := TX6) (N := 11) hx hb hts hin6 hown hG h0 rfl 0 (by decide) (by decide +kernel) rfl rfl dX6_kind_72 ?_
        refine lv_iconst (v := nI (5)) hx hb dX6_kind_75 (by decide) ?_
        refine lv_iload_n hx hb dX6_kind_76 rfl (lv_at hl 1 rfl) ?_
        refine z_iadd hx hb dX6_kind_77 ?_
        refine lv_iconst (v := nI (1)) hx hb dX6_kind_78 (by decide) ?_
        refine z_isub hx hb dX6_kind_79 (by omega) ?_
        refine z_iald (j := (5 + j) - 1) hx hb hG h1 ⟨by omega, by omega⟩ dX6_kind_80 ?_
        refine z_top (y := (zWt nw j)) (rwt j hj.1 hj.2) ?_
        refine lv_goto (tgt := 85) hx hb dX6_kind_81 (by decide) ?_
        exact hret _ _ _ dX6_kind_85 (by first | rfl | rw [show i = 6 by omega])
      · refine lv_iload_n hx hb dX6_kind_33 rfl (lv_at hl 3 rfl) ?_
        refine lv_aload_n hx hb dX6_kind_34 rfl (lv_at hl 0 rfl) ?_
        refine lv_iload hx hb dX6_kind_35 (lv_at hl 4 rfl) ?_
        refine lv_iload_n hx hb dX6_kind_37 rfl (lv_at hl 1 rfl) ?_
        refine z_roV (As := [.int (nI (i)), .int (nI (j))]) (rest := [.int (nI (zns (fun t9 => zcn (zKd nw t9) (nI j) (zSz nw t9)) i))]) (q := (RX6, TX6, 11)) S hG (c_X6_hung E (z := z) (i := i) (x := nI j) (by omega) (hok.h16 i (by omega)) (r3 i (by omega))) 2 gX6_kind_X6_hung rfl kX6_hung ⟨Nat.le_of_ble_eq_true rfl, Nat.le_of_ble_eq_true rfl⟩ ⟨Nat.zero_le _, Nat.zero_le _⟩ (⟨h0, h1⟩) rfl h0 rfl hl.1 rfl rfl (Nat.le_of_ble_eq_true rfl) dX6_kind_38 ?_
        refine z_iadd hx hb dX6_kind_41 ?_
        refine lv_istore_n (lv' := [(3, .int (nI ((zns (fun t9 => zcn (zKd nw t9) (nI j) (zSz nw t9)) i) + (zcn (zKd nw i) (nI j) (zSz nw i))))), (0, .ref (am 0)), (1, .int (nI (j))), (2, .int (nI (1))), (4, .int (nI (i)))]) hx hb dX6_kind_42 rfl hl (by decide) rfl (fun ls hl => ?_)
        refine lv_iinc (v := nI (i + 1)) (lv' := [(4, .int (nI (i + 1))), (3, .int (nI ((zns (fun t9 => zcn (zKd nw t9) (nI j) (zSz nw t9)) i) + (zcn (zKd nw i) (nI j) (zSz nw i))))), (0, .ref (am 0)), (1, .int (nI (j))), (2, .int (nI (1)))]) hx hb dX6_kind_43 hl (k := 4) rfl (z_inc1 _) (by decide) rfl (fun ls hl => ?_)
        refine lv_goto (tgt := 26) hx hb dX6_kind_46 (by decide) ?_
        have hl9 := lv_sub hl [2, 3, 4, 1, 0] (l' := [(0, .ref (am 0)), (1, .int (nI (j))), (2, .int (nI (1))), (3, .int (nI ((zns (fun t9 => zcn (zKd nw t9) (nI j) (zSz nw t9)) i) + (zcn (zKd nw i) (nI j) (zSz nw i))))), (4, .int (nI (i + 1)))]) rfl
        have e9_3 : ((zns (fun t9 => zcn (zKd nw t9) (nI j) (zSz nw t9)) i) + (zcn (zKd nw i) (nI j) (zSz nw i))) = (zns (fun t9 => zcn (zKd nw t9) (nI j) (zSz nw t9)) (i + 1)) := rfl
        have e9_4 : (i + 1) = ((i + 1)) := by omega
        exact ih26 (i + 1) (by omega) (by omega) ls (by rw [← e9_3, ← e9_4]; exact hl9)
  exact L26 ((6 - (0)) + 1) (0) (Nat.lt_succ_self _) (by decide) ls (lv_sub hl [2, 3, 4, 1, 0] rfl)

set_option maxHeartbeats 4000000 in
set_option maxRecDepth 100000 in
theorem c_X6_kind_22 (E : zEnv) {am : Nat → Nat} {nw sv : zS} {an : Bool} {hs : Nat → zS} {ct ln : Nat} {cd : Nat → Int32} {j : Nat} (hok : zOk nw) (hj : 1 ≤ j ∧ j ≤ 5) : zRO E yX6_kind wsX6_kind 3 67 [.ref (am 0), .int (nI (j)), .int (nI (2))] (fun H => zMW E am nw sv an hs ct ln cd H) (some (.int (nI (zns (fun t9 => zcn (zKd nw t9) (nI j) (zSz nw t9)) 6)))) := by
  refine zRO.ofI (maxL := 5) rfl (Nat.le_of_ble_eq_true rfl) (fun p e s m args below meth c H Q hF hP hret ls hl => ?_)
  have S : CallFix p m c cX6_kind 5 s args wsX6_kind RX6 := hF.1
  have hG := hF.2
  obtain ⟨hx, hb, hml, hown, hts⟩ := id S
  obtain ⟨z, past, kept, buf, rg, td, tm, nb, ⟨h0, h1, h2, h3, h4, h5, h6⟩, hrep, hpa, hke, hbu⟩ := hP
  obtain ⟨r1, rwt, r3, r4, r5, r6, r7⟩ := id hrep
  have hl : lv_has ls 5 [(0, .ref (am 0)), (1, .int (nI (j))), (2, .int (nI (2)))] := hl
  have hin6 : ∀ w ∈ u_ws RX6 TX6 11, w ∈ wsX6_kind := by decide +kernel
  refine lv_iload_n hx hb dX6_kind_0 rfl (lv_at hl 1 rfl) ?_
  refine z_roSX (As := [.int (nI (j))]) (rest := []) S hG (c_X6_isKind E) 1 gX6_kind_X6_isKind rfl kX6_isKind.2 ⟨Nat.le_of_ble_eq_true rfl, Nat.le_of_ble_eq_true rfl⟩ ⟨Nat.zero_le _, Nat.zero_le _⟩ (trivial) rfl hl.1 rfl rfl (Nat.le_of_ble_eq_true rfl) dX6_kind_1 ?_
  refine z_bne (tgt := 9) hx hb dX6_kind_4 (by decide) (fun c_1 => ?_) (fun c_1 => by exfalso; rw [zin_y hj.1 hj.2 (by decide)] at c_1; cases c_1)
  refine lv_iload_n hx hb dX6_kind_9 rfl (lv_at hl 2 rfl) ?_
  refine lv_iconst (v := nI (0)) hx hb dX6_kind_10 (by decide) ?_
  refine lv_iconst (v := nI (2)) hx hb dX6_kind_11 (by decide) ?_
  refine z_roSX (As := [.int (nI (2)), .int (nI (0)), .int (nI (2))]) (rest := []) S hG (c_X6_in E) 3 gX6_kind_X6_in rfl kX6_in.2 ⟨Nat.le_of_ble_eq_true rfl, Nat.le_of_ble_eq_true rfl⟩ ⟨Nat.zero_le _, Nat.zero_le _⟩ (trivial) rfl hl.1 rfl rfl (Nat.le_of_ble_eq_true rfl) dX6_kind_12 ?_
  refine z_bne (tgt := 21) hx hb dX6_kind_15 (by decide) (fun c_2 => ?_) (fun c_2 => by exfalso; rw [zin_y (by omega) (by omega) (by decide)] at c_2; cases c_2)
  refine lv_iconst (v := nI (0)) hx hb dX6_kind_21 (by decide) ?_
  refine lv_istore_n (lv' := [(3, .int (nI (0))), (0, .ref (am 0)), (1, .int (nI (j))), (2, .int (nI (2)))]) hx hb dX6_kind_22 rfl hl (by decide) rfl (fun ls hl => ?_)
  refine lv_iconst (v := nI (0)) hx hb dX6_kind_23 (by decide) ?_
  refine lv_istore (lv' := [(4, .int (nI (0))), (3, .int (nI (0))), (0, .ref (am 0)), (1, .int (nI (j))), (2, .int (nI (2)))]) hx hb dX6_kind_24 hl (by decide) rfl (fun ls hl => ?_)
  have L26 : ∀ (dd : Nat) (i : Nat), 6 - i < dd → (i ≤ 6) → ∀ (ls : Array Slot), lv_has ls 5 [(0, .ref (am 0)), (1, .int (nI (j))), (2, .int (nI (2))), (3, .int (nI (zns (fun t9 => zcn (zKd nw t9) (nI j) (zSz nw t9)) i))), (4, .int (nI (i)))] → W p (zl E) e (zRm 3 67) s m args below meth c H [] 0 0 Q (F0 m 26 ls []) := by
    intro dd
    induction dd with
    | zero => intro i hdd; exact absurd hdd (Nat.not_lt_zero _)
    | succ dd ih26 =>
      intro i hdd26 hi ls hl
      refine lv_iload hx hb dX6_kind_26 (lv_at hl 4 rfl) ?_
      refine lv_bipush (v := nI (6)) hx hb dX6_kind_28 (by decide) ?_
      refine z_cge (tgt := 49) hx hb dX6_kind_30 (by decide) ⟨by omega, by omega⟩ (fun c_3 => ?_) (fun c_3 => ?_)
      · refine lv_iload_n hx hb dX6_kind_49 rfl (lv_at hl 2 rfl) ?_
        refine z_fne (tgt := 66) hx hb dX6_kind_50 (by decide) (by omega) (fun c_4 => ?_) (fun c_4 => by exfalso; omega)
        refine lv_iload_n hx hb dX6_kind_66 rfl (lv_at hl 2 rfl) ?_
        refine lv_iconst (v := nI (1)) hx hb dX6_kind_67 (by decide) ?_
        refine z_cne (tgt := 84) hx hb dX6_kind_68 (by decide) ⟨by omega, by omega⟩ (fun c_5 => ?_) (fun c_5 => by exfalso; omega)
        refine lv_iload_n hx hb dX6_kind_84 rfl (lv_at hl 3 rfl) ?_
        exact hret _ _ _ dX6_kind_85 (by first | rfl | rw [show i = 6 by omega])
      · refine lv_iload_n hx hb dX6_kind_33 rfl (lv_at hl 3 rfl) ?_
        refine lv_aload_n hx hb dX6_kind_34 rfl (lv_at hl 0 rfl) ?_
        refine lv_iload hx hb dX6_kind_35 (lv_at hl 4 rfl) ?_
        refine lv_iload_n hx hb dX6_kind_37 rfl (lv_at hl 1 rfl) ?_
        refine z_roV (As := [.int (nI (i)), .int (nI (j))]) (rest := [.int (nI (zns (fun t9 => zcn (zKd nw t9) (nI j) (zSz nw t9)) i))]) (q := (RX6, TX6, 11)) S hG (c_X6_hung E (z := z) (i := i) (x := nI j) (by omega) (hok.h16 i (by omega)) (r3 i (by omega))) 2 gX6_kind_X6_hung rfl kX6_hung ⟨Nat.le_of_ble_eq_true rfl, Nat.le_of_ble_eq_true rfl⟩ ⟨Nat.zero_le _, Nat.zero_le _⟩ (⟨h0, h1⟩) rfl h0 rfl hl.1 rfl rfl (Nat.le_of_ble_eq_true rfl) dX6_kind_38 ?_
        refine z_iadd hx hb dX6_kind_41 ?_
        refine lv_istore_n (lv' := [(3, .int (nI ((zns (fun t9 => zcn (zKd nw t9) (nI j) (zSz nw t9)) i) + (zcn (zKd nw i) (nI j) (zSz nw i))))), (0, .ref (am 0)), (1, .int (nI (j))), (2, .int (nI (2))), (4, .int (nI (i)))]) hx hb dX6_kind_42 rfl hl (by decide) rfl (fun ls hl => ?_)
        refine lv_iinc (v := nI (i + 1)) (lv' := [(4, .int (nI (i + 1))), (3, .int (nI ((zns (fun t9 => zcn (zKd nw t9) (nI j) (zSz nw t9)) i) + (zcn (zKd nw i) (nI j) (zSz nw i))))), (0, .ref (am 0)), (1, .int (nI (j))), (2, .int (nI (2)))]) hx hb dX6_kind_43 hl (k := 4) rfl (z_inc1 _) (by decide) rfl (fun ls hl => ?_)
        refine lv_goto (tgt := 26) hx hb dX6_kind_46 (by decide) ?_
        have hl9 := lv_sub hl [2, 3, 4, 1, 0] (l' := [(0, .ref (am 0)), (1, .int (nI (j))), (2, .int (nI (2))), (3, .int (nI ((zns (fun t9 => zcn (zKd nw t9) (nI j) (zSz nw t9)) i) + (zcn (zKd nw i) (nI j) (zSz nw i))))), (4, .int (nI (i + 1)))]) rfl
        have e9_3 : ((zns (fun t9 => zcn (zKd nw t9) (nI j) (zSz nw t9)) i) + (zcn (zKd nw i) (nI j) (zSz nw i))) = (zns (fun t9 => zcn (zKd nw t9) (nI j) (zSz nw t9)) (i + 1)) := rfl
        have e9_4 : (i + 1) = ((i + 1)) := by omega
        exact ih26 (i + 1) (by omega) (by omega) ls (by rw [← e9_3, ← e9_4]; exact hl9)
  exact L26 ((6 - (0)) + 1) (0) (Nat.lt_succ_self _) (by decide) ls (lv_sub hl [2, 3, 4, 1, 0] rfl)

set_option maxHeartbeats 4000000 in
set_option maxRecDepth 100000 in
theorem c_X6_make_0 (E : zEnv) {am : Nat → Nat} {nw sv : zS} {an : Bool} {hs : Nat → zS} {ct ln : Nat} {cd : Nat → Int32} {x : Int32} (hok : zOk nw) (hinj : zInM am) (hct : ct ≤ 5) (hx1 : zsz x = false) : zWR E yX6_make wsX6_make 2 43 [.ref (am 0), .int (x)] (fun H => zMW E am nw sv an hs ct ln cd H) (some (.int (-2))) (fun H => zMW E am nw sv an hs ct ln cd H) (zAM am) := by
  refine zWR.ofI (maxL := 3) rfl (Nat.le_of_ble_eq_true rfl) (fun p e s m args below meth c H Q hF hP hret ls hl => ?_)
  have S : CallFix p m c cX6_make 3 s args wsX6_make RX6 := hF.1
  have hG := hF.2
  obtain ⟨hx, hb, hml, hown, hts⟩ := id S
  have hS : va_S (zAM am) H H [] := va_S.rf
  obtain ⟨locs, hlocs⟩ : ∃ x : List Loc, x = [] := ⟨_, rfl⟩
  rw [← hlocs] at hS ⊢
  have hz : H.size = H.size := rfl
  obtain ⟨z, past, kept, buf, rg, td, tm, nb, ⟨h0, h1, h2, h3, h4, h5, h6⟩, hrep, hpa, hke, hbu⟩ := hP
  obtain ⟨r1, rwt, r3, r4, r5, r6, r7⟩ := id hrep
  have hl : lv_has ls 3 [(0, .ref (am 0)), (1, .int (x))] := hl
  refine lv_iload_n hx hb dX6_make_0 rfl (lv_at hl 1 rfl) ?_
  refine z_roSX (As := [.int (x)]) (rest := []) S hG (c_X6_isRing E) 1 gX6_make_X6_isRing rfl kX6_isRing.2 ⟨Nat.le_of_ble_eq_true rfl, Nat.le_of_ble_eq_true rfl⟩ ⟨Nat.zero_le _, Nat.zero_le _⟩ (trivial) rfl hl.1 rfl rfl (Nat.le_of_ble_eq_true rfl) dX6_make_1 ?_
  refine z_bne (tgt := 10) hx hb dX6_make_4 (by decide) (fun c_1 => by exfalso; rw [hx1] at c_1; cases c_1) (fun c_1 => ?_)
  refine lv_bipush (v := (-2)) hx hb dX6_make_7 (by decide) ?_
  exact hret _ _ _ _ _ hS (hz) dX6_make_9 (rfl) (⟨_, _, _, _, _, _, _, _, ⟨h0, h1, h2, h3, h4, h5, h6⟩, hrep, hpa, hke, hbu⟩)

set_option maxHeartbeats 4000000 in
set_option maxRecDepth 100000 in
theorem c_X6_make_1 (E : zEnv) {am : Nat → Nat} {nw sv : zS} {an : Bool} {hs : Nat → zS} {ct ln : Nat} {cd : Nat → Int32} {w : Nat} (hok : zOk nw) (hinj : zInM am) (hct : ct ≤ 5) (hw : zsz4 w) (hfr : zfd (zSz nw) 6 = 6) : zWR E yX6_make wsX6_make 2 43 [.ref (am 0), .int (nI (w))] (fun H => zMW E am nw sv an hs ct ln cd H) (some (.int (-4))) (fun H => zMW E am nw sv an hs ct ln cd H) (zAM am) := by
  refine zWR.ofI (maxL := 3) rfl (Nat.le_of_ble_eq_true rfl) (fun p e s m args below meth c H Q hF hP hret ls hl => ?_)
  have S : CallFix p m c cX6_make 3 s args wsX6_make RX6 := hF.1
  have hG := hF.2
  obtain ⟨hx, hb, hml, hown, hts⟩ := id S
  have hS : va_S (zAM am) H H [] := va_S.rf
  obtain ⟨locs, hlocs⟩ : ∃ x : List Loc, x = [] := ⟨_, rfl⟩
  rw [← hlocs] at hS ⊢
  have hz : H.size = H.size := rfl
  obtain ⟨z, past, kept, buf, rg, td, tm, nb, ⟨h0, h1, h2, h3, h4, h5, h6⟩, hrep, hpa, hke, hbu⟩ := hP
  obtain ⟨r1, rwt, r3, r4, r5, r6, r7⟩ := id hrep
  have hl : lv_has ls 3 [(0, .ref (am 0)), (1, .int (nI (w)))] := hl
  refine lv_iload_n hx hb dX6_make_0 rfl (lv_at hl 1 rfl) ?_
  refine z_roSX (As := [.int (nI (w))]) (rest := []) S hG (c_X6_isRing E) 1 gX6_make_X6_isRing rfl kX6_isRing.2 ⟨Nat.le_of_ble_eq_true rfl, Nat.le_of_ble_eq_true rfl⟩ ⟨Nat.zero_le _, Nat.zero_le _⟩ (trivial) rfl hl.1 rfl rfl (Nat.le_of_ble_eq_true rfl) dX6_make_1 ?_
  refine z_bne (tgt := 10) hx hb dX6_make_4 (by decide) (fun c_1 => ?_) (fun c_1 => by exfalso; rw [zsz4_b hw] at c_1; cases c_1)
  refine lv_aload_n hx hb dX6_make_10 rfl (lv_at hl 0 rfl) ?_
  refine z_roV (As := []) (rest := []) (q := (RX6, TX6, 11)) S hG (c_X6_free E (z := z) (fun t ht => (r3 t ht).1) hok.h16) 0 gX6_make_X6_free rfl kX6_free ⟨Nat.le_of_ble_eq_true rfl, Nat.le_of_ble_eq_true rfl⟩ ⟨Nat.zero_le _, Nat.zero_le _⟩ (⟨h0, h1⟩) rfl h0 rfl hl.1 rfl rfl (Nat.le_of_ble_eq_true rfl) dX6_make_11 ?_
  refine z_top (y := (-6)) (by rw [hfr]; rfl) ?_
  refine lv_istore_n (lv' := [(2, .int (-6)), (0, .ref (am 0)), (1, .int (nI (w)))]) hx hb dX6_make_14 rfl hl (by decide) rfl (fun ls hl => ?_)
  refine lv_iload_n hx hb dX6_make_15 rfl (lv_at hl 0 rfl) ?_
  refine lv_bipush (v := (-6)) hx hb dX6_make_16 (by decide) ?_
  refine lv_icmp_ne (tgt := 24) hx hb dX6_make_18 (by decide) (fun c_2 => by exfalso; exact c_2 rfl) (fun c_2 => ?_)
  refine lv_bipush (v := (-4)) hx hb dX6_make_21 (by decide) ?_
  exact hret _ _ _ _ _ hS (hz) dX6_make_23 (rfl) (⟨_, _, _, _, _, _, _, _, ⟨h0, h1, h2, h3, h4, h5, h6⟩, hrep, hpa, hke, hbu⟩)

set_option maxHeartbeats 4000000 in
set_option maxRecDepth 100000 in
theorem c_X6_make_2 (E : zEnv) {am : Nat → Nat} {nw sv : zS} {an : Bool} {hs : Nat → zS} {ct ln : Nat} {cd : Nat → Int32} {w : Nat} (hok : zOk nw) (hinj : zInM am) (hct : ct ≤ 5) (hw : zsz4 w) (hfr : zfd (zSz nw) 6 < 6) : zWR E yX6_make wsX6_make 2 43 [.ref (am 0), .int (nI (w))] (fun H => zMW E am nw sv an hs ct ln cd H) (some (.int (nI (zfd (zSz nw) 6)))) (fun H => zMW E am (zsRg nw (zfd (zSz nw) 6) w (fun _ => 0)) sv an (zrH hs ct nw) (zrC ct) ln cd H) (zAM am) := by
  refine zWR.ofI (maxL := 3) rfl (Nat.le_of_ble_eq_true rfl) (fun p e s m args below meth c H Q hF hP hret ls hl => ?_)
  have S : CallFix p m c cX6_make 3 s args wsX6_make RX6 := hF.1
  have hG := hF.2
  obtain ⟨hx, hb, hml, hown, hts⟩ := id S
  have hS : va_S (zAM am) H H [] := va_S.rf
  obtain ⟨locs, hlocs⟩ : ∃ x : List Loc, x = [] := ⟨_, rfl⟩
  rw [← hlocs] at hS ⊢
  have hz : H.size = H.size := rfl
  obtain ⟨z, past, kept, buf, rg, td, tm, nb, ⟨h0, h1, h2, h3, h4, h5, h6⟩, hrep, hpa, hke, hbu⟩ := hP
  obtain ⟨r1, rwt, r3, r4, r5, r6, r7⟩ := id hrep
  have hl : lv_has ls 3 [(0, .ref (am 0)), (1, .int (nI (w)))] := hl
  refine lv_iload_n hx hb dX6_make_0 rfl (lv_at hl 1 rfl) ?_
  refine z_roSX (As := [.int (nI (w))]) (rest := []) S hG (c_X6_isRing E) 1 gX6_make_X6_isRing rfl kX6_isRing.2 ⟨Nat.le_of_ble_eq_true rfl, Nat.le_of_ble_eq_true rfl⟩ ⟨Nat.zero_le _, Nat.zero_le _⟩ (trivial) rfl hl.1 rfl rfl (Nat.le_of_ble_eq_true rfl) dX6_make_1 ?_
  refine z_bne (tgt := 10) hx hb dX6_make_4 (by decide) (fun c_1 => ?_) (fun c_1 => by exfalso; rw [zsz4_b hw] at c_1; cases c_1)
  refine lv_aload_n hx hb dX6_make_10 rfl (lv_at hl 0 rfl) ?_
  refine z_roV (As := []) (rest := []) (q := (RX6, TX6, 11)) S hG (c_X6_free E (z := z) (fun t ht => (r3 t ht).1) hok.h16) 0 gX6_make_X6_free rfl kX6_free ⟨Nat.le_of_ble_eq_true rfl, Nat.le_of_ble_eq_true rfl⟩ ⟨Nat.zero_le _, Nat.zero_le _⟩ (⟨h0, h1⟩) rfl h0 rfl hl.1 rfl rfl (Nat.le_of_ble_eq_true rfl) dX6_make_11 ?_
  refine z_top (y := nI (zfd (zSz nw) 6)) (zfi_n hfr) ?_
  refine lv_istore_n (lv' := [(2, .int (nI (zfd (zSz nw) 6))), (0, .ref (am 0)), (1, .int (nI (w)))]) hx hb dX6_make_14 rfl hl (by decide) rfl (fun ls hl => ?_)
  refine lv_iload_n hx hb dX6_make_15 rfl (lv_at hl 0 rfl) ?_
  refine lv_bipush (v := (-6)) hx hb dX6_make_16 (by decide) ?_
  refine lv_icmp_ne (tgt := 24) hx hb dX6_make_18 (by decide) (fun c_2 => ?_) (fun c_2 => by exfalso; exact zn6 hfr c_2)
  refine lv_aload_n hx hb dX6_make_24 rfl (lv_at hl 1 rfl) ?_
  refine z_wrV (As := []) (rest := []) (q := (RX6, TX6, 11)) S hG (c_X6_record E hinj hct hok hrep hpa) 0 gX6_make_X6_record rfl kX6_record ⟨Nat.le_of_ble_eq_true rfl, Nat.le_of_ble_eq_true rfl⟩ ⟨Nat.zero_le _, Nat.zero_le _⟩ (⟨h0, h1, h2, h3, h4, h5, h6⟩) rfl h0 rfl hl.1 rfl rfl (Nat.le_of_ble_eq_true rfl) dX6_make_25 hS (fun _ h => h) (fun Hn locs h_4 q_3 o_5 hS => ?_)
  have hz : Hn.size = H.size := q_3.trans hz
  obtain ⟨past, ⟨h0, h1, h2, h3, h4, h5, h6⟩, hpa⟩ := h_4
  refine lv_aload_n hx hb dX6_make_28 rfl (lv_at hl 1 rfl) ?_
  refine lv_iload_n hx hb dX6_make_29 rfl (lv_at hl 0 rfl) ?_
  refine lv_iload_n hx hb dX6_make_30 rfl (lv_at hl 2 rfl) ?_
  refine z_wrV (As := [.int (nI (zfd (zSz nw) 6)), .int (nI (w))]) (rest := []) (q := (RX6, TX6, 11)) S hG (c_X6_lies E hinj (i := zfd (zSz nw) 6) (n := w) hfr hw.b.2.1) 2 gX6_make_X6_lies rfl kX6_lies ⟨Nat.le_of_ble_eq_true rfl, Nat.le_of_ble_eq_true rfl⟩ ⟨Nat.zero_le _, Nat.zero_le _⟩ (⟨h0, h1, h2, h3, h4, h5, h6⟩) rfl h0 rfl hl.1 rfl rfl (Nat.le_of_ble_eq_true rfl) dX6_make_31 hS (fun _ h => h) (fun Hn locs h_7 q_6 o_8 hS => ?_)
  have hz : Hn.size = H.size := q_6.trans hz
  obtain ⟨h0, h1, h2, h3, h4, h5, h6⟩ := h_7
  refine lv_iload_n hx hb dX6_make_34 rfl (lv_at hl 0 rfl) ?_
  exact hret _ _ _ _ _ hS (hz) dX6_make_35 (rfl) (⟨_, _, _, _, _, _, _, _, ⟨h0, h1, h2, h3, h4, h5, h6⟩, zRep_rg hok.B hfr (fun q a b => zlz_o a) (zlz_r hw.b.2.1) hrep, hpa, hke, hbu⟩)

set_option maxHeartbeats 4000000 in
set_option maxRecDepth 100000 in
theorem c_X6_copy_0 (E : zEnv) {am : Nat → Nat} {nw sv : zS} {an : Bool} {hs : Nat → zS} {ct ln : Nat} {cd : Nat → Int32} {x : Int32} (hok : zOk nw) (hinj : zInM am) (hct : ct ≤ 5) (hq : zfnd (zSz nw) x = none) : zWR E yX6_copy wsX6_copy 3 67 [.ref (am 0), .int (x)] (fun H => zMW E am nw sv an hs ct ln cd H) (some (.int (-1))) (fun H => zMW E am nw sv an hs ct ln cd H) (zAM am) := by
  refine zWR.ofI (maxL := 4) rfl (Nat.le_of_ble_eq_true rfl) (fun p e s m args below meth c H Q hF hP hret ls hl => ?_)
  have S : CallFix p m c cX6_copy 4 s args wsX6_copy RX6 := hF.1
  have hG := hF.2
  obtain ⟨hx, hb, hml, hown, hts⟩ := id S
  have hS : va_S (zAM am) H H [] := va_S.rf
  obtain ⟨locs, hlocs⟩ : ∃ x : List Loc, x = [] := ⟨_, rfl⟩
  rw [← hlocs] at hS ⊢
  have hz : H.size = H.size := rfl
  obtain ⟨z, past, kept, buf, rg, td, tm, nb, ⟨h0, h1, h2, h3, h4, h5, h6⟩, hrep, hpa, hke, hbu⟩ := hP
  obtain ⟨r1, rwt, r3, r4, r5, r6, r7⟩ := id hrep
  have hl : lv_has ls 4 [(0, .ref (am 0)), (1, .int (x))] := hl
  have hin6 : ∀ w ∈ u_ws RX6 TX6 11, w ∈ wsX6_copy := by decide +kernel
  refine lv_aload_n hx hb dX6_copy_0 rfl (lv_at hl 0 rfl) ?_
  refine lv_iload_n hx hb dX6_copy_1 rfl (lv_at hl 1 rfl) ?_
  refine z_roV (As := [.int (x)]) (rest := []) (q := (RX6, TX6, 11)) S hG (c_X6_isBracelet_0 E (z := z) (fun t ht => (r3 t ht).1) hok.h16 hq) 1 gX6_copy_X6_isBracelet rfl kX6_isBracelet ⟨Nat.le_of_ble_eq_true rfl, Nat.le_of_ble_eq_true rfl⟩ ⟨Nat.zero_le _, Nat.zero_le _⟩ (⟨h0, h1⟩) rfl h0 rfl hl.1 rfl rfl (Nat.le_of_ble_eq_true rfl) dX6_copy_2 ?_
  refine z_fne (tgt := 10) hx hb dX6_copy_5 (by decide) (by omega) (fun c_1 => by exfalso; omega) (fun c_1 => ?_)
  refine lv_iconst (v := (-1)) hx hb dX6_copy_8 (by decide) ?_
  exact hret _ _ _ _ _ hS (hz) dX6_copy_9 (rfl) (⟨_, _, _, _, _, _, _, _, ⟨h0, h1, h2, h3, h4, h5, h6⟩, hrep, hpa, hke, hbu⟩)

set_option maxHeartbeats 4000000 in
set_option maxRecDepth 100000 in
theorem c_X6_copy_1 (E : zEnv) {am : Nat → Nat} {nw sv : zS} {an : Bool} {hs : Nat → zS} {ct ln : Nat} {cd : Nat → Int32} {r : Nat} (hok : zOk nw) (hinj : zInM am) (hct : ct ≤ 5) (hr : r < 6) (hr0 : zSz nw r ≠ 0) (hbx : zall (fun t => decide (nI (zcn (zKd nw r) (nI (t + 1)) (zSz nw r)) ≤ zBx nw (t + 1))) 5 = false) : zWR E yX6_copy wsX6_copy 3 67 [.ref (am 0), .int (nI (r))] (fun H => zMW E am nw sv an hs ct ln cd H) (some (.int (-3))) (fun H => zMW E am nw sv an hs ct ln cd H) (zAM am) := by
  refine zWR.ofI (maxL := 4) rfl (Nat.le_of_ble_eq_true rfl) (fun p e s m args below meth c H Q hF hP hret ls hl => ?_)
  have S : CallFix p m c cX6_copy 4 s args wsX6_copy RX6 := hF.1
  have hG := hF.2
  obtain ⟨hx, hb, hml, hown, hts⟩ := id S
  have hS : va_S (zAM am) H H [] := va_S.rf
  obtain ⟨locs, hlocs⟩ : ∃ x : List Loc, x = [] := ⟨_, rfl⟩
  rw [← hlocs] at hS ⊢
  have hz : H.size = H.size := rfl
  obtain ⟨z, past, kept, buf, rg, td, tm, nb, ⟨h0, h1, h2, h3, h4, h5, h6⟩, hrep, hpa, hke, hbu⟩ := hP
  obtain ⟨r1, rwt, r3, r4, r5, r6, r7⟩ := id hrep
  have hn := hok.sz hr hr0
  have hl : lv_has ls 4 [(0, .ref (am 0)), (1, .int (nI (r)))] := hl
  have hin6 : ∀ w ∈ u_ws RX6 TX6 11, w ∈ wsX6_copy := by decide +kernel
  refine lv_aload_n hx hb dX6_copy_0 rfl (lv_at hl 0 rfl) ?_
  refine lv_iload_n hx hb dX6_copy_1 rfl (lv_at hl 1 rfl) ?_
  refine z_roV (As := [.int (nI (r))]) (rest := []) (q := (RX6, TX6, 11)) S hG (c_X6_isBracelet_1 E (z := z) hr (hok.sz hr hr0) (r3 r hr).1) 1 gX6_copy_X6_isBracelet rfl kX6_isBracelet ⟨Nat.le_of_ble_eq_true rfl, Nat.le_of_ble_eq_true rfl⟩ ⟨Nat.zero_le _, Nat.zero_le _⟩ (⟨h0, h1⟩) rfl h0 rfl hl.1 rfl rfl (Nat.le_of_ble_eq_true rfl) dX6_copy_2 ?_
  refine z_fne (tgt := 10) hx hb dX6_copy_5 (by decide) (by omega) (fun c_1 => ?_) (fun c_1 => by exfalso; omega)
  refine lv_iconst (v := nI (1)) hx hb dX6_copy_10 (by decide) ?_
  refine lv_istore_n (lv' := [(2, .int (nI (1))), (0, .ref (am 0)), (1, .int (nI (r)))]) hx hb dX6_copy_11 rfl hl (by decide) rfl (fun ls hl => ?_)
  have L12 : ∀ (dd : Nat) (t : Nat), 5 - t < dd → (t ≤ 5) → (zall (fun t => decide (nI (zcn (zKd nw r) (nI (t + 1)) (zSz nw r)) ≤ zBx nw (t + 1))) t = true) → ∀ (Hn : Heap) (locs : List Loc) (hS : va_S (zAM am) H Hn locs) (hz : Hn.size = H.size) (hX : zMX E am z past ct kept an buf ln rg td tm nb Hn) (ls : Array Slot), lv_has ls 4 [(0, .ref (am 0)), (1, .int (nI (r))), (2, .int (nI (t + 1)))] → W p (zl E) e (zRm 3 67) s m args below meth c Hn locs 0 0 Q (F0 m 12 ls []) := by
    intro dd
    induction dd with
    | zero => intro t hdd; exact absurd hdd (Nat.not_lt_zero _)
    | succ dd ih12 =>
      intro t hdd12 ht5 hz5 Hn locs hS hz hX ls hl
      obtain ⟨h0, h1, h2, h3, h4, h5, h6⟩ := hX
      refine lv_iload_n hx hb dX6_copy_12 rfl (lv_at hl 2 rfl) ?_
      refine lv_iconst (v := nI (5)) hx hb dX6_copy_13 (by decide) ?_
      refine z_cgt (tgt := 45) hx hb dX6_copy_14 (by decide) ⟨by omega, by omega⟩ (fun c_2 => by exfalso; rw [show t = 5 by omega, hbx] at hz5; cases hz5) (fun c_2 => ?_)
      refine lv_aload_n hx hb dX6_copy_17 rfl (lv_at hl 0 rfl) ?_
      refine z_get (ref := RX6) (C := RX6) (T := TX6) (N := 11) hx hb hts hin6 hown hG h0 rfl 0 (by decide) (by decide +kernel) rfl rfl dX6_copy_18 ?_
      refine lv_iconst (v := nI (0)) hx hb dX6_copy_21 (by decide) ?_
      refine lv_iload_n hx hb dX6_copy_22 rfl (lv_at hl 2 rfl) ?_
      refine z_iadd hx hb dX6_copy_23 ?_
      refine lv_iconst (v := nI (1)) hx hb dX6_copy_24 (by decide) ?_
      refine z_isub hx hb dX6_copy_25 (by omega) ?_
      refine z_iald (j := (0 + (t + 1)) - 1) hx hb hG h1 ⟨by omega, by omega⟩ dX6_copy_26 ?_
      refine z_top (y := (zBx nw (t + 1))) (r1 (t + 1) (by omega) (by omega)) ?_
      refine lv_aload_n hx hb dX6_copy_27 rfl (lv_at hl 0 rfl) ?_
      refine lv_iload_n hx hb dX6_copy_28 rfl (lv_at hl 1 rfl) ?_
      refine lv_iload_n hx hb dX6_copy_29 rfl (lv_at hl 2 rfl) ?_
      refine z_roV (As := [.int (nI (r)), .int (nI (t + 1))]) (rest := [.int (zBx nw (t + 1))]) (q := (RX6, TX6, 11)) S hG (c_X6_hung E (z := z) (i := r) (x := nI (t + 1)) (n := (zSz nw r)) (f := (zKd nw r)) hr hn.2 (r3 r hr)) 2 gX6_copy_X6_hung rfl kX6_hung ⟨Nat.le_of_ble_eq_true rfl, Nat.le_of_ble_eq_true rfl⟩ ⟨Nat.zero_le _, Nat.zero_le _⟩ (⟨h0, h1⟩) rfl h0 rfl hl.1 rfl rfl (Nat.le_of_ble_eq_true rfl) dX6_copy_30 ?_
      refine lv_icmp_ge (tgt := 39) hx hb dX6_copy_33 (by decide) (fun c_3 => ?_) (fun c_3 => ?_)
      · refine lv_iinc (v := nI (t + 1 + 1)) (lv' := [(2, .int (nI (t + 1 + 1))), (0, .ref (am 0)), (1, .int (nI (r)))]) hx hb dX6_copy_39 hl (k := 2) rfl (z_inc1 _) (by decide) rfl (fun ls hl => ?_)
        refine lv_goto (tgt := 12) hx hb dX6_copy_42 (by decide) ?_
        have hl9 := lv_sub hl [1, 2, 0] (l' := [(0, .ref (am 0)), (1, .int (nI (r))), (2, .int (nI (t + 1 + 1)))]) rfl
        have e9_2 : (t + 1 + 1) = ((t + 1) + 1) := by omega
        exact ih12 (t + 1) (by omega) (by omega) (zall_t hz5 (decide_eq_true c_3)) _ _ hS hz (⟨h0, h1, h2, h3, h4, h5, h6⟩) ls (by rw [← e9_2]; exact hl9)
      · refine lv_bipush (v := (-3)) hx hb dX6_copy_36 (by decide) ?_
        exact hret _ _ _ _ _ hS (hz) dX6_copy_38 (rfl) (⟨_, _, _, _, _, _, _, _, ⟨h0, h1, h2, h3, h4, h5, h6⟩, hrep, hpa, hke, hbu⟩)
  exact L12 ((5 - (0)) + 1) (0) (Nat.lt_succ_self _) (by decide) (rfl) _ _ hS hz (⟨h0, h1, h2, h3, h4, h5, h6⟩) ls (lv_sub hl [1, 2, 0] rfl)

set_option maxHeartbeats 4000000 in
set_option maxRecDepth 100000 in
theorem c_X6_copy_2 (E : zEnv) {am : Nat → Nat} {nw sv : zS} {an : Bool} {hs : Nat → zS} {ct ln : Nat} {cd : Nat → Int32} {r : Nat} (hok : zOk nw) (hinj : zInM am) (hct : ct ≤ 5) (hr : r < 6) (hr0 : zSz nw r ≠ 0) (hbx : zall (fun t => decide (nI (zcn (zKd nw r) (nI (t + 1)) (zSz nw r)) ≤ zBx nw (t + 1))) 5 = true) (hfr : zfd (zSz nw) 6 = 6) : zWR E yX6_copy wsX6_copy 3 67 [.ref (am 0), .int (nI (r))] (fun H => zMW E am nw sv an hs ct ln cd H) (some (.int (-4))) (fun H => zMW E am nw sv an hs ct ln cd H) (zAM am) := by
  refine zWR.ofI (maxL := 4) rfl (Nat.le_of_ble_eq_true rfl) (fun p e s m args below meth c H Q hF hP hret ls hl => ?_)
  have S : CallFix p m c cX6_copy 4 s args wsX6_copy RX6 := hF.1
  have hG := hF.2
  obtain ⟨hx, hb, hml, hown, hts⟩ := id S
  have hS : va_S (zAM am) H H [] := va_S.rf
  obtain ⟨locs, hlocs⟩ : ∃ x : List Loc, x = [] := ⟨_, rfl⟩
  rw [← hlocs] at hS ⊢
  have hz : H.size = H.size := rfl
  obtain ⟨z, past, kept, buf, rg, td, tm, nb, ⟨h0, h1, h2, h3, h4, h5, h6⟩, hrep, hpa, hke, hbu⟩ := hP
  obtain ⟨r1, rwt, r3, r4, r5, r6, r7⟩ := id hrep
  have hn := hok.sz hr hr0
  have hl : lv_has ls 4 [(0, .ref (am 0)), (1, .int (nI (r)))] := hl
  have hin6 : ∀ w ∈ u_ws RX6 TX6 11, w ∈ wsX6_copy := by decide +kernel
  refine lv_aload_n hx hb dX6_copy_0 rfl (lv_at hl 0 rfl) ?_
  refine lv_iload_n hx hb dX6_copy_1 rfl (lv_at hl 1 rfl) ?_
  refine z_roV (As := [.int (nI (r))]) (rest := []) (q := (RX6, TX6, 11)) S hG (c_X6_isBracelet_1 E (z := z) hr (hok.sz hr hr0) (r3 r hr).1) 1 gX6_copy_X6_isBracelet rfl kX6_isBracelet ⟨Nat.le_of_ble_eq_true rfl, Nat.le_of_ble_eq_true rfl⟩ ⟨Nat.zero_le _, Nat.zero_le _⟩ (⟨h0, h1⟩) rfl h0 rfl hl.1 rfl rfl (Nat.le_of_ble_eq_true rfl) dX6_copy_2 ?_
  refine z_fne (tgt := 10) hx hb dX6_copy_5 (by decide) (by omega) (fun c_1 => ?_) (fun c_1 => by exfalso; omega)
  refine lv_iconst (v := nI (1)) hx hb dX6_copy_10 (by decide) ?_
  refine lv_istore_n (lv' := [(2, .int (nI (1))), (0, .ref (am 0)), (1, .int (nI (r)))]) hx hb dX6_copy_11 rfl hl (by decide) rfl (fun ls hl => ?_)
  have L12 : ∀ (dd : Nat) (t : Nat), 5 - t < dd → (t ≤ 5) → (zall (fun t => decide (nI (zcn (zKd nw r) (nI (t + 1)) (zSz nw r)) ≤ zBx nw (t + 1))) t = true) → ∀ (Hn : Heap) (locs : List Loc) (hS : va_S (zAM am) H Hn locs) (hz : Hn.size = H.size) (hX : zMX E am z past ct kept an buf ln rg td tm nb Hn) (ls : Array Slot), lv_has ls 4 [(0, .ref (am 0)), (1, .int (nI (r))), (2, .int (nI (t + 1)))] → W p (zl E) e (zRm 3 67) s m args below meth c Hn locs 0 0 Q (F0 m 12 ls []) := by
    intro dd
    induction dd with
    | zero => intro t hdd; exact absurd hdd (Nat.not_lt_zero _)
    | succ dd ih12 =>
      intro t hdd12 ht5 hz5 Hn locs hS hz hX ls hl
      obtain ⟨h0, h1, h2, h3, h4, h5, h6⟩ := hX
      refine lv_iload_n hx hb dX6_copy_12 rfl (lv_at hl 2 rfl) ?_
      refine lv_iconst (v := nI (5)) hx hb dX6_copy_13 (by decide) ?_
      refine z_cgt (tgt := 45) hx hb dX6_copy_14 (by decide) ⟨by omega, by omega⟩ (fun c_2 => ?_) (fun c_2 => ?_)
      · refine lv_aload_n hx hb dX6_copy_45 rfl (lv_at hl 0 rfl) ?_
        refine z_roV (As := []) (rest := []) (q := (RX6, TX6, 11)) S hG (c_X6_free E (z := z) (fun t ht => (r3 t ht).1) hok.h16) 0 gX6_copy_X6_free rfl kX6_free ⟨Nat.le_of_ble_eq_true rfl, Nat.le_of_ble_eq_true rfl⟩ ⟨Nat.zero_le _, Nat.zero_le _⟩ (⟨h0, h1⟩) rfl h0 rfl hl.1 rfl rfl (Nat.le_of_ble_eq_true rfl) dX6_copy_46 ?_
        refine z_top (y := (-6)) (by rw [hfr]; rfl) ?_
        refine lv_istore_n (lv' := [(2, .int (-6)), (0, .ref (am 0)), (1, .int (nI (r)))]) hx hb dX6_copy_49 rfl hl (by decide) rfl (fun ls hl => ?_)
        refine lv_iload_n hx hb dX6_copy_50 rfl (lv_at hl 0 rfl) ?_
        refine lv_bipush (v := (-6)) hx hb dX6_copy_51 (by decide) ?_
        refine lv_icmp_ne (tgt := 59) hx hb dX6_copy_53 (by decide) (fun c_3 => by exfalso; exact c_3 rfl) (fun c_3 => ?_)
        refine lv_bipush (v := (-4)) hx hb dX6_copy_56 (by decide) ?_
        exact hret _ _ _ _ _ hS (hz) dX6_copy_58 (rfl) (⟨_, _, _, _, _, _, _, _, ⟨h0, h1, h2, h3, h4, h5, h6⟩, hrep, hpa, hke, hbu⟩)
      · refine lv_aload_n hx hb dX6_copy_17 rfl (lv_at hl 0 rfl) ?_
        refine z_get (ref := RX6) (C := RX6) (T := TX6) (N := 11) hx hb hts hin6 hown hG h0 rfl 0 (by decide) (by decide +kernel) rfl rfl dX6_copy_18 ?_
        refine lv_iconst (v := nI (0)) hx hb dX6_copy_21 (by decide) ?_
        refine lv_iload_n hx hb dX6_copy_22 rfl (lv_at hl 2 rfl) ?_
        refine z_iadd hx hb dX6_copy_23 ?_
        refine lv_iconst (v := nI (1)) hx hb dX6_copy_24 (by decide) ?_
        refine z_isub hx hb dX6_copy_25 (by omega) ?_
        refine z_iald (j := (0 + (t + 1)) - 1) hx hb hG h1 ⟨by omega, by omega⟩ dX6_copy_26 ?_
        refine z_top (y := (zBx nw (t + 1))) (r1 (t + 1) (by omega) (by omega)) ?_
        refine lv_aload_n hx hb dX6_copy_27 rfl (lv_at hl 0 rfl) ?_
        refine lv_iload_n hx hb dX6_copy_28 rfl (lv_at hl 1 rfl) ?_
        refine lv_iload_n hx hb dX6_copy_29 rfl (lv_at hl 2 rfl) ?_
        refine z_roV (As := [.int (nI (r)), .int (nI (t + 1))]) (rest := [.int (zBx nw (t + 1))]) (q := (RX6, TX6, 11)) S hG (c_X6_hung E (z := z) (i := r) (x := nI (t + 1)) (n := (zSz nw r)) (f := (zKd nw r)) hr hn.2 (r3 r hr)) 2 gX6_copy_X6_hung rfl kX6_hung ⟨Nat.le_of_ble_eq_true rfl, Nat.le_of_ble_eq_true rfl⟩ ⟨Nat.zero_le _, Nat.zero_le _⟩ (⟨h0, h1⟩) rfl h0 rfl hl.1 rfl rfl (Nat.le_of_ble_eq_true rfl) dX6_copy_30 ?_
        refine lv_icmp_ge (tgt := 39) hx hb dX6_copy_33 (by decide) (fun c_4 => ?_) (fun c_4 => by exfalso; have e9 := zall_iff.mp hbx t (by omega); exact absurd (of_decide_eq_true e9) c_4)
        refine lv_iinc (v := nI (t + 1 + 1)) (lv' := [(2, .int (nI (t + 1 + 1))), (0, .ref (am 0)), (1, .int (nI (r)))]) hx hb dX6_copy_39 hl (k := 2) rfl (z_inc1 _) (by decide) rfl (fun ls hl => ?_)
        refine lv_goto (tgt := 12) hx hb dX6_copy_42 (by decide) ?_
        have hl9 := lv_sub hl [1, 2, 0] (l' := [(0, .ref (am 0)), (1, .int (nI (r))), (2, .int (nI (t + 1 + 1)))]) rfl
        have e9_2 : (t + 1 + 1) = ((t + 1) + 1) := by omega
        exact ih12 (t + 1) (by omega) (by omega) (zall_t hz5 (decide_eq_true c_4)) _ _ hS hz (⟨h0, h1, h2, h3, h4, h5, h6⟩) ls (by rw [← e9_2]; exact hl9)
  exact L12 ((5 - (0)) + 1) (0) (Nat.lt_succ_self _) (by decide) (rfl) _ _ hS hz (⟨h0, h1, h2, h3, h4, h5, h6⟩) ls (lv_sub hl [1, 2, 0] rfl)

set_option maxHeartbeats 4000000 in
set_option maxRecDepth 100000 in
theorem c_X6_copy_3 (E : zEnv) {am : Nat → Nat} {nw sv : zS} {an : Bool} {hs : Nat → zS} {ct ln : Nat} {cd : Nat → Int32} {r : Nat} (hok : zOk nw) (hinj : zInM am) (hct : ct ≤ 5) (hr : r < 6) (hr0 : zSz nw r ≠ 0) (hbx : zall (fun t => decide (nI (zcn (zKd nw r) (nI (t + 1)) (zSz nw r)) ≤ zBx nw (t + 1))) 5 = true) (hfr : zfd (zSz nw) 6 < 6) : zWR E yX6_copy wsX6_copy 3 67 [.ref (am 0), .int (nI (r))] (fun H => zMW E am nw sv an hs ct ln cd H) (some (.int (nI (zfd (zSz nw) 6)))) (fun H => zMW E am (zsRg (zsBx nw (zto (zBx nw) (fun t => zcn (zKd nw r) (nI t) (zSz nw r)) 5)) (zfd (zSz nw) 6) (zSz nw r) (zKd nw r)) sv an (zrH hs ct nw) (zrC ct) ln cd H) (zAM am) := by
  refine zWR.ofI (maxL := 4) rfl (Nat.le_of_ble_eq_true rfl) (fun p e s m args below meth c H Q hF hP hret ls hl => ?_)
  have S : CallFix p m c cX6_copy 4 s args wsX6_copy RX6 := hF.1
  have hG := hF.2
  obtain ⟨hx, hb, hml, hown, hts⟩ := id S
  have hS : va_S (zAM am) H H [] := va_S.rf
  obtain ⟨locs, hlocs⟩ : ∃ x : List Loc, x = [] := ⟨_, rfl⟩
  rw [← hlocs] at hS ⊢
  have hz : H.size = H.size := rfl
  obtain ⟨z, past, kept, buf, rg, td, tm, nb, ⟨h0, h1, h2, h3, h4, h5, h6⟩, hrep, hpa, hke, hbu⟩ := hP
  obtain ⟨r1, rwt, r3, r4, r5, r6, r7⟩ := id hrep
  have hn := hok.sz hr hr0
  have hne9 : r ≠ zfd (zSz nw) 6 := fun w => hr0 (by rw [w]; exact zfd_0 rfl hfr)
  have hlz : zmr (zlz z (zfd (zSz nw) 6) (zSz nw r) 16) (zfd (zSz nw) 6) (zSz nw r) (fun _ => 0) := zlz_r hn.2
  have hzo : ∀ (s9 : Nat), s9 ≤ (zSz nw r) → ∀ k, (10 + 17 * r ≤ k ∧ k < 10 + 17 * r + 17) → (zwr (zlz z (zfd (zSz nw) 6) (zSz nw r) 16) (zfd (zSz nw) 6) (zKd nw r) s9) k = z k := fun s9 h9 k hk9 => (zwr_o (by omega) (by omega)).trans (zlz_o (by omega))
  have hl : lv_has ls 4 [(0, .ref (am 0)), (1, .int (nI (r)))] := hl
  have hin6 : ∀ w ∈ u_ws RX6 TX6 11, w ∈ wsX6_copy := by decide +kernel
  refine lv_aload_n hx hb dX6_copy_0 rfl (lv_at hl 0 rfl) ?_
  refine lv_iload_n hx hb dX6_copy_1 rfl (lv_at hl 1 rfl) ?_
  refine z_roV (As := [.int (nI (r))]) (rest := []) (q := (RX6, TX6, 11)) S hG (c_X6_isBracelet_1 E (z := z) hr (hok.sz hr hr0) (r3 r hr).1) 1 gX6_copy_X6_isBracelet rfl kX6_isBracelet ⟨Nat.le_of_ble_eq_true rfl, Nat.le_of_ble_eq_true rfl⟩ ⟨Nat.zero_le _, Nat.zero_le _⟩ (⟨h0, h1⟩) rfl h0 rfl hl.1 rfl rfl (Nat.le_of_ble_eq_true rfl) dX6_copy_2 ?_
  refine z_fne (tgt := 10) hx hb dX6_copy_5 (by decide) (by omega) (fun c_1 => ?_) (fun c_1 => by exfalso; omega)
  refine lv_iconst (v := nI (1)) hx hb dX6_copy_10 (by decide) ?_
  refine lv_istore_n (lv' := [(2, .int (nI (1))), (0, .ref (am 0)), (1, .int (nI (r)))]) hx hb dX6_copy_11 rfl hl (by decide) rfl (fun ls hl => ?_)
  have L12 : ∀ (dd : Nat) (t : Nat), 5 - t < dd → (t ≤ 5) → (zall (fun t => decide (nI (zcn (zKd nw r) (nI (t + 1)) (zSz nw r)) ≤ zBx nw (t + 1))) t = true) → ∀ (Hn : Heap) (locs : List Loc) (hS : va_S (zAM am) H Hn locs) (hz : Hn.size = H.size) (hX : zMX E am z past ct kept an buf ln rg td tm nb Hn) (ls : Array Slot), lv_has ls 4 [(0, .ref (am 0)), (1, .int (nI (r))), (2, .int (nI (t + 1)))] → W p (zl E) e (zRm 3 67) s m args below meth c Hn locs 0 0 Q (F0 m 12 ls []) := by
    intro dd
    induction dd with
    | zero => intro t hdd; exact absurd hdd (Nat.not_lt_zero _)
    | succ dd ih12 =>
      intro t hdd12 ht5 hz5 Hn locs hS hz hX ls hl
      obtain ⟨h0, h1, h2, h3, h4, h5, h6⟩ := hX
      refine lv_iload_n hx hb dX6_copy_12 rfl (lv_at hl 2 rfl) ?_
      refine lv_iconst (v := nI (5)) hx hb dX6_copy_13 (by decide) ?_
      refine z_cgt (tgt := 45) hx hb dX6_copy_14 (by decide) ⟨by omega, by omega⟩ (fun c_2 => ?_) (fun c_2 => ?_)
      · refine lv_aload_n hx hb dX6_copy_45 rfl (lv_at hl 0 rfl) ?_
        refine z_roV (As := []) (rest := []) (q := (RX6, TX6, 11)) S hG (c_X6_free E (z := z) (fun t ht => (r3 t ht).1) hok.h16) 0 gX6_copy_X6_free rfl kX6_free ⟨Nat.le_of_ble_eq_true rfl, Nat.le_of_ble_eq_true rfl⟩ ⟨Nat.zero_le _, Nat.zero_le _⟩ (⟨h0, h1⟩) rfl h0 rfl hl.1 rfl rfl (Nat.le_of_ble_eq_true rfl) dX6_copy_46 ?_
        refine z_top (y := nI (zfd (zSz nw) 6)) (zfi_n hfr) ?_
        refine lv_istore_n (lv' := [(2, .int (nI (zfd (zSz nw) 6))), (0, .ref (am 0)), (1, .int (nI (r)))]) hx hb dX6_copy_49 rfl hl (by decide) rfl (fun ls hl => ?_)
        refine lv_iload_n hx hb dX6_copy_50 rfl (lv_at hl 0 rfl) ?_
        refine lv_bipush (v := (-6)) hx hb dX6_copy_51 (by decide) ?_
        refine lv_icmp_ne (tgt := 59) hx hb dX6_copy_53 (by decide) (fun c_3 => ?_) (fun c_3 => by exfalso; exact zn6 hfr c_3)
        refine lv_aload_n hx hb dX6_copy_59 rfl (lv_at hl 1 rfl) ?_
        refine z_wrV (As := []) (rest := []) (q := (RX6, TX6, 11)) S hG (c_X6_record E hinj hct hok hrep hpa) 0 gX6_copy_X6_record rfl kX6_record ⟨Nat.le_of_ble_eq_true rfl, Nat.le_of_ble_eq_true rfl⟩ ⟨Nat.zero_le _, Nat.zero_le _⟩ (⟨h0, h1, h2, h3, h4, h5, h6⟩) rfl h0 rfl hl.1 rfl rfl (Nat.le_of_ble_eq_true rfl) dX6_copy_60 hS (fun _ h => h) (fun Hn locs h_5 q_4 o_6 hS => ?_)
        have hz : Hn.size = H.size := q_4.trans hz
        obtain ⟨past, ⟨h0, h1, h2, h3, h4, h5, h6⟩, hpa⟩ := h_5
        refine lv_aload_n hx hb dX6_copy_63 rfl (lv_at hl 1 rfl) ?_
        refine lv_iload_n hx hb dX6_copy_64 rfl (lv_at hl 0 rfl) ?_
        refine lv_aload_n hx hb dX6_copy_65 rfl (lv_at hl 1 rfl) ?_
        refine lv_iload_n hx hb dX6_copy_66 rfl (lv_at hl 2 rfl) ?_
        refine z_roV (As := [.int (nI (r))]) (rest := [.int (nI (zfd (zSz nw) 6)), .ref (am 0)]) (q := (RX6, TX6, 11)) S hG (c_X6_slots E (z := z) (i := r) (n := (zSz nw r)) hr (r3 r hr).1) 1 gX6_copy_X6_slots rfl kX6_slots ⟨Nat.le_of_ble_eq_true rfl, Nat.le_of_ble_eq_true rfl⟩ ⟨Nat.zero_le _, Nat.zero_le _⟩ (⟨h0, h1⟩) rfl h0 rfl hl.1 rfl rfl (Nat.le_of_ble_eq_true rfl) dX6_copy_67 ?_
        refine z_wrV (As := [.int (nI (zfd (zSz nw) 6)), .int (nI ((zSz nw r)))]) (rest := []) (q := (RX6, TX6, 11)) S hG (c_X6_lies E hinj (i := zfd (zSz nw) 6) (n := (zSz nw r)) hfr hn.2) 2 gX6_copy_X6_lies rfl kX6_lies ⟨Nat.le_of_ble_eq_true rfl, Nat.le_of_ble_eq_true rfl⟩ ⟨Nat.zero_le _, Nat.zero_le _⟩ (⟨h0, h1, h2, h3, h4, h5, h6⟩) rfl h0 rfl hl.1 rfl rfl (Nat.le_of_ble_eq_true rfl) dX6_copy_70 hS (fun _ h => h) (fun Hn locs h_8 q_7 o_9 hS => ?_)
        have hz : Hn.size = H.size := q_7.trans hz
        obtain ⟨h0, h1, h2, h3, h4, h5, h6⟩ := h_8
        refine lv_iconst (v := nI (0)) hx hb dX6_copy_73 (by decide) ?_
        refine lv_istore_n (lv' := [(3, .int (nI (0))), (2, .int (nI (zfd (zSz nw) 6))), (0, .ref (am 0)), (1, .int (nI (r)))]) hx hb dX6_copy_74 rfl hl (by decide) rfl (fun ls hl => ?_)
        have L75 : ∀ (dd : Nat) (s9 : Nat), (zSz nw r) - s9 < dd → (s9 ≤ (zSz nw r)) → ∀ (Hn : Heap) (locs : List Loc) (hS : va_S (zAM am) H Hn locs) (hz : Hn.size = H.size) (hX : zMX E am (zwr (zlz z (zfd (zSz nw) 6) (zSz nw r) 16) (zfd (zSz nw) 6) (zKd nw r) s9) past (zrC ct) kept an buf ln rg td tm nb Hn) (ls : Array Slot), lv_has ls 4 [(0, .ref (am 0)), (1, .int (nI (r))), (2, .int (nI (zfd (zSz nw) 6))), (3, .int (nI (s9)))] → W p (zl E) e (zRm 3 67) s m args below meth c Hn locs 0 0 Q (F0 m 75 ls []) := by
          intro dd
          induction dd with
          | zero => intro s9 hdd; exact absurd hdd (Nat.not_lt_zero _)
          | succ dd ih75 =>
            intro s9 hdd75 hs9 Hn locs hS hz hX ls hl
            obtain ⟨h0, h1, h2, h3, h4, h5, h6⟩ := hX
            refine lv_iload_n hx hb dX6_copy_75 rfl (lv_at hl 3 rfl) ?_
            refine lv_aload_n hx hb dX6_copy_76 rfl (lv_at hl 0 rfl) ?_
            refine lv_iload_n hx hb dX6_copy_77 rfl (lv_at hl 2 rfl) ?_
            refine z_roV (As := [.int (nI (zfd (zSz nw) 6))]) (rest := [.int (nI (s9))]) (q := (RX6, TX6, 11)) S hG (c_X6_slots E (z := (zwr (zlz z (zfd (zSz nw) 6) (zSz nw r) 16) (zfd (zSz nw) 6) (zKd nw r) s9)) (i := zfd (zSz nw) 6) (n := (zSz nw r)) hfr (zwr_h hlz.1)) 1 gX6_copy_X6_slots rfl kX6_slots ⟨Nat.le_of_ble_eq_true rfl, Nat.le_of_ble_eq_true rfl⟩ ⟨Nat.zero_le _, Nat.zero_le _⟩ (⟨h0, h1⟩) rfl h0 rfl hl.1 rfl rfl (Nat.le_of_ble_eq_true rfl) dX6_copy_78 ?_
            refine z_cge (tgt := 112) hx hb dX6_copy_81 (by decide) ⟨by omega, by omega⟩ (fun c_10 => ?_) (fun c_10 => ?_)
            · obtain rfl : s9 = (zSz nw r) := by omega
              refine lv_aload_n hx hb dX6_copy_112 rfl (lv_at hl 0 rfl) ?_
              refine lv_iload_n hx hb dX6_copy_113 rfl (lv_at hl 2 rfl) ?_
              refine lv_iconst (v := (-1)) hx hb dX6_copy_114 (by decide) ?_
              refine z_wrV (As := [.int (nI (zfd (zSz nw) 6)), .int (-1)]) (rest := []) (q := (RX6, TX6, 11)) S hG (c_X6_move E (z := (zwr (zlz z (zfd (zSz nw) 6) (zSz nw r) 16) (zfd (zSz nw) 6) (zKd nw r) (zSz nw r))) (i := zfd (zSz nw) 6) (n := (zSz nw r)) (f := (zKd nw r)) (d9 := -1) hinj hfr hn.2 (zwr_r hlz.1) (fun s hs => hok.2.1 r hr s hs)) 2 gX6_copy_X6_move rfl kX6_move ⟨Nat.le_of_ble_eq_true rfl, Nat.le_of_ble_eq_true rfl⟩ ⟨Nat.zero_le _, Nat.zero_le _⟩ (⟨h0, h1, h2, h3, h4, h5, h6⟩) rfl h0 rfl hl.1 rfl rfl (Nat.le_of_ble_eq_true rfl) dX6_copy_115 hS (fun _ h => h) (fun Hn locs h_12 q_11 o_13 hS => ?_)
              have hz : Hn.size = H.size := q_11.trans hz
              obtain ⟨h0, h1, h2, h3, h4, h5, h6⟩ := h_12
              refine lv_iload_n hx hb dX6_copy_118 rfl (lv_at hl 2 rfl) ?_
              exact hret _ _ _ _ _ hS (hz) dX6_copy_119 (rfl) (⟨_, _, _, _, _, _, _, _, ⟨h0, h1, h2, h3, h4, h5, h6⟩, zRep_to (v := zsRg nw (zfd (zSz nw) 6) (zSz nw r) (zKd nw r)) (zOkB_rg hok.B hfr hn.2) (fun s hs => hok.2.1 r hr s hs) (zRep_rg hok.B hfr (fun q a b => (zwr_o hn.2 a).trans (zlz_o a)) (zwr_r hlz.1) hrep), hpa, hke, hbu⟩)
            · refine lv_aload_n hx hb dX6_copy_84 rfl (lv_at hl 0 rfl) ?_
              refine z_get (ref := RX6) (C := RX6) (T := TX6) (N := 11) hx hb hts hin6 hown hG h0 rfl 0 (by decide) (by decide +kernel) rfl rfl dX6_copy_85 ?_
              refine lv_aload_n hx hb dX6_copy_88 rfl (lv_at hl 0 rfl) ?_
              refine lv_iload_n hx hb dX6_copy_89 rfl (lv_at hl 2 rfl) ?_
              refine lv_iload_n hx hb dX6_copy_90 rfl (lv_at hl 3 rfl) ?_
              refine z_roV (As := [.int (nI (zfd (zSz nw) 6)), .int (nI (s9))]) (rest := [.ref (am 1)]) (q := (RX6, TX6, 11)) S hG (c_X6_at E (z := (zwr (zlz z (zfd (zSz nw) 6) (zSz nw r) 16) (zfd (zSz nw) 6) (zKd nw r) s9)) (i := zfd (zSz nw) 6) (n := (zSz nw r)) (j := s9) hfr (zwr_h hlz.1) ⟨by omega, hn.2⟩) 2 gX6_copy_X6_at rfl kX6_at ⟨Nat.le_of_ble_eq_true rfl, Nat.le_of_ble_eq_true rfl⟩ ⟨Nat.zero_le _, Nat.zero_le _⟩ (⟨h0, h1⟩) rfl h0 rfl hl.1 rfl rfl (Nat.le_of_ble_eq_true rfl) dX6_copy_91 ?_
              refine lv_aload_n hx hb dX6_copy_94 rfl (lv_at hl 0 rfl) ?_
              refine z_get (ref := RX6) (C := RX6) (T := TX6) (N := 11) hx hb hts hin6 hown hG h0 rfl 0 (by decide) (by decide +kernel) rfl rfl dX6_copy_95 ?_
              refine lv_aload_n hx hb dX6_copy_98 rfl (lv_at hl 0 rfl) ?_
              refine lv_iload_n hx hb dX6_copy_99 rfl (lv_at hl 1 rfl) ?_
              refine lv_iload_n hx hb dX6_copy_100 rfl (lv_at hl 3 rfl) ?_
              refine z_roV (As := [.int (nI (r)), .int (nI (s9))]) (rest := [.ref (am 1), .int (nI (10 + 17 * (zfd (zSz nw) 6) + 1 + s9)), .ref (am 1)]) (q := (RX6, TX6, 11)) S hG (c_X6_at E (z := (zwr (zlz z (zfd (zSz nw) 6) (zSz nw r) 16) (zfd (zSz nw) 6) (zKd nw r) s9)) (i := r) (n := (zSz nw r)) (j := s9) hr (by rw [hzo s9 (by omega) _ (by omega)]; exact (r3 r hr).1) ⟨by omega, hn.2⟩) 2 gX6_copy_X6_at rfl kX6_at ⟨Nat.le_of_ble_eq_true rfl, Nat.le_of_ble_eq_true rfl⟩ ⟨Nat.zero_le _, Nat.zero_le _⟩ (⟨h0, h1⟩) rfl h0 rfl hl.1 rfl rfl (Nat.le_of_ble_eq_true rfl) dX6_copy_101 ?_
              refine z_iald (j := 10 + 17 * r + 1 + s9) hx hb hG h1 ⟨by omega, by omega⟩ dX6_copy_104 ?_
              refine z_top (y := ((zKd nw r) s9)) (by rw [hzo s9 (by omega) _ (by omega)]; exact (r3 r hr).2 s9 (by omega)) ?_
              refine z_iast (j := 10 + 17 * (zfd (zSz nw) 6) + 1 + s9) hx hb hG h1 ⟨by omega, by omega⟩ hS (⟨1, by decide, rfl⟩) dX6_copy_105 (fun Hn locs h_14 o_15 hS => ?_)
              have k_16 := va_at.kept h0 (o_15.2 _ (hinj.ne (by decide) (by decide) (by decide)))
              have k_17 := va_at.kept h2 (o_15.2 _ (hinj.ne (by decide) (by decide) (by decide)))
              have k_18 := va_at.kept h3 (o_15.2 _ (hinj.ne (by decide) (by decide) (by decide)))
              have k_19 := va_at.kept h4 (o_15.2 _ (hinj.ne (by decide) (by decide) (by decide)))
              have k_20 := va_at.kept h5 (o_15.2 _ (hinj.ne (by decide) (by decide) (by decide)))
              have k_21 := va_at.kept h6 (o_15.2 _ (hinj.ne (by decide) (by decide) (by decide)))
              have hz : Hn.size = H.size := o_15.1.trans hz
              refine lv_iinc (v := nI (s9 + 1)) (lv' := [(3, .int (nI (s9 + 1))), (0, .ref (am 0)), (1, .int (nI (r))), (2, .int (nI (zfd (zSz nw) 6)))]) hx hb dX6_copy_106 hl (k := 3) rfl (z_inc1 _) (by decide) rfl (fun ls hl => ?_)
              refine lv_goto (tgt := 75) hx hb dX6_copy_109 (by decide) ?_
              have hl9 := lv_sub hl [1, 2, 3, 0] (l' := [(0, .ref (am 0)), (1, .int (nI (r))), (2, .int (nI (zfd (zSz nw) 6))), (3, .int (nI (s9 + 1)))]) rfl
              have e9_3 : (s9 + 1) = ((s9 + 1)) := by omega
              exact ih75 (s9 + 1) (by omega) (by omega) _ _ hS hz (by rw [← zwr_s]; exact ⟨k_16, h_14, k_17, k_18, k_19, k_20, k_21⟩) ls (by rw [← e9_3]; exact hl9)
        exact L75 (((zSz nw r) - (0)) + 1) (0) (Nat.lt_succ_self _) (Nat.zero_le _) _ _ hS hz (by rw [zwr_0]; exact ⟨h0, h1, h2, h3, h4, h5, h6⟩) ls (lv_sub hl [2, 3, 1, 0] rfl)
      · refine lv_aload_n hx hb dX6_copy_17 rfl (lv_at hl 0 rfl) ?_
        refine z_get (ref := RX6) (C := RX6) (T := TX6) (N := 11) hx hb hts hin6 hown hG h0 rfl 0 (by decide) (by decide +kernel) rfl rfl dX6_copy_18 ?_
        refine lv_iconst (v := nI (0)) hx hb dX6_copy_21 (by decide) ?_
        refine lv_iload_n hx hb dX6_copy_22 rfl (lv_at hl 2 rfl) ?_
        refine z_iadd hx hb dX6_copy_23 ?_
        refine lv_iconst (v := nI (1)) hx hb dX6_copy_24 (by decide) ?_
        refine z_isub hx hb dX6_copy_25 (by omega) ?_
        refine z_iald (j := (0 + (t + 1)) - 1) hx hb hG h1 ⟨by omega, by omega⟩ dX6_copy_26 ?_
        refine z_top (y := (zBx nw (t + 1))) (r1 (t + 1) (by omega) (by omega)) ?_
        refine lv_aload_n hx hb dX6_copy_27 rfl (lv_at hl 0 rfl) ?_
        refine lv_iload_n hx hb dX6_copy_28 rfl (lv_at hl 1 rfl) ?_
        refine lv_iload_n hx hb dX6_copy_29 rfl (lv_at hl 2 rfl) ?_
        refine z_roV (As := [.int (nI (r)), .int (nI (t + 1))]) (rest := [.int (zBx nw (t + 1))]) (q := (RX6, TX6, 11)) S hG (c_X6_hung E (z := z) (i := r) (x := nI (t + 1)) (n := (zSz nw r)) (f := (zKd nw r)) hr hn.2 (r3 r hr)) 2 gX6_copy_X6_hung rfl kX6_hung ⟨Nat.le_of_ble_eq_true rfl, Nat.le_of_ble_eq_true rfl⟩ ⟨Nat.zero_le _, Nat.zero_le _⟩ (⟨h0, h1⟩) rfl h0 rfl hl.1 rfl rfl (Nat.le_of_ble_eq_true rfl) dX6_copy_30 ?_
        refine lv_icmp_ge (tgt := 39) hx hb dX6_copy_33 (by decide) (fun c_22 => ?_) (fun c_22 => by exfalso; have e9 := zall_iff.mp hbx t (by omega); exact absurd (of_decide_eq_true e9) c_22)
        refine lv_iinc (v := nI (t + 1 + 1)) (lv' := [(2, .int (nI (t + 1 + 1))), (0, .ref (am 0)), (1, .int (nI (r)))]) hx hb dX6_copy_39 hl (k := 2) rfl (z_inc1 _) (by decide) rfl (fun ls hl => ?_)
        refine lv_goto (tgt := 12) hx hb dX6_copy_42 (by decide) ?_
        have hl9 := lv_sub hl [1, 2, 0] (l' := [(0, .ref (am 0)), (1, .int (nI (r))), (2, .int (nI (t + 1 + 1)))]) rfl
        have e9_2 : (t + 1 + 1) = ((t + 1) + 1) := by omega
        exact ih12 (t + 1) (by omega) (by omega) (zall_t hz5 (decide_eq_true c_22)) _ _ hS hz (⟨h0, h1, h2, h3, h4, h5, h6⟩) ls (by rw [← e9_2]; exact hl9)
  exact L12 ((5 - (0)) + 1) (0) (Nat.lt_succ_self _) (by decide) (rfl) _ _ hS hz (⟨h0, h1, h2, h3, h4, h5, h6⟩) ls (lv_sub hl [1, 2, 0] rfl)

set_option maxHeartbeats 4000000 in
set_option maxRecDepth 100000 in
theorem c_X6_remove_0 (E : zEnv) {am : Nat → Nat} {nw sv : zS} {an : Bool} {hs : Nat → zS} {ct ln : Nat} {cd : Nat → Int32} {x : Int32} (hok : zOk nw) (hinj : zInM am) (hct : ct ≤ 5) (hq : zfnd (zSz nw) x = none) : zWR E yX6_remove wsX6_remove 4 88 [.ref (am 0), .int (x)] (fun H => zMW E am nw sv an hs ct ln cd H) (some (.int (-1))) (fun H => zMW E am nw sv an hs ct ln cd H) (zAM am) := by
  refine zWR.ofI (maxL := 3) rfl (Nat.le_of_ble_eq_true rfl) (fun p e s m args below meth c H Q hF hP hret ls hl => ?_)
  have S : CallFix p m c cX6_remove 3 s args wsX6_remove RX6 := hF.1
  have hG := hF.2
  obtain ⟨hx, hb, hml, hown, hts⟩ := id S
  have hS : va_S (zAM am) H H [] := va_S.rf
  obtain ⟨locs, hlocs⟩ : ∃ x : List Loc, x = [] := ⟨_, rfl⟩
  rw [← hlocs] at hS ⊢
  have hz : H.size = H.size := rfl
  obtain ⟨z, past, kept, buf, rg, td, tm, nb, ⟨h0, h1, h2, h3, h4, h5, h6⟩, hrep, hpa, hke, hbu⟩ := hP
  obtain ⟨r1, rwt, r3, r4, r5, r6, r7⟩ := id hrep
  have hl : lv_has ls 3 [(0, .ref (am 0)), (1, .int (x))] := hl
  have hin6 : ∀ w ∈ u_ws RX6 TX6 11, w ∈ wsX6_remove := by decide +kernel
  refine lv_aload_n hx hb dX6_remove_0 rfl (lv_at hl 0 rfl) ?_
  refine lv_iload_n hx hb dX6_remove_1 rfl (lv_at hl 1 rfl) ?_
  refine z_roV (As := [.int (x)]) (rest := []) (q := (RX6, TX6, 11)) S hG (c_X6_isBracelet_0 E (z := z) (fun t ht => (r3 t ht).1) hok.h16 hq) 1 gX6_remove_X6_isBracelet rfl kX6_isBracelet ⟨Nat.le_of_ble_eq_true rfl, Nat.le_of_ble_eq_true rfl⟩ ⟨Nat.zero_le _, Nat.zero_le _⟩ (⟨h0, h1⟩) rfl h0 rfl hl.1 rfl rfl (Nat.le_of_ble_eq_true rfl) dX6_remove_2 ?_
  refine z_fne (tgt := 10) hx hb dX6_remove_5 (by decide) (by omega) (fun c_1 => by exfalso; omega) (fun c_1 => ?_)
  refine lv_iconst (v := (-1)) hx hb dX6_remove_8 (by decide) ?_
  exact hret _ _ _ _ _ hS (hz) dX6_remove_9 (rfl) (⟨_, _, _, _, _, _, _, _, ⟨h0, h1, h2, h3, h4, h5, h6⟩, hrep, hpa, hke, hbu⟩)

set_option maxHeartbeats 4000000 in
set_option maxRecDepth 100000 in
theorem c_X6_remove_1 (E : zEnv) {am : Nat → Nat} {nw sv : zS} {an : Bool} {hs : Nat → zS} {ct ln : Nat} {cd : Nat → Int32} {r : Nat} (hok : zOk nw) (hinj : zInM am) (hct : ct ≤ 5) (hr : r < 6) (hr0 : zSz nw r ≠ 0) (hbx : zall (fun t => decide (zBx nw (t + 1) + nI (zcn (zKd nw r) (nI (t + 1)) (zSz nw r)) ≤ nI 99)) 5 = false) : zWR E yX6_remove wsX6_remove 4 88 [.ref (am 0), .int (nI (r))] (fun H => zMW E am nw sv an hs ct ln cd H) (some (.int (-3))) (fun H => zMW E am nw sv an hs ct ln cd H) (zAM am) := by
  refine zWR.ofI (maxL := 3) rfl (Nat.le_of_ble_eq_true rfl) (fun p e s m args below meth c H Q hF hP hret ls hl => ?_)
  have S : CallFix p m c cX6_remove 3 s args wsX6_remove RX6 := hF.1
  have hG := hF.2
  obtain ⟨hx, hb, hml, hown, hts⟩ := id S
  have hS : va_S (zAM am) H H [] := va_S.rf
  obtain ⟨locs, hlocs⟩ : ∃ x : List Loc, x = [] := ⟨_, rfl⟩
  rw [← hlocs] at hS ⊢
  have hz : H.size = H.size := rfl
  obtain ⟨z, past, kept, buf, rg, td, tm, nb, ⟨h0, h1, h2, h3, h4, h5, h6⟩, hrep, hpa, hke, hbu⟩ := hP
  obtain ⟨r1, rwt, r3, r4, r5, r6, r7⟩ := id hrep
  have hn := hok.sz hr hr0
  have hl : lv_has ls 3 [(0, .ref (am 0)), (1, .int (nI (r)))] := hl
  have hin6 : ∀ w ∈ u_ws RX6 TX6 11, w ∈ wsX6_remove := by decide +kernel
  refine lv_aload_n hx hb dX6_remove_0 rfl (lv_at hl 0 rfl) ?_
  refine lv_iload_n hx hb dX6_remove_1 rfl (lv_at hl 1 rfl) ?_
  refine z_roV (As := [.int (nI (r))]) (rest := []) (q := (RX6, TX6, 11)) S hG (c_X6_isBracelet_1 E (z := z) hr (hok.sz hr hr0) (r3 r hr).1) 1 gX6_remove_X6_isBracelet rfl kX6_isBracelet ⟨Nat.le_of_ble_eq_true rfl, Nat.le_of_ble_eq_true rfl⟩ ⟨Nat.zero_le _, Nat.zero_le _⟩ (⟨h0, h1⟩) rfl h0 rfl hl.1 rfl rfl (Nat.le_of_ble_eq_true rfl) dX6_remove_2 ?_
  refine z_fne (tgt := 10) hx hb dX6_remove_5 (by decide) (by omega) (fun c_1 => ?_) (fun c_1 => by exfalso; omega)
  refine lv_iconst (v := nI (1)) hx hb dX6_remove_10 (by decide) ?_
  refine lv_istore_n (lv' := [(2, .int (nI (1))), (0, .ref (am 0)), (1, .int (nI (r)))]) hx hb dX6_remove_11 rfl hl (by decide) rfl (fun ls hl => ?_)
  have L12 : ∀ (dd : Nat) (t : Nat), 5 - t < dd → (t ≤ 5) → (zall (fun t => decide (zBx nw (t + 1) + nI (zcn (zKd nw r) (nI (t + 1)) (zSz nw r)) ≤ nI 99)) t = true) → ∀ (Hn : Heap) (locs : List Loc) (hS : va_S (zAM am) H Hn locs) (hz : Hn.size = H.size) (hX : zMX E am z past ct kept an buf ln rg td tm nb Hn) (ls : Array Slot), lv_has ls 3 [(0, .ref (am 0)), (1, .int (nI (r))), (2, .int (nI (t + 1)))] → W p (zl E) e (zRm 4 88) s m args below meth c Hn locs 0 0 Q (F0 m 12 ls []) := by
    intro dd
    induction dd with
    | zero => intro t hdd; exact absurd hdd (Nat.not_lt_zero _)
    | succ dd ih12 =>
      intro t hdd12 ht5 hz5 Hn locs hS hz hX ls hl
      obtain ⟨h0, h1, h2, h3, h4, h5, h6⟩ := hX
      refine lv_iload_n hx hb dX6_remove_12 rfl (lv_at hl 2 rfl) ?_
      refine lv_iconst (v := nI (5)) hx hb dX6_remove_13 (by decide) ?_
      refine z_cgt (tgt := 48) hx hb dX6_remove_14 (by decide) ⟨by omega, by omega⟩ (fun c_2 => by exfalso; rw [show t = 5 by omega, hbx] at hz5; cases hz5) (fun c_2 => ?_)
      refine lv_aload_n hx hb dX6_remove_17 rfl (lv_at hl 0 rfl) ?_
      refine z_get (ref := RX6) (C := RX6) (T := TX6) (N := 11) hx hb hts hin6 hown hG h0 rfl 0 (by decide) (by decide +kernel) rfl rfl dX6_remove_18 ?_
      refine lv_iconst (v := nI (0)) hx hb dX6_remove_21 (by decide) ?_
      refine lv_iload_n hx hb dX6_remove_22 rfl (lv_at hl 2 rfl) ?_
      refine z_iadd hx hb dX6_remove_23 ?_
      refine lv_iconst (v := nI (1)) hx hb dX6_remove_24 (by decide) ?_
      refine z_isub hx hb dX6_remove_25 (by omega) ?_
      refine z_iald (j := (0 + (t + 1)) - 1) hx hb hG h1 ⟨by omega, by omega⟩ dX6_remove_26 ?_
      refine z_top (y := (zBx nw (t + 1))) (r1 (t + 1) (by omega) (by omega)) ?_
      refine lv_aload_n hx hb dX6_remove_27 rfl (lv_at hl 0 rfl) ?_
      refine lv_iload_n hx hb dX6_remove_28 rfl (lv_at hl 1 rfl) ?_
      refine lv_iload_n hx hb dX6_remove_29 rfl (lv_at hl 2 rfl) ?_
      refine z_roV (As := [.int (nI (r)), .int (nI (t + 1))]) (rest := [.int (zBx nw (t + 1))]) (q := (RX6, TX6, 11)) S hG (c_X6_hung E (z := z) (i := r) (x := nI (t + 1)) (n := (zSz nw r)) (f := (zKd nw r)) hr hn.2 (r3 r hr)) 2 gX6_remove_X6_hung rfl kX6_hung ⟨Nat.le_of_ble_eq_true rfl, Nat.le_of_ble_eq_true rfl⟩ ⟨Nat.zero_le _, Nat.zero_le _⟩ (⟨h0, h1⟩) rfl h0 rfl hl.1 rfl rfl (Nat.le_of_ble_eq_true rfl) dX6_remove_30 ?_
      refine lv_iadd hx hb dX6_remove_33 ?_
      refine lv_bipush (v := nI (99)) hx hb dX6_remove_34 (by decide) ?_
      refine lv_icmp_le (tgt := 42) hx hb dX6_remove_36 (by decide) (fun c_3 => ?_) (fun c_3 => ?_)
      · refine lv_iinc (v := nI (t + 1 + 1)) (lv' := [(2, .int (nI (t + 1 + 1))), (0, .ref (am 0)), (1, .int (nI (r)))]) hx hb dX6_remove_42 hl (k := 2) rfl (z_inc1 _) (by decide) rfl (fun ls hl => ?_)
        refine lv_goto (tgt := 12) hx hb dX6_remove_45 (by decide) ?_
        have hl9 := lv_sub hl [1, 2, 0] (l' := [(0, .ref (am 0)), (1, .int (nI (r))), (2, .int (nI (t + 1 + 1)))]) rfl
        have e9_2 : (t + 1 + 1) = ((t + 1) + 1) := by omega
        exact ih12 (t + 1) (by omega) (by omega) (zall_t hz5 (decide_eq_true c_3)) _ _ hS hz (⟨h0, h1, h2, h3, h4, h5, h6⟩) ls (by rw [← e9_2]; exact hl9)
      · refine lv_bipush (v := (-3)) hx hb dX6_remove_39 (by decide) ?_
        exact hret _ _ _ _ _ hS (hz) dX6_remove_41 (rfl) (⟨_, _, _, _, _, _, _, _, ⟨h0, h1, h2, h3, h4, h5, h6⟩, hrep, hpa, hke, hbu⟩)
  exact L12 ((5 - (0)) + 1) (0) (Nat.lt_succ_self _) (by decide) (rfl) _ _ hS hz (⟨h0, h1, h2, h3, h4, h5, h6⟩) ls (lv_sub hl [1, 2, 0] rfl)

set_option maxHeartbeats 4000000 in
set_option maxRecDepth 100000 in
theorem c_X6_remove_2 (E : zEnv) {am : Nat → Nat} {nw sv : zS} {an : Bool} {hs : Nat → zS} {ct ln : Nat} {cd : Nat → Int32} {r : Nat} (hok : zOk nw) (hinj : zInM am) (hct : ct ≤ 5) (hr : r < 6) (hr0 : zSz nw r ≠ 0) (hbx : zall (fun t => decide (zBx nw (t + 1) + nI (zcn (zKd nw r) (nI (t + 1)) (zSz nw r)) ≤ nI 99)) 5 = true) : zWR E yX6_remove wsX6_remove 4 88 [.ref (am 0), .int (nI (r))] (fun H => zMW E am nw sv an hs ct ln cd H) (some (.int (nI ((zSz nw r) - zcn (zKd nw r) 0 (zSz nw r))))) (fun H => zMW E am (zsRg (zsBx nw (zti (zBx nw) (fun t => zcn (zKd nw r) (nI t) (zSz nw r)) 5)) r 0 (fun _ => 0)) sv an (zrH hs ct nw) (zrC ct) ln cd H) (zAM am) := by
  refine zWR.ofI (maxL := 3) rfl (Nat.le_of_ble_eq_true rfl) (fun p e s m args below meth c H Q hF hP hret ls hl => ?_)
  have S : CallFix p m c cX6_remove 3 s args wsX6_remove RX6 := hF.1
  have hG := hF.2
  obtain ⟨hx, hb, hml, hown, hts⟩ := id S
  have hS : va_S (zAM am) H H [] := va_S.rf
  obtain ⟨locs, hlocs⟩ : ∃ x : List Loc, x = [] := ⟨_, rfl⟩
  rw [← hlocs] at hS ⊢
  have hz : H.size = H.size := rfl
  obtain ⟨z, past, kept, buf, rg, td, tm, nb, ⟨h0, h1, h2, h3, h4, h5, h6⟩, hrep, hpa, hke, hbu⟩ := hP
  obtain ⟨r1, rwt, r3, r4, r5, r6, r7⟩ := id hrep
  have hn := hok.sz hr hr0
  have hl : lv_has ls 3 [(0, .ref (am 0)), (1, .int (nI (r)))] := hl
  have hin6 : ∀ w ∈ u_ws RX6 TX6 11, w ∈ wsX6_remove := by decide +kernel
  refine lv_aload_n hx hb dX6_remove_0 rfl (lv_at hl 0 rfl) ?_
  refine lv_iload_n hx hb dX6_remove_1 rfl (lv_at hl 1 rfl) ?_
  refine z_roV (As := [.int (nI (r))]) (rest := []) (q := (RX6, TX6, 11)) S hG (c_X6_isBracelet_1 E (z := z) hr (hok.sz hr hr0) (r3 r hr).1) 1 gX6_remove_X6_isBracelet rfl kX6_isBracelet ⟨Nat.le_of_ble_eq_true rfl, Nat.le_of_ble_eq_true rfl⟩ ⟨Nat.zero_le _, Nat.zero_le _⟩ (⟨h0, h1⟩) rfl h0 rfl hl.1 rfl rfl (Nat.le_of_ble_eq_true rfl) dX6_remove_2 ?_
  refine z_fne (tgt := 10) hx hb dX6_remove_5 (by decide) (by omega) (fun c_1 => ?_) (fun c_1 => by exfalso; omega)
  refine lv_iconst (v := nI (1)) hx hb dX6_remove_10 (by decide) ?_
  refine lv_istore_n (lv' := [(2, .int (nI (1))), (0, .ref (am 0)), (1, .int (nI (r)))]) hx hb dX6_remove_11 rfl hl (by decide) rfl (fun ls hl => ?_)
  have L12 : ∀ (dd : Nat) (t : Nat), 5 - t < dd → (t ≤ 5) → (zall (fun t => decide (zBx nw (t + 1) + nI (zcn (zKd nw r) (nI (t + 1)) (zSz nw r)) ≤ nI 99)) t = true) → ∀ (Hn : Heap) (locs : List Loc) (hS : va_S (zAM am) H Hn locs) (hz : Hn.size = H.size) (hX : zMX E am z past ct kept an buf ln rg td tm nb Hn) (ls : Array Slot), lv_has ls 3 [(0, .ref (am 0)), (1, .int (nI (r))), (2, .int (nI (t + 1)))] → W p (zl E) e (zRm 4 88) s m args below meth c Hn locs 0 0 Q (F0 m 12 ls []) := by
    intro dd
    induction dd with
    | zero => intro t hdd; exact absurd hdd (Nat.not_lt_zero _)
    | succ dd ih12 =>
      intro t hdd12 ht5 hz5 Hn locs hS hz hX ls hl
      obtain ⟨h0, h1, h2, h3, h4, h5, h6⟩ := hX
      refine lv_iload_n hx hb dX6_remove_12 rfl (lv_at hl 2 rfl) ?_
      refine lv_iconst (v := nI (5)) hx hb dX6_remove_13 (by decide) ?_
      refine z_cgt (tgt := 48) hx hb dX6_remove_14 (by decide) ⟨by omega, by omega⟩ (fun c_2 => ?_) (fun c_2 => ?_)
      · refine lv_aload_n hx hb dX6_remove_48 rfl (lv_at hl 0 rfl) ?_
        refine z_wrV (As := []) (rest := []) (q := (RX6, TX6, 11)) S hG (c_X6_record E hinj hct hok hrep hpa) 0 gX6_remove_X6_record rfl kX6_record ⟨Nat.le_of_ble_eq_true rfl, Nat.le_of_ble_eq_true rfl⟩ ⟨Nat.zero_le _, Nat.zero_le _⟩ (⟨h0, h1, h2, h3, h4, h5, h6⟩) rfl h0 rfl hl.1 rfl rfl (Nat.le_of_ble_eq_true rfl) dX6_remove_49 hS (fun _ h => h) (fun Hn locs h_4 q_3 o_5 hS => ?_)
        have hz : Hn.size = H.size := q_3.trans hz
        obtain ⟨past, ⟨h0, h1, h2, h3, h4, h5, h6⟩, hpa⟩ := h_4
        refine lv_aload_n hx hb dX6_remove_52 rfl (lv_at hl 0 rfl) ?_
        refine lv_iload_n hx hb dX6_remove_53 rfl (lv_at hl 1 rfl) ?_
        refine z_roV (As := [.int (nI (r))]) (rest := []) (q := (RX6, TX6, 11)) S hG (c_X6_charms E (z := z) (i := r) (n := (zSz nw r)) (f := (zKd nw r)) hr hn (r3 r hr)) 1 gX6_remove_X6_charms rfl kX6_charms ⟨Nat.le_of_ble_eq_true rfl, Nat.le_of_ble_eq_true rfl⟩ ⟨Nat.zero_le _, Nat.zero_le _⟩ (⟨h0, h1⟩) rfl h0 rfl hl.1 rfl rfl (Nat.le_of_ble_eq_true rfl) dX6_remove_54 ?_
        refine lv_istore_n (lv' := [(2, .int (nI ((zSz nw r) - zcn (zKd nw r) 0 (zSz nw r)))), (0, .ref (am 0)), (1, .int (nI (r)))]) hx hb dX6_remove_57 rfl hl (by decide) rfl (fun ls hl => ?_)
        refine lv_aload_n hx hb dX6_remove_58 rfl (lv_at hl 1 rfl) ?_
        refine lv_iload_n hx hb dX6_remove_59 rfl (lv_at hl 2 rfl) ?_
        refine lv_iconst (v := nI (1)) hx hb dX6_remove_60 (by decide) ?_
        refine z_wrV (As := [.int (nI (r)), .int (nI (1))]) (rest := []) (q := (RX6, TX6, 11)) S hG (c_X6_move E (z := z) (i := r) (n := (zSz nw r)) (f := (zKd nw r)) (d9 := nI 1) hinj hr hn.2 (r3 r hr) (fun s hs => hok.2.1 r hr s hs)) 2 gX6_remove_X6_move rfl kX6_move ⟨Nat.le_of_ble_eq_true rfl, Nat.le_of_ble_eq_true rfl⟩ ⟨Nat.zero_le _, Nat.zero_le _⟩ (⟨h0, h1, h2, h3, h4, h5, h6⟩) rfl h0 rfl hl.1 rfl rfl (Nat.le_of_ble_eq_true rfl) dX6_remove_61 hS (fun _ h => h) (fun Hn locs h_7 q_6 o_8 hS => ?_)
        have hz : Hn.size = H.size := q_6.trans hz
        obtain ⟨h0, h1, h2, h3, h4, h5, h6⟩ := h_7
        refine lv_aload_n hx hb dX6_remove_64 rfl (lv_at hl 1 rfl) ?_
        refine lv_iload_n hx hb dX6_remove_65 rfl (lv_at hl 2 rfl) ?_
        refine lv_iconst (v := nI (0)) hx hb dX6_remove_66 (by decide) ?_
        refine z_wrV (As := [.int (nI (r)), .int (nI (0))]) (rest := []) (q := (RX6, TX6, 11)) S hG (c_X6_lies E hinj (i := r) (n := 0) hr (Nat.zero_le _)) 2 gX6_remove_X6_lies rfl kX6_lies ⟨Nat.le_of_ble_eq_true rfl, Nat.le_of_ble_eq_true rfl⟩ ⟨Nat.zero_le _, Nat.zero_le _⟩ (⟨h0, h1, h2, h3, h4, h5, h6⟩) rfl h0 rfl hl.1 rfl rfl (Nat.le_of_ble_eq_true rfl) dX6_remove_67 hS (fun _ h => h) (fun Hn locs h_10 q_9 o_11 hS => ?_)
        have hz : Hn.size = H.size := q_9.trans hz
        obtain ⟨h0, h1, h2, h3, h4, h5, h6⟩ := h_10
        refine lv_iload_n hx hb dX6_remove_70 rfl (lv_at hl 0 rfl) ?_
        exact hret _ _ _ _ _ hS (hz) dX6_remove_71 (rfl) (⟨_, _, _, _, _, _, _, _, ⟨h0, h1, h2, h3, h4, h5, h6⟩, zRep_rg (v := zsBx nw (zti (zBx nw) (fun t => zcn (zKd nw r) (nI t) (zSz nw r)) 5)) hok.B hr (fun q a b => zlz_o a) (zlz_r (Nat.zero_le _)) (zRep_ti hok.B (fun s hs => hok.2.1 r hr s hs) hrep), hpa, hke, hbu⟩)
      · refine lv_aload_n hx hb dX6_remove_17 rfl (lv_at hl 0 rfl) ?_
        refine z_get (ref := RX6) (C := RX6) (T := TX6) (N := 11) hx hb hts hin6 hown hG h0 rfl 0 (by decide) (by decide +kernel) rfl rfl dX6_remove_18 ?_
        refine lv_iconst (v := nI (0)) hx hb dX6_remove_21 (by decide) ?_
        refine lv_iload_n hx hb dX6_remove_22 rfl (lv_at hl 2 rfl) ?_
        refine z_iadd hx hb dX6_remove_23 ?_
        refine lv_iconst (v := nI (1)) hx hb dX6_remove_24 (by decide) ?_
        refine z_isub hx hb dX6_remove_25 (by omega) ?_
        refine z_iald (j := (0 + (t + 1)) - 1) hx hb hG h1 ⟨by omega, by omega⟩ dX6_remove_26 ?_
        refine z_top (y := (zBx nw (t + 1))) (r1 (t + 1) (by omega) (by omega)) ?_
        refine lv_aload_n hx hb dX6_remove_27 rfl (lv_at hl 0 rfl) ?_
        refine lv_iload_n hx hb dX6_remove_28 rfl (lv_at hl 1 rfl) ?_
        refine lv_iload_n hx hb dX6_remove_29 rfl (lv_at hl 2 rfl) ?_
        refine z_roV (As := [.int (nI (r)), .int (nI (t + 1))]) (rest := [.int (zBx nw (t + 1))]) (q := (RX6, TX6, 11)) S hG (c_X6_hung E (z := z) (i := r) (x := nI (t + 1)) (n := (zSz nw r)) (f := (zKd nw r)) hr hn.2 (r3 r hr)) 2 gX6_remove_X6_hung rfl kX6_hung ⟨Nat.le_of_ble_eq_true rfl, Nat.le_of_ble_eq_true rfl⟩ ⟨Nat.zero_le _, Nat.zero_le _⟩ (⟨h0, h1⟩) rfl h0 rfl hl.1 rfl rfl (Nat.le_of_ble_eq_true rfl) dX6_remove_30 ?_
        refine lv_iadd hx hb dX6_remove_33 ?_
        refine lv_bipush (v := nI (99)) hx hb dX6_remove_34 (by decide) ?_
        refine lv_icmp_le (tgt := 42) hx hb dX6_remove_36 (by decide) (fun c_12 => ?_) (fun c_12 => by exfalso; have e9 := zall_iff.mp hbx t (by omega); exact absurd (of_decide_eq_true e9) c_12)
        refine lv_iinc (v := nI (t + 1 + 1)) (lv' := [(2, .int (nI (t + 1 + 1))), (0, .ref (am 0)), (1, .int (nI (r)))]) hx hb dX6_remove_42 hl (k := 2) rfl (z_inc1 _) (by decide) rfl (fun ls hl => ?_)
        refine lv_goto (tgt := 12) hx hb dX6_remove_45 (by decide) ?_
        have hl9 := lv_sub hl [1, 2, 0] (l' := [(0, .ref (am 0)), (1, .int (nI (r))), (2, .int (nI (t + 1 + 1)))]) rfl
        have e9_2 : (t + 1 + 1) = ((t + 1) + 1) := by omega
        exact ih12 (t + 1) (by omega) (by omega) (zall_t hz5 (decide_eq_true c_12)) _ _ hS hz (⟨h0, h1, h2, h3, h4, h5, h6⟩) ls (by rw [← e9_2]; exact hl9)
  exact L12 ((5 - (0)) + 1) (0) (Nat.lt_succ_self _) (by decide) (rfl) _ _ hS hz (⟨h0, h1, h2, h3, h4, h5, h6⟩) ls (lv_sub hl [1, 2, 0] rfl)
