set_option maxHeartbeats 4000000 in
set_option maxRecDepth 100000 in
theorem c_X6_hang_0 (E : zEnv) {am : Nat → Nat} {nw sv : zS} {an : Bool} {hs : Nat → zS} {ct ln : Nat} {cd : Nat → Int32} {x y w : Int32} (hok : zOk nw) (hinj : zInM am) (hct : ct ≤ 5) (hq : zfnd (zSz nw) x = none) : zWR E yX6_hang wsX6_hang 3 65 [.ref (am 0), .int (x), .int (y), .int (w)] (fun H => zMW E am nw sv an hs ct ln cd H) (some (.int (-1))) (fun H => zMW E am nw sv an hs ct ln cd H) (zAM am) := by
  refine zWR.ofI (maxL := 4) rfl (Nat.le_of_ble_eq_true rfl) (fun p e s m args below meth c H Q hF hP hret ls hl => ?_)
  have S : CallFix p m c cX6_hang 4 s args wsX6_hang RX6 := hF.1
  have hG := hF.2
  obtain ⟨hx, hb, hml, hown, hts⟩ := id S
  have hS : va_S (zAM am) H H [] := va_S.rf
  obtain ⟨locs, hlocs⟩ : ∃ x : List Loc, x = [] := ⟨_, rfl⟩
  rw [← hlocs] at hS ⊢
  have hz : H.size = H.size := rfl
  obtain ⟨z, past, kept, buf, rg, td, tm, nb, ⟨h0, h1, h2, h3, h4, h5, h6⟩, hrep, hpa, hke, hbu⟩ := hP
  obtain ⟨r1, rwt, r3, r4, r5, r6, r7⟩ := id hrep
  have hl : lv_has ls 4 [(0, .ref (am 0)), (1, .int (x)), (2, .int (y)), (3, .int (w))] := hl
  have hin6 : ∀ w ∈ u_ws RX6 TX6 11, w ∈ wsX6_hang := by decide +kernel
  refine lv_aload_n hx hb dX6_hang_0 rfl (lv_at hl 0 rfl) ?_
  refine lv_iload_n hx hb dX6_hang_1 rfl (lv_at hl 1 rfl) ?_
  refine lv_iload_n hx hb dX6_hang_2 rfl (lv_at hl 2 rfl) ?_
  refine z_roV (As := [.int (x), .int (y)]) (rest := []) (q := (RX6, TX6, 11)) S hG (c_X6_isSlot_0 E (z := z) (fun t ht => (r3 t ht).1) hok.h16 hq) 2 gX6_hang_X6_isSlot rfl kX6_isSlot ⟨Nat.le_of_ble_eq_true rfl, Nat.le_of_ble_eq_true rfl⟩ ⟨Nat.zero_le _, Nat.zero_le _⟩ (⟨h0, h1⟩) rfl h0 rfl hl.1 rfl rfl (Nat.le_of_ble_eq_true rfl) dX6_hang_3 ?_
  refine z_feq (tgt := 16) hx hb dX6_hang_6 (by decide) (by omega) (fun c_1 => ?_) (fun c_1 => by exfalso; omega)
  refine lv_iconst (v := (-1)) hx hb dX6_hang_16 (by decide) ?_
  exact hret _ _ _ _ _ hS (hz) dX6_hang_17 (rfl) (⟨_, _, _, _, _, _, _, _, ⟨h0, h1, h2, h3, h4, h5, h6⟩, hrep, hpa, hke, hbu⟩)

set_option maxHeartbeats 4000000 in
set_option maxRecDepth 100000 in
theorem c_X6_hang_1 (E : zEnv) {am : Nat → Nat} {nw sv : zS} {an : Bool} {hs : Nat → zS} {ct ln : Nat} {cd : Nat → Int32} {r : Nat} {y w : Int32} (hok : zOk nw) (hinj : zInM am) (hct : ct ≤ 5) (hr : r < 6) (hr0 : zSz nw r ≠ 0) (hy : zin y 0 ((zSz nw r) - 1) = false) : zWR E yX6_hang wsX6_hang 3 65 [.ref (am 0), .int (nI (r)), .int (y), .int (w)] (fun H => zMW E am nw sv an hs ct ln cd H) (some (.int (-1))) (fun H => zMW E am nw sv an hs ct ln cd H) (zAM am) := by
  refine zWR.ofI (maxL := 4) rfl (Nat.le_of_ble_eq_true rfl) (fun p e s m args below meth c H Q hF hP hret ls hl => ?_)
  have S : CallFix p m c cX6_hang 4 s args wsX6_hang RX6 := hF.1
  have hG := hF.2
  obtain ⟨hx, hb, hml, hown, hts⟩ := id S
  have hS : va_S (zAM am) H H [] := va_S.rf
  obtain ⟨locs, hlocs⟩ : ∃ x : List Loc, x = [] := ⟨_, rfl⟩
  rw [← hlocs] at hS ⊢
  have hz : H.size = H.size := rfl
  obtain ⟨z, past, kept, buf, rg, td, tm, nb, ⟨h0, h1, h2, h3, h4, h5, h6⟩, hrep, hpa, hke, hbu⟩ := hP
  obtain ⟨r1, rwt, r3, r4, r5, r6, r7⟩ := id hrep
  have hn := hok.sz hr hr0
  have hl : lv_has ls 4 [(0, .ref (am 0)), (1, .int (nI (r))), (2, .int (y)), (3, .int (w))] := hl
  have hin6 : ∀ w ∈ u_ws RX6 TX6 11, w ∈ wsX6_hang := by decide +kernel
  refine lv_aload_n hx hb dX6_hang_0 rfl (lv_at hl 0 rfl) ?_
  refine lv_iload_n hx hb dX6_hang_1 rfl (lv_at hl 1 rfl) ?_
  refine lv_iload_n hx hb dX6_hang_2 rfl (lv_at hl 2 rfl) ?_
  refine z_roV (As := [.int (nI (r)), .int (y)]) (rest := []) (q := (RX6, TX6, 11)) S hG (c_X6_isSlot_1 E (z := z) (y := y) hr hn (r3 r hr).1) 2 gX6_hang_X6_isSlot rfl kX6_isSlot ⟨Nat.le_of_ble_eq_true rfl, Nat.le_of_ble_eq_true rfl⟩ ⟨Nat.zero_le _, Nat.zero_le _⟩ (⟨h0, h1⟩) rfl h0 rfl hl.1 rfl rfl (Nat.le_of_ble_eq_true rfl) dX6_hang_3 ?_
  refine z_beq (tgt := 16) hx hb dX6_hang_6 (by decide) (fun c_1 => ?_) (fun c_1 => by exfalso; rw [hy] at c_1; cases c_1)
  refine lv_iconst (v := (-1)) hx hb dX6_hang_16 (by decide) ?_
  exact hret _ _ _ _ _ hS (hz) dX6_hang_17 (rfl) (⟨_, _, _, _, _, _, _, _, ⟨h0, h1, h2, h3, h4, h5, h6⟩, hrep, hpa, hke, hbu⟩)

set_option maxHeartbeats 4000000 in
set_option maxRecDepth 100000 in
theorem c_X6_hang_2 (E : zEnv) {am : Nat → Nat} {nw sv : zS} {an : Bool} {hs : Nat → zS} {ct ln : Nat} {cd : Nat → Int32} {r j : Nat} {w : Int32} (hok : zOk nw) (hinj : zInM am) (hct : ct ≤ 5) (hr : r < 6) (hr0 : zSz nw r ≠ 0) (hj : j < (zSz nw r)) (hw : zin w 1 5 = false) : zWR E yX6_hang wsX6_hang 3 65 [.ref (am 0), .int (nI (r)), .int (nI (j)), .int (w)] (fun H => zMW E am nw sv an hs ct ln cd H) (some (.int (-1))) (fun H => zMW E am nw sv an hs ct ln cd H) (zAM am) := by
  refine zWR.ofI (maxL := 4) rfl (Nat.le_of_ble_eq_true rfl) (fun p e s m args below meth c H Q hF hP hret ls hl => ?_)
  have S : CallFix p m c cX6_hang 4 s args wsX6_hang RX6 := hF.1
  have hG := hF.2
  obtain ⟨hx, hb, hml, hown, hts⟩ := id S
  have hS : va_S (zAM am) H H [] := va_S.rf
  obtain ⟨locs, hlocs⟩ : ∃ x : List Loc, x = [] := ⟨_, rfl⟩
  rw [← hlocs] at hS ⊢
  have hz : H.size = H.size := rfl
  obtain ⟨z, past, kept, buf, rg, td, tm, nb, ⟨h0, h1, h2, h3, h4, h5, h6⟩, hrep, hpa, hke, hbu⟩ := hP
  obtain ⟨r1, rwt, r3, r4, r5, r6, r7⟩ := id hrep
  have hn := hok.sz hr hr0
  have hl : lv_has ls 4 [(0, .ref (am 0)), (1, .int (nI (r))), (2, .int (nI (j))), (3, .int (w))] := hl
  have hin6 : ∀ w ∈ u_ws RX6 TX6 11, w ∈ wsX6_hang := by decide +kernel
  refine lv_aload_n hx hb dX6_hang_0 rfl (lv_at hl 0 rfl) ?_
  refine lv_iload_n hx hb dX6_hang_1 rfl (lv_at hl 1 rfl) ?_
  refine lv_iload_n hx hb dX6_hang_2 rfl (lv_at hl 2 rfl) ?_
  refine z_roV (As := [.int (nI (r)), .int (nI (j))]) (rest := []) (q := (RX6, TX6, 11)) S hG (c_X6_isSlot_1 E (z := z) (y := (nI j)) hr hn (r3 r hr).1) 2 gX6_hang_X6_isSlot rfl kX6_isSlot ⟨Nat.le_of_ble_eq_true rfl, Nat.le_of_ble_eq_true rfl⟩ ⟨Nat.zero_le _, Nat.zero_le _⟩ (⟨h0, h1⟩) rfl h0 rfl hl.1 rfl rfl (Nat.le_of_ble_eq_true rfl) dX6_hang_3 ?_
  refine z_beq (tgt := 16) hx hb dX6_hang_6 (by decide) (fun c_1 => by exfalso; rw [zin_y (Nat.zero_le _) (by omega) (by omega)] at c_1; cases c_1) (fun c_1 => ?_)
  refine lv_iload_n hx hb dX6_hang_9 rfl (lv_at hl 3 rfl) ?_
  refine z_roSX (As := [.int (w)]) (rest := []) S hG (c_X6_isKind E) 1 gX6_hang_X6_isKind rfl kX6_isKind.2 ⟨Nat.le_of_ble_eq_true rfl, Nat.le_of_ble_eq_true rfl⟩ ⟨Nat.zero_le _, Nat.zero_le _⟩ (trivial) rfl hl.1 rfl rfl (Nat.le_of_ble_eq_true rfl) dX6_hang_10 ?_
  refine z_bne (tgt := 18) hx hb dX6_hang_13 (by decide) (fun c_2 => by exfalso; rw [hw] at c_2; cases c_2) (fun c_2 => ?_)
  refine lv_iconst (v := (-1)) hx hb dX6_hang_16 (by decide) ?_
  exact hret _ _ _ _ _ hS (hz) dX6_hang_17 (rfl) (⟨_, _, _, _, _, _, _, _, ⟨h0, h1, h2, h3, h4, h5, h6⟩, hrep, hpa, hke, hbu⟩)

set_option maxHeartbeats 4000000 in
set_option maxRecDepth 100000 in
theorem c_X6_hang_3 (E : zEnv) {am : Nat → Nat} {nw sv : zS} {an : Bool} {hs : Nat → zS} {ct ln : Nat} {cd : Nat → Int32} {r j w : Nat} (hok : zOk nw) (hinj : zInM am) (hct : ct ≤ 5) (hr : r < 6) (hr0 : zSz nw r ≠ 0) (hj : j < (zSz nw r)) (hw : 1 ≤ w ∧ w ≤ 5) (he : ¬ (zKd nw r) j = 0) : zWR E yX6_hang wsX6_hang 3 65 [.ref (am 0), .int (nI (r)), .int (nI (j)), .int (nI (w))] (fun H => zMW E am nw sv an hs ct ln cd H) (some (.int (-3))) (fun H => zMW E am nw sv an hs ct ln cd H) (zAM am) := by
  refine zWR.ofI (maxL := 4) rfl (Nat.le_of_ble_eq_true rfl) (fun p e s m args below meth c H Q hF hP hret ls hl => ?_)
  have S : CallFix p m c cX6_hang 4 s args wsX6_hang RX6 := hF.1
  have hG := hF.2
  obtain ⟨hx, hb, hml, hown, hts⟩ := id S
  have hS : va_S (zAM am) H H [] := va_S.rf
  obtain ⟨locs, hlocs⟩ : ∃ x : List Loc, x = [] := ⟨_, rfl⟩
  rw [← hlocs] at hS ⊢
  have hz : H.size = H.size := rfl
  obtain ⟨z, past, kept, buf, rg, td, tm, nb, ⟨h0, h1, h2, h3, h4, h5, h6⟩, hrep, hpa, hke, hbu⟩ := hP
  obtain ⟨r1, rwt, r3, r4, r5, r6, r7⟩ := id hrep
  have hn := hok.sz hr hr0
  obtain ⟨kk, hk5, hke9⟩ := hok.2.1 r hr j hj
  have hl : lv_has ls 4 [(0, .ref (am 0)), (1, .int (nI (r))), (2, .int (nI (j))), (3, .int (nI (w)))] := hl
  have hin6 : ∀ w ∈ u_ws RX6 TX6 11, w ∈ wsX6_hang := by decide +kernel
  refine lv_aload_n hx hb dX6_hang_0 rfl (lv_at hl 0 rfl) ?_
  refine lv_iload_n hx hb dX6_hang_1 rfl (lv_at hl 1 rfl) ?_
  refine lv_iload_n hx hb dX6_hang_2 rfl (lv_at hl 2 rfl) ?_
  refine z_roV (As := [.int (nI (r)), .int (nI (j))]) (rest := []) (q := (RX6, TX6, 11)) S hG (c_X6_isSlot_1 E (z := z) (y := (nI j)) hr hn (r3 r hr).1) 2 gX6_hang_X6_isSlot rfl kX6_isSlot ⟨Nat.le_of_ble_eq_true rfl, Nat.le_of_ble_eq_true rfl⟩ ⟨Nat.zero_le _, Nat.zero_le _⟩ (⟨h0, h1⟩) rfl h0 rfl hl.1 rfl rfl (Nat.le_of_ble_eq_true rfl) dX6_hang_3 ?_
  refine z_beq (tgt := 16) hx hb dX6_hang_6 (by decide) (fun c_1 => by exfalso; rw [zin_y (Nat.zero_le _) (by omega) (by omega)] at c_1; cases c_1) (fun c_1 => ?_)
  refine lv_iload_n hx hb dX6_hang_9 rfl (lv_at hl 3 rfl) ?_
  refine z_roSX (As := [.int (nI (w))]) (rest := []) S hG (c_X6_isKind E) 1 gX6_hang_X6_isKind rfl kX6_isKind.2 ⟨Nat.le_of_ble_eq_true rfl, Nat.le_of_ble_eq_true rfl⟩ ⟨Nat.zero_le _, Nat.zero_le _⟩ (trivial) rfl hl.1 rfl rfl (Nat.le_of_ble_eq_true rfl) dX6_hang_10 ?_
  refine z_bne (tgt := 18) hx hb dX6_hang_13 (by decide) (fun c_2 => ?_) (fun c_2 => by exfalso; rw [zin_y hw.1 hw.2 (by decide)] at c_2; cases c_2)
  refine lv_aload_n hx hb dX6_hang_18 rfl (lv_at hl 0 rfl) ?_
  refine z_get (ref := RX6) (C := RX6) (T := TX6) (N := 11) hx hb hts hin6 hown hG h0 rfl 0 (by decide) (by decide +kernel) rfl rfl dX6_hang_19 ?_
  refine lv_aload_n hx hb dX6_hang_22 rfl (lv_at hl 0 rfl) ?_
  refine lv_iload_n hx hb dX6_hang_23 rfl (lv_at hl 1 rfl) ?_
  refine lv_iload_n hx hb dX6_hang_24 rfl (lv_at hl 2 rfl) ?_
  refine z_roV (As := [.int (nI (r)), .int (nI (j))]) (rest := [.ref (am 1)]) (q := (RX6, TX6, 11)) S hG (c_X6_at E (z := z) (i := r) (n := (zSz nw r)) (j := j) hr (r3 r hr).1 ⟨hj, hn.2⟩) 2 gX6_hang_X6_at rfl kX6_at ⟨Nat.le_of_ble_eq_true rfl, Nat.le_of_ble_eq_true rfl⟩ ⟨Nat.zero_le _, Nat.zero_le _⟩ (⟨h0, h1⟩) rfl h0 rfl hl.1 rfl rfl (Nat.le_of_ble_eq_true rfl) dX6_hang_25 ?_
  refine z_iald (j := 10 + 17 * r + 1 + j) hx hb hG h1 ⟨by omega, by omega⟩ dX6_hang_28 ?_
  refine z_top (y := nI (kk)) (by rw [(r3 r hr).2 j hj]; exact hke9) ?_
  refine z_fgt (tgt := 45) hx hb dX6_hang_29 (by decide) (by omega) (fun c_3 => ?_) (fun c_3 => by exfalso; exact he (by rw [hke9, c_3]; rfl))
  refine lv_bipush (v := (-3)) hx hb dX6_hang_45 (by decide) ?_
  exact hret _ _ _ _ _ hS (hz) dX6_hang_47 (rfl) (⟨_, _, _, _, _, _, _, _, ⟨h0, h1, h2, h3, h4, h5, h6⟩, hrep, hpa, hke, hbu⟩)

set_option maxHeartbeats 4000000 in
set_option maxRecDepth 100000 in
theorem c_X6_hang_4 (E : zEnv) {am : Nat → Nat} {nw sv : zS} {an : Bool} {hs : Nat → zS} {ct ln : Nat} {cd : Nat → Int32} {r j w : Nat} (hok : zOk nw) (hinj : zInM am) (hct : ct ≤ 5) (hr : r < 6) (hr0 : zSz nw r ≠ 0) (hj : j < (zSz nw r)) (hw : 1 ≤ w ∧ w ≤ 5) (he : (zKd nw r) j = 0) (hb9 : zBx nw w = 0) : zWR E yX6_hang wsX6_hang 3 65 [.ref (am 0), .int (nI (r)), .int (nI (j)), .int (nI (w))] (fun H => zMW E am nw sv an hs ct ln cd H) (some (.int (-3))) (fun H => zMW E am nw sv an hs ct ln cd H) (zAM am) := by
  refine zWR.ofI (maxL := 4) rfl (Nat.le_of_ble_eq_true rfl) (fun p e s m args below meth c H Q hF hP hret ls hl => ?_)
  have S : CallFix p m c cX6_hang 4 s args wsX6_hang RX6 := hF.1
  have hG := hF.2
  obtain ⟨hx, hb, hml, hown, hts⟩ := id S
  have hS : va_S (zAM am) H H [] := va_S.rf
  obtain ⟨locs, hlocs⟩ : ∃ x : List Loc, x = [] := ⟨_, rfl⟩
  rw [← hlocs] at hS ⊢
  have hz : H.size = H.size := rfl
  obtain ⟨z, past, kept, buf, rg, td, tm, nb, ⟨h0, h1, h2, h3, h4, h5, h6⟩, hrep, hpa, hke, hbu⟩ := hP
  obtain ⟨r1, rwt, r3, r4, r5, r6, r7⟩ := id hrep
  have hn := hok.sz hr hr0
  have hl : lv_has ls 4 [(0, .ref (am 0)), (1, .int (nI (r))), (2, .int (nI (j))), (3, .int (nI (w)))] := hl
  have hin6 : ∀ w ∈ u_ws RX6 TX6 11, w ∈ wsX6_hang := by decide +kernel
  refine lv_aload_n hx hb dX6_hang_0 rfl (lv_at hl 0 rfl) ?_
  refine lv_iload_n hx hb dX6_hang_1 rfl (lv_at hl 1 rfl) ?_
  refine lv_iload_n hx hb dX6_hang_2 rfl (lv_at hl 2 rfl) ?_
  refine z_roV (As := [.int (nI (r)), .int (nI (j))]) (rest := []) (q := (RX6, TX6, 11)) S hG (c_X6_isSlot_1 E (z := z) (y := (nI j)) hr hn (r3 r hr).1) 2 gX6_hang_X6_isSlot rfl kX6_isSlot ⟨Nat.le_of_ble_eq_true rfl, Nat.le_of_ble_eq_true rfl⟩ ⟨Nat.zero_le _, Nat.zero_le _⟩ (⟨h0, h1⟩) rfl h0 rfl hl.1 rfl rfl (Nat.le_of_ble_eq_true rfl) dX6_hang_3 ?_
  refine z_beq (tgt := 16) hx hb dX6_hang_6 (by decide) (fun c_1 => by exfalso; rw [zin_y (Nat.zero_le _) (by omega) (by omega)] at c_1; cases c_1) (fun c_1 => ?_)
  refine lv_iload_n hx hb dX6_hang_9 rfl (lv_at hl 3 rfl) ?_
  refine z_roSX (As := [.int (nI (w))]) (rest := []) S hG (c_X6_isKind E) 1 gX6_hang_X6_isKind rfl kX6_isKind.2 ⟨Nat.le_of_ble_eq_true rfl, Nat.le_of_ble_eq_true rfl⟩ ⟨Nat.zero_le _, Nat.zero_le _⟩ (trivial) rfl hl.1 rfl rfl (Nat.le_of_ble_eq_true rfl) dX6_hang_10 ?_
  refine z_bne (tgt := 18) hx hb dX6_hang_13 (by decide) (fun c_2 => ?_) (fun c_2 => by exfalso; rw [zin_y hw.1 hw.2 (by decide)] at c_2; cases c_2)
  refine lv_aload_n hx hb dX6_hang_18 rfl (lv_at hl 0 rfl) ?_
  refine z_get (ref := RX6) (C := RX6) (T := TX6) (N := 11) hx hb hts hin6 hown hG h0 rfl 0 (by decide) (by decide +kernel) rfl rfl dX6_hang_19 ?_
  refine lv_aload_n hx hb dX6_hang_22 rfl (lv_at hl 0 rfl) ?_
  refine lv_iload_n hx hb dX6_hang_23 rfl (lv_at hl 1 rfl) ?_
  refine lv_iload_n hx hb dX6_hang_24 rfl (lv_at hl 2 rfl) ?_
  refine z_roV (As := [.int (nI (r)), .int (nI (j))]) (rest := [.ref (am 1)]) (q := (RX6, TX6, 11)) S hG (c_X6_at E (z := z) (i := r) (n := (zSz nw r)) (j := j) hr (r3 r hr).1 ⟨hj, hn.2⟩) 2 gX6_hang_X6_at rfl kX6_at ⟨Nat.le_of_ble_eq_true rfl, Nat.le_of_ble_eq_true rfl⟩ ⟨Nat.zero_le _, Nat.zero_le _⟩ (⟨h0, h1⟩) rfl h0 rfl hl.1 rfl rfl (Nat.le_of_ble_eq_true rfl) dX6_hang_25 ?_
  refine z_iald (j := 10 + 17 * r + 1 + j) hx hb hG h1 ⟨by omega, by omega⟩ dX6_hang_28 ?_
  refine z_top (y := nI (0)) (by rw [(r3 r hr).2 j hj, he]; rfl) ?_
  refine z_fgt (tgt := 45) hx hb dX6_hang_29 (by decide) (by omega) (fun c_3 => by exfalso; omega) (fun c_3 => ?_)
  refine lv_aload_n hx hb dX6_hang_32 rfl (lv_at hl 0 rfl) ?_
  refine z_get (ref := RX6) (C := RX6) (T := TX6) (N := 11) hx hb hts hin6 hown hG h0 rfl 0 (by decide) (by decide +kernel) rfl rfl dX6_hang_33 ?_
  refine lv_iconst (v := nI (0)) hx hb dX6_hang_36 (by decide) ?_
  refine lv_iload_n hx hb dX6_hang_37 rfl (lv_at hl 3 rfl) ?_
  refine z_iadd hx hb dX6_hang_38 ?_
  refine lv_iconst (v := nI (1)) hx hb dX6_hang_39 (by decide) ?_
  refine z_isub hx hb dX6_hang_40 (by omega) ?_
  refine z_iald (j := (0 + w) - 1) hx hb hG h1 ⟨by omega, by omega⟩ dX6_hang_41 ?_
  refine z_top (y := nI (0)) (by rw [r1 w hw.1 hw.2, hb9]; rfl) ?_
  refine z_fne (tgt := 48) hx hb dX6_hang_42 (by decide) (by omega) (fun c_4 => by exfalso; omega) (fun c_4 => ?_)
  refine lv_bipush (v := (-3)) hx hb dX6_hang_45 (by decide) ?_
  exact hret _ _ _ _ _ hS (hz) dX6_hang_47 (rfl) (⟨_, _, _, _, _, _, _, _, ⟨h0, h1, h2, h3, h4, h5, h6⟩, hrep, hpa, hke, hbu⟩)

set_option maxHeartbeats 4000000 in
set_option maxRecDepth 100000 in
theorem c_X6_hang_5 (E : zEnv) {am : Nat → Nat} {nw sv : zS} {an : Bool} {hs : Nat → zS} {ct ln : Nat} {cd : Nat → Int32} {r j w u : Nat} (hok : zOk nw) (hinj : zInM am) (hct : ct ≤ 5) (hr : r < 6) (hr0 : zSz nw r ≠ 0) (hj : j < (zSz nw r)) (hw : 1 ≤ w ∧ w ≤ 5) (he : (zKd nw r) j = 0) (hb9 : zBx nw w = nI (u + 1) ∧ u < 99) : zWR E yX6_hang wsX6_hang 3 65 [.ref (am 0), .int (nI (r)), .int (nI (j)), .int (nI (w))] (fun H => zMW E am nw sv an hs ct ln cd H) (some (.int (nI u))) (fun H => zMW E am (zsBx (zsRg nw r (zSz nw r) (upd (zKd nw r) j (nI w))) (upd (zBx nw) w (nI u))) sv an (zrH hs ct nw) (zrC ct) ln cd H) (zAM am) := by
  refine zWR.ofI (maxL := 4) rfl (Nat.le_of_ble_eq_true rfl) (fun p e s m args below meth c H Q hF hP hret ls hl => ?_)
  have S : CallFix p m c cX6_hang 4 s args wsX6_hang RX6 := hF.1
  have hG := hF.2
  obtain ⟨hx, hb, hml, hown, hts⟩ := id S
  have hS : va_S (zAM am) H H [] := va_S.rf
  obtain ⟨locs, hlocs⟩ : ∃ x : List Loc, x = [] := ⟨_, rfl⟩
  rw [← hlocs] at hS ⊢
  have hz : H.size = H.size := rfl
  obtain ⟨z, past, kept, buf, rg, td, tm, nb, ⟨h0, h1, h2, h3, h4, h5, h6⟩, hrep, hpa, hke, hbu⟩ := hP
  obtain ⟨r1, rwt, r3, r4, r5, r6, r7⟩ := id hrep
  have hn := hok.sz hr hr0
  have hl : lv_has ls 4 [(0, .ref (am 0)), (1, .int (nI (r))), (2, .int (nI (j))), (3, .int (nI (w)))] := hl
  have hin6 : ∀ w ∈ u_ws RX6 TX6 11, w ∈ wsX6_hang := by decide +kernel
  refine lv_aload_n hx hb dX6_hang_0 rfl (lv_at hl 0 rfl) ?_
  refine lv_iload_n hx hb dX6_hang_1 rfl (lv_at hl 1 rfl) ?_
  refine lv_iload_n hx hb dX6_hang_2 rfl (lv_at hl 2 rfl) ?_
  refine z_roV (As := [.int (nI (r)), .int (nI (j))]) (rest := []) (q := (RX6, TX6, 11)) S hG (c_X6_isSlot_1 E (z := z) (y := (nI j)) hr hn (r3 r hr).1) 2 gX6_hang_X6_isSlot rfl kX6_isSlot ⟨Nat.le_of_ble_eq_true rfl, Nat.le_of_ble_eq_true rfl⟩ ⟨Nat.zero_le _, Nat.zero_le _⟩ (⟨h0, h1⟩) rfl h0 rfl hl.1 rfl rfl (Nat.le_of_ble_eq_true rfl) dX6_hang_3 ?_
  refine z_beq (tgt := 16) hx hb dX6_hang_6 (by decide) (fun c_1 => by exfalso; rw [zin_y (Nat.zero_le _) (by omega) (by omega)] at c_1; cases c_1) (fun c_1 => ?_)
  refine lv_iload_n hx hb dX6_hang_9 rfl (lv_at hl 3 rfl) ?_
  refine z_roSX (As := [.int (nI (w))]) (rest := []) S hG (c_X6_isKind E) 1 gX6_hang_X6_isKind rfl kX6_isKind.2 ⟨Nat.le_of_ble_eq_true rfl, Nat.le_of_ble_eq_true rfl⟩ ⟨Nat.zero_le _, Nat.zero_le _⟩ (trivial) rfl hl.1 rfl rfl (Nat.le_of_ble_eq_true rfl) dX6_hang_10 ?_
  refine z_bne (tgt := 18) hx hb dX6_hang_13 (by decide) (fun c_2 => ?_) (fun c_2 => by exfalso; rw [zin_y hw.1 hw.2 (by decide)] at c_2; cases c_2)
  refine lv_aload_n hx hb dX6_hang_18 rfl (lv_at hl 0 rfl) ?_
  refine z_get (ref := RX6) (C := RX6) (T := TX6) (N := 11) hx hb hts hin6 hown hG h0 rfl 0 (by decide) (by decide +kernel) rfl rfl dX6_hang_19 ?_
  refine lv_aload_n hx hb dX6_hang_22 rfl (lv_at hl 0 rfl) ?_
  refine lv_iload_n hx hb dX6_hang_23 rfl (lv_at hl 1 rfl) ?_
  refine lv_iload_n hx hb dX6_hang_24 rfl (lv_at hl 2 rfl) ?_
  refine z_roV (As := [.int (nI (r)), .int (nI (j))]) (rest := [.ref (am 1)]) (q := (RX6, TX6, 11)) S hG (c_X6_at E (z := z) (i := r) (n := (zSz nw r)) (j := j) hr (r3 r hr).1 ⟨hj, hn.2⟩) 2 gX6_hang_X6_at rfl kX6_at ⟨Nat.le_of_ble_eq_true rfl, Nat.le_of_ble_eq_true rfl⟩ ⟨Nat.zero_le _, Nat.zero_le _⟩ (⟨h0, h1⟩) rfl h0 rfl hl.1 rfl rfl (Nat.le_of_ble_eq_true rfl) dX6_hang_25 ?_
  refine z_iald (j := 10 + 17 * r + 1 + j) hx hb hG h1 ⟨by omega, by omega⟩ dX6_hang_28 ?_
  refine z_top (y := nI (0)) (by rw [(r3 r hr).2 j hj, he]; rfl) ?_
  refine z_fgt (tgt := 45) hx hb dX6_hang_29 (by decide) (by omega) (fun c_3 => by exfalso; omega) (fun c_3 => ?_)
  refine lv_aload_n hx hb dX6_hang_32 rfl (lv_at hl 0 rfl) ?_
  refine z_get (ref := RX6) (C := RX6) (T := TX6) (N := 11) hx hb hts hin6 hown hG h0 rfl 0 (by decide) (by decide +kernel) rfl rfl dX6_hang_33 ?_
  refine lv_iconst (v := nI (0)) hx hb dX6_hang_36 (by decide) ?_
  refine lv_iload_n hx hb dX6_hang_37 rfl (lv_at hl 3 rfl) ?_
  refine z_iadd hx hb dX6_hang_38 ?_
  refine lv_iconst (v := nI (1)) hx hb dX6_hang_39 (by decide) ?_
  refine z_isub hx hb dX6_hang_40 (by omega) ?_
  refine z_iald (j := (0 + w) - 1) hx hb hG h1 ⟨by omega, by omega⟩ dX6_hang_41 ?_
  refine z_top (y := nI (u + 1)) (by rw [r1 w hw.1 hw.2]; exact hb9.1) ?_
  refine z_fne (tgt := 48) hx hb dX6_hang_42 (by decide) (by omega) (fun c_4 => ?_) (fun c_4 => by exfalso; omega)
  refine lv_aload_n hx hb dX6_hang_48 rfl (lv_at hl 0 rfl) ?_
  refine z_wrV (As := []) (rest := []) (q := (RX6, TX6, 11)) S hG (c_X6_record E hinj hct hok hrep hpa) 0 gX6_hang_X6_record rfl kX6_record ⟨Nat.le_of_ble_eq_true rfl, Nat.le_of_ble_eq_true rfl⟩ ⟨Nat.zero_le _, Nat.zero_le _⟩ (⟨h0, h1, h2, h3, h4, h5, h6⟩) rfl h0 rfl hl.1 rfl rfl (Nat.le_of_ble_eq_true rfl) dX6_hang_49 hS (fun _ h => h) (fun Hn locs h_6 q_5 o_7 hS => ?_)
  have hz : Hn.size = H.size := q_5.trans hz
  obtain ⟨past, ⟨h0, h1, h2, h3, h4, h5, h6⟩, hpa⟩ := h_6
  refine lv_aload_n hx hb dX6_hang_52 rfl (lv_at hl 0 rfl) ?_
  refine z_get (ref := RX6) (C := RX6) (T := TX6) (N := 11) hx hb hts hin6 hown hG h0 rfl 0 (by decide) (by decide +kernel) rfl rfl dX6_hang_53 ?_
  refine lv_aload_n hx hb dX6_hang_56 rfl (lv_at hl 0 rfl) ?_
  refine lv_iload_n hx hb dX6_hang_57 rfl (lv_at hl 1 rfl) ?_
  refine lv_iload_n hx hb dX6_hang_58 rfl (lv_at hl 2 rfl) ?_
  refine z_roV (As := [.int (nI (r)), .int (nI (j))]) (rest := [.ref (am 1)]) (q := (RX6, TX6, 11)) S hG (c_X6_at E (z := z) (i := r) (n := (zSz nw r)) (j := j) hr (r3 r hr).1 ⟨hj, hn.2⟩) 2 gX6_hang_X6_at rfl kX6_at ⟨Nat.le_of_ble_eq_true rfl, Nat.le_of_ble_eq_true rfl⟩ ⟨Nat.zero_le _, Nat.zero_le _⟩ (⟨h0, h1⟩) rfl h0 rfl hl.1 rfl rfl (Nat.le_of_ble_eq_true rfl) dX6_hang_59 ?_
  refine lv_iload_n hx hb dX6_hang_62 rfl (lv_at hl 3 rfl) ?_
  refine z_iast (j := 10 + 17 * r + 1 + j) hx hb hG h1 ⟨by omega, by omega⟩ hS (⟨1, by decide, rfl⟩) dX6_hang_63 (fun Hn locs h_8 o_9 hS => ?_)
  have k_10 := va_at.kept h0 (o_9.2 _ (hinj.ne (by decide) (by decide) (by decide)))
  have k_11 := va_at.kept h2 (o_9.2 _ (hinj.ne (by decide) (by decide) (by decide)))
  have k_12 := va_at.kept h3 (o_9.2 _ (hinj.ne (by decide) (by decide) (by decide)))
  have k_13 := va_at.kept h4 (o_9.2 _ (hinj.ne (by decide) (by decide) (by decide)))
  have k_14 := va_at.kept h5 (o_9.2 _ (hinj.ne (by decide) (by decide) (by decide)))
  have k_15 := va_at.kept h6 (o_9.2 _ (hinj.ne (by decide) (by decide) (by decide)))
  have hz : Hn.size = H.size := o_9.1.trans hz
  refine lv_aload_n hx hb dX6_hang_64 rfl (lv_at hl 0 rfl) ?_
  refine z_get (ref := RX6) (C := RX6) (T := TX6) (N := 11) hx hb hts hin6 hown hG k_10 rfl 0 (by decide) (by decide +kernel) rfl rfl dX6_hang_65 ?_
  refine lv_iconst (v := nI (0)) hx hb dX6_hang_68 (by decide) ?_
  refine lv_iload_n hx hb dX6_hang_69 rfl (lv_at hl 3 rfl) ?_
  refine z_iadd hx hb dX6_hang_70 ?_
  refine lv_iconst (v := nI (1)) hx hb dX6_hang_71 (by decide) ?_
  refine z_isub hx hb dX6_hang_72 (by omega) ?_
  refine lv_dup2_11 hx hb dX6_hang_73 rfl rfl ?_
  refine z_iald (j := (0 + w) - 1) hx hb hG h_8 ⟨by omega, by omega⟩ dX6_hang_74 ?_
  refine z_top (y := nI (u + 1)) (by rw [zup_o (by omega), r1 w hw.1 hw.2]; exact hb9.1) ?_
  refine lv_iconst (v := nI (1)) hx hb dX6_hang_75 (by decide) ?_
  refine z_isub hx hb dX6_hang_76 (by omega) ?_
  refine z_iast (j := (0 + w) - 1) hx hb hG h_8 ⟨by omega, by omega⟩ hS (⟨1, by decide, rfl⟩) dX6_hang_77 (fun Hn locs h_16 o_17 hS => ?_)
  have k_18 := va_at.kept k_10 (o_17.2 _ (hinj.ne (by decide) (by decide) (by decide)))
  have k_19 := va_at.kept k_11 (o_17.2 _ (hinj.ne (by decide) (by decide) (by decide)))
  have k_20 := va_at.kept k_12 (o_17.2 _ (hinj.ne (by decide) (by decide) (by decide)))
  have k_21 := va_at.kept k_13 (o_17.2 _ (hinj.ne (by decide) (by decide) (by decide)))
  have k_22 := va_at.kept k_14 (o_17.2 _ (hinj.ne (by decide) (by decide) (by decide)))
  have k_23 := va_at.kept k_15 (o_17.2 _ (hinj.ne (by decide) (by decide) (by decide)))
  have hz : Hn.size = H.size := o_17.1.trans hz
  refine lv_aload_n hx hb dX6_hang_78 rfl (lv_at hl 0 rfl) ?_
  refine z_get (ref := RX6) (C := RX6) (T := TX6) (N := 11) hx hb hts hin6 hown hG k_18 rfl 0 (by decide) (by decide +kernel) rfl rfl dX6_hang_79 ?_
  refine lv_iconst (v := nI (0)) hx hb dX6_hang_82 (by decide) ?_
  refine lv_iload_n hx hb dX6_hang_83 rfl (lv_at hl 3 rfl) ?_
  refine z_iadd hx hb dX6_hang_84 ?_
  refine lv_iconst (v := nI (1)) hx hb dX6_hang_85 (by decide) ?_
  refine z_isub hx hb dX6_hang_86 (by omega) ?_
  refine z_iald (j := (0 + w) - 1) hx hb hG h_16 ⟨by omega, by omega⟩ dX6_hang_87 ?_
  refine z_top (y := nI (u)) (zup_s) ?_
  exact hret _ _ _ _ _ hS (hz) dX6_hang_88 (rfl) (⟨_, _, _, _, _, _, _, _, ⟨k_18, h_16, k_19, k_20, k_21, k_22, k_23⟩, zRep_bx1 (v := zsRg nw r (zSz nw r) (upd (zKd nw r) j (nI w))) (zOkB_rg hok.B hr hn.2) hw (zRep_rg1 hok.B hr hj hrep), hpa, hke, hbu⟩)

set_option maxHeartbeats 4000000 in
set_option maxRecDepth 100000 in
theorem c_X6_takeOff_0 (E : zEnv) {am : Nat → Nat} {nw sv : zS} {an : Bool} {hs : Nat → zS} {ct ln : Nat} {cd : Nat → Int32} {x y : Int32} (hok : zOk nw) (hinj : zInM am) (hct : ct ≤ 5) (hq : zfnd (zSz nw) x = none) : zWR E yX6_takeOff wsX6_takeOff 3 65 [.ref (am 0), .int (x), .int (y)] (fun H => zMW E am nw sv an hs ct ln cd H) (some (.int (-1))) (fun H => zMW E am nw sv an hs ct ln cd H) (zAM am) := by
  refine zWR.ofI (maxL := 4) rfl (Nat.le_of_ble_eq_true rfl) (fun p e s m args below meth c H Q hF hP hret ls hl => ?_)
  have S : CallFix p m c cX6_takeOff 4 s args wsX6_takeOff RX6 := hF.1
  have hG := hF.2
  obtain ⟨hx, hb, hml, hown, hts⟩ := id S
  have hS : va_S (zAM am) H H [] := va_S.rf
  obtain ⟨locs, hlocs⟩ : ∃ x : List Loc, x = [] := ⟨_, rfl⟩
  rw [← hlocs] at hS ⊢
  have hz : H.size = H.size := rfl
  obtain ⟨z, past, kept, buf, rg, td, tm, nb, ⟨h0, h1, h2, h3, h4, h5, h6⟩, hrep, hpa, hke, hbu⟩ := hP
  obtain ⟨r1, rwt, r3, r4, r5, r6, r7⟩ := id hrep
  have hl : lv_has ls 4 [(0, .ref (am 0)), (1, .int (x)), (2, .int (y))] := hl
  have hin6 : ∀ w ∈ u_ws RX6 TX6 11, w ∈ wsX6_takeOff := by decide +kernel
  refine lv_aload_n hx hb dX6_takeOff_0 rfl (lv_at hl 0 rfl) ?_
  refine lv_iload_n hx hb dX6_takeOff_1 rfl (lv_at hl 1 rfl) ?_
  refine lv_iload_n hx hb dX6_takeOff_2 rfl (lv_at hl 2 rfl) ?_
  refine z_roV (As := [.int (x), .int (y)]) (rest := []) (q := (RX6, TX6, 11)) S hG (c_X6_isSlot_0 E (z := z) (fun t ht => (r3 t ht).1) hok.h16 hq) 2 gX6_takeOff_X6_isSlot rfl kX6_isSlot ⟨Nat.le_of_ble_eq_true rfl, Nat.le_of_ble_eq_true rfl⟩ ⟨Nat.zero_le _, Nat.zero_le _⟩ (⟨h0, h1⟩) rfl h0 rfl hl.1 rfl rfl (Nat.le_of_ble_eq_true rfl) dX6_takeOff_3 ?_
  refine z_fne (tgt := 11) hx hb dX6_takeOff_6 (by decide) (by omega) (fun c_1 => by exfalso; omega) (fun c_1 => ?_)
  refine lv_iconst (v := (-1)) hx hb dX6_takeOff_9 (by decide) ?_
  exact hret _ _ _ _ _ hS (hz) dX6_takeOff_10 (rfl) (⟨_, _, _, _, _, _, _, _, ⟨h0, h1, h2, h3, h4, h5, h6⟩, hrep, hpa, hke, hbu⟩)

set_option maxHeartbeats 4000000 in
set_option maxRecDepth 100000 in
theorem c_X6_takeOff_1 (E : zEnv) {am : Nat → Nat} {nw sv : zS} {an : Bool} {hs : Nat → zS} {ct ln : Nat} {cd : Nat → Int32} {r : Nat} {y : Int32} (hok : zOk nw) (hinj : zInM am) (hct : ct ≤ 5) (hr : r < 6) (hr0 : zSz nw r ≠ 0) (hy : zin y 0 ((zSz nw r) - 1) = false) : zWR E yX6_takeOff wsX6_takeOff 3 65 [.ref (am 0), .int (nI (r)), .int (y)] (fun H => zMW E am nw sv an hs ct ln cd H) (some (.int (-1))) (fun H => zMW E am nw sv an hs ct ln cd H) (zAM am) := by
  refine zWR.ofI (maxL := 4) rfl (Nat.le_of_ble_eq_true rfl) (fun p e s m args below meth c H Q hF hP hret ls hl => ?_)
  have S : CallFix p m c cX6_takeOff 4 s args wsX6_takeOff RX6 := hF.1
  have hG := hF.2
  obtain ⟨hx, hb, hml, hown, hts⟩ := id S
  have hS : va_S (zAM am) H H [] := va_S.rf
  obtain ⟨locs, hlocs⟩ : ∃ x : List Loc, x = [] := ⟨_, rfl⟩
  rw [← hlocs] at hS ⊢
  have hz : H.size = H.size := rfl
  obtain ⟨z, past, kept, buf, rg, td, tm, nb, ⟨h0, h1, h2, h3, h4, h5, h6⟩, hrep, hpa, hke, hbu⟩ := hP
  obtain ⟨r1, rwt, r3, r4, r5, r6, r7⟩ := id hrep
  have hn := hok.sz hr hr0
  have hl : lv_has ls 4 [(0, .ref (am 0)), (1, .int (nI (r))), (2, .int (y))] := hl
  have hin6 : ∀ w ∈ u_ws RX6 TX6 11, w ∈ wsX6_takeOff := by decide +kernel
  refine lv_aload_n hx hb dX6_takeOff_0 rfl (lv_at hl 0 rfl) ?_
  refine lv_iload_n hx hb dX6_takeOff_1 rfl (lv_at hl 1 rfl) ?_
  refine lv_iload_n hx hb dX6_takeOff_2 rfl (lv_at hl 2 rfl) ?_
  refine z_roV (As := [.int (nI (r)), .int (y)]) (rest := []) (q := (RX6, TX6, 11)) S hG (c_X6_isSlot_1 E (z := z) (y := y) hr hn (r3 r hr).1) 2 gX6_takeOff_X6_isSlot rfl kX6_isSlot ⟨Nat.le_of_ble_eq_true rfl, Nat.le_of_ble_eq_true rfl⟩ ⟨Nat.zero_le _, Nat.zero_le _⟩ (⟨h0, h1⟩) rfl h0 rfl hl.1 rfl rfl (Nat.le_of_ble_eq_true rfl) dX6_takeOff_3 ?_
  refine z_bne (tgt := 11) hx hb dX6_takeOff_6 (by decide) (fun c_1 => by exfalso; rw [hy] at c_1; cases c_1) (fun c_1 => ?_)
  refine lv_iconst (v := (-1)) hx hb dX6_takeOff_9 (by decide) ?_
  exact hret _ _ _ _ _ hS (hz) dX6_takeOff_10 (rfl) (⟨_, _, _, _, _, _, _, _, ⟨h0, h1, h2, h3, h4, h5, h6⟩, hrep, hpa, hke, hbu⟩)

set_option maxHeartbeats 4000000 in
set_option maxRecDepth 100000 in
theorem c_X6_takeOff_2 (E : zEnv) {am : Nat → Nat} {nw sv : zS} {an : Bool} {hs : Nat → zS} {ct ln : Nat} {cd : Nat → Int32} {r j : Nat} (hok : zOk nw) (hinj : zInM am) (hct : ct ≤ 5) (hr : r < 6) (hr0 : zSz nw r ≠ 0) (hj : j < (zSz nw r)) (he : (zKd nw r) j = nI 0) : zWR E yX6_takeOff wsX6_takeOff 3 65 [.ref (am 0), .int (nI (r)), .int (nI (j))] (fun H => zMW E am nw sv an hs ct ln cd H) (some (.int (-3))) (fun H => zMW E am nw sv an hs ct ln cd H) (zAM am) := by
  refine zWR.ofI (maxL := 4) rfl (Nat.le_of_ble_eq_true rfl) (fun p e s m args below meth c H Q hF hP hret ls hl => ?_)
  have S : CallFix p m c cX6_takeOff 4 s args wsX6_takeOff RX6 := hF.1
  have hG := hF.2
  obtain ⟨hx, hb, hml, hown, hts⟩ := id S
  have hS : va_S (zAM am) H H [] := va_S.rf
  obtain ⟨locs, hlocs⟩ : ∃ x : List Loc, x = [] := ⟨_, rfl⟩
  rw [← hlocs] at hS ⊢
  have hz : H.size = H.size := rfl
  obtain ⟨z, past, kept, buf, rg, td, tm, nb, ⟨h0, h1, h2, h3, h4, h5, h6⟩, hrep, hpa, hke, hbu⟩ := hP
  obtain ⟨r1, rwt, r3, r4, r5, r6, r7⟩ := id hrep
  have hn := hok.sz hr hr0
  have hl : lv_has ls 4 [(0, .ref (am 0)), (1, .int (nI (r))), (2, .int (nI (j)))] := hl
  have hin6 : ∀ w ∈ u_ws RX6 TX6 11, w ∈ wsX6_takeOff := by decide +kernel
  refine lv_aload_n hx hb dX6_takeOff_0 rfl (lv_at hl 0 rfl) ?_
  refine lv_iload_n hx hb dX6_takeOff_1 rfl (lv_at hl 1 rfl) ?_
  refine lv_iload_n hx hb dX6_takeOff_2 rfl (lv_at hl 2 rfl) ?_
  refine z_roV (As := [.int (nI (r)), .int (nI (j))]) (rest := []) (q := (RX6, TX6, 11)) S hG (c_X6_isSlot_1 E (z := z) (y := (nI j)) hr hn (r3 r hr).1) 2 gX6_takeOff_X6_isSlot rfl kX6_isSlot ⟨Nat.le_of_ble_eq_true rfl, Nat.le_of_ble_eq_true rfl⟩ ⟨Nat.zero_le _, Nat.zero_le _⟩ (⟨h0, h1⟩) rfl h0 rfl hl.1 rfl rfl (Nat.le_of_ble_eq_true rfl) dX6_takeOff_3 ?_
  refine z_bne (tgt := 11) hx hb dX6_takeOff_6 (by decide) (fun c_1 => ?_) (fun c_1 => by exfalso; rw [zin_y (Nat.zero_le _) (by omega) (by omega)] at c_1; cases c_1)
  refine lv_aload_n hx hb dX6_takeOff_11 rfl (lv_at hl 0 rfl) ?_
  refine z_get (ref := RX6) (C := RX6) (T := TX6) (N := 11) hx hb hts hin6 hown hG h0 rfl 0 (by decide) (by decide +kernel) rfl rfl dX6_takeOff_12 ?_
  refine lv_aload_n hx hb dX6_takeOff_15 rfl (lv_at hl 0 rfl) ?_
  refine lv_iload_n hx hb dX6_takeOff_16 rfl (lv_at hl 1 rfl) ?_
  refine lv_iload_n hx hb dX6_takeOff_17 rfl (lv_at hl 2 rfl) ?_
  refine z_roV (As := [.int (nI (r)), .int (nI (j))]) (rest := [.ref (am 1)]) (q := (RX6, TX6, 11)) S hG (c_X6_at E (z := z) (i := r) (n := (zSz nw r)) (j := j) hr (r3 r hr).1 ⟨hj, hn.2⟩) 2 gX6_takeOff_X6_at rfl kX6_at ⟨Nat.le_of_ble_eq_true rfl, Nat.le_of_ble_eq_true rfl⟩ ⟨Nat.zero_le _, Nat.zero_le _⟩ (⟨h0, h1⟩) rfl h0 rfl hl.1 rfl rfl (Nat.le_of_ble_eq_true rfl) dX6_takeOff_18 ?_
  refine z_iald (j := 10 + 17 * r + 1 + j) hx hb hG h1 ⟨by omega, by omega⟩ dX6_takeOff_21 ?_
  refine z_top (y := nI (0)) (by rw [(r3 r hr).2 j hj, he]) ?_
  refine lv_istore_n (lv' := [(3, .int (nI (0))), (0, .ref (am 0)), (1, .int (nI (r))), (2, .int (nI (j)))]) hx hb dX6_takeOff_22 rfl hl (by decide) rfl (fun ls hl => ?_)
  refine lv_iload_n hx hb dX6_takeOff_23 rfl (lv_at hl 0 rfl) ?_
  refine z_feq (tgt := 42) hx hb dX6_takeOff_24 (by decide) (by omega) (fun c_2 => ?_) (fun c_2 => by exfalso; omega)
  refine lv_bipush (v := (-3)) hx hb dX6_takeOff_42 (by decide) ?_
  exact hret _ _ _ _ _ hS (hz) dX6_takeOff_44 (rfl) (⟨_, _, _, _, _, _, _, _, ⟨h0, h1, h2, h3, h4, h5, h6⟩, hrep, hpa, hke, hbu⟩)

set_option maxHeartbeats 4000000 in
set_option maxRecDepth 100000 in
theorem c_X6_takeOff_3 (E : zEnv) {am : Nat → Nat} {nw sv : zS} {an : Bool} {hs : Nat → zS} {ct ln : Nat} {cd : Nat → Int32} {r j w : Nat} (hok : zOk nw) (hinj : zInM am) (hct : ct ≤ 5) (hr : r < 6) (hr0 : zSz nw r ≠ 0) (hj : j < (zSz nw r)) (hw : 1 ≤ w ∧ w ≤ 5) (he : (zKd nw r) j = nI w) (hb9 : zBx nw w = nI 99) : zWR E yX6_takeOff wsX6_takeOff 3 65 [.ref (am 0), .int (nI (r)), .int (nI (j))] (fun H => zMW E am nw sv an hs ct ln cd H) (some (.int (-3))) (fun H => zMW E am nw sv an hs ct ln cd H) (zAM am) := by
  refine zWR.ofI (maxL := 4) rfl (Nat.le_of_ble_eq_true rfl) (fun p e s m args below meth c H Q hF hP hret ls hl => ?_)
  have S : CallFix p m c cX6_takeOff 4 s args wsX6_takeOff RX6 := hF.1
  have hG := hF.2
  obtain ⟨hx, hb, hml, hown, hts⟩ := id S
  have hS : va_S (zAM am) H H [] := va_S.rf
  obtain ⟨locs, hlocs⟩ : ∃ x : List Loc, x = [] := ⟨_, rfl⟩
  rw [← hlocs] at hS ⊢
  have hz : H.size = H.size := rfl
  obtain ⟨z, past, kept, buf, rg, td, tm, nb, ⟨h0, h1, h2, h3, h4, h5, h6⟩, hrep, hpa, hke, hbu⟩ := hP
  obtain ⟨r1, rwt, r3, r4, r5, r6, r7⟩ := id hrep
  have hn := hok.sz hr hr0
  have hl : lv_has ls 4 [(0, .ref (am 0)), (1, .int (nI (r))), (2, .int (nI (j)))] := hl
  have hin6 : ∀ w ∈ u_ws RX6 TX6 11, w ∈ wsX6_takeOff := by decide +kernel
  refine lv_aload_n hx hb dX6_takeOff_0 rfl (lv_at hl 0 rfl) ?_
  refine lv_iload_n hx hb dX6_takeOff_1 rfl (lv_at hl 1 rfl) ?_
  refine lv_iload_n hx hb dX6_takeOff_2 rfl (lv_at hl 2 rfl) ?_
  refine z_roV (As := [.int (nI (r)), .int (nI (j))]) (rest := []) (q := (RX6, TX6, 11)) S hG (c_X6_isSlot_1 E (z := z) (y := (nI j)) hr hn (r3 r hr).1) 2 gX6_takeOff_X6_isSlot rfl kX6_isSlot ⟨Nat.le_of_ble_eq_true rfl, Nat.le_of_ble_eq_true rfl⟩ ⟨Nat.zero_le _, Nat.zero_le _⟩ (⟨h0, h1⟩) rfl h0 rfl hl.1 rfl rfl (Nat.le_of_ble_eq_true rfl) dX6_takeOff_3 ?_
  refine z_bne (tgt := 11) hx hb dX6_takeOff_6 (by decide) (fun c_1 => ?_) (fun c_1 => by exfalso; rw [zin_y (Nat.zero_le _) (by omega) (by omega)] at c_1; cases c_1)
  refine lv_aload_n hx hb dX6_takeOff_11 rfl (lv_at hl 0 rfl) ?_
  refine z_get (ref := RX6) (C := RX6) (T := TX6) (N := 11) hx hb hts hin6 hown hG h0 rfl 0 (by decide) (by decide +kernel) rfl rfl dX6_takeOff_12 ?_
  refine lv_aload_n hx hb dX6_takeOff_15 rfl (lv_at hl 0 rfl) ?_
  refine lv_iload_n hx hb dX6_takeOff_16 rfl (lv_at hl 1 rfl) ?_
  refine lv_iload_n hx hb dX6_takeOff_17 rfl (lv_at hl 2 rfl) ?_
  refine z_roV (As := [.int (nI (r)), .int (nI (j))]) (rest := [.ref (am 1)]) (q := (RX6, TX6, 11)) S hG (c_X6_at E (z := z) (i := r) (n := (zSz nw r)) (j := j) hr (r3 r hr).1 ⟨hj, hn.2⟩) 2 gX6_takeOff_X6_at rfl kX6_at ⟨Nat.le_of_ble_eq_true rfl, Nat.le_of_ble_eq_true rfl⟩ ⟨Nat.zero_le _, Nat.zero_le _⟩ (⟨h0, h1⟩) rfl h0 rfl hl.1 rfl rfl (Nat.le_of_ble_eq_true rfl) dX6_takeOff_18 ?_
  refine z_iald (j := 10 + 17 * r + 1 + j) hx hb hG h1 ⟨by omega, by omega⟩ dX6_takeOff_21 ?_
  refine z_top (y := nI (w)) (by rw [(r3 r hr).2 j hj, he]) ?_
  refine lv_istore_n (lv' := [(3, .int (nI (w))), (0, .ref (am 0)), (1, .int (nI (r))), (2, .int (nI (j)))]) hx hb dX6_takeOff_22 rfl hl (by decide) rfl (fun ls hl => ?_)
  refine lv_iload_n hx hb dX6_takeOff_23 rfl (lv_at hl 0 rfl) ?_
  refine z_feq (tgt := 42) hx hb dX6_takeOff_24 (by decide) (by omega) (fun c_2 => by exfalso; omega) (fun c_2 => ?_)
  refine lv_aload_n hx hb dX6_takeOff_27 rfl (lv_at hl 1 rfl) ?_
  refine z_get (ref := RX6) (C := RX6) (T := TX6) (N := 11) hx hb hts hin6 hown hG h0 rfl 0 (by decide) (by decide +kernel) rfl rfl dX6_takeOff_28 ?_
  refine lv_iconst (v := nI (0)) hx hb dX6_takeOff_31 (by decide) ?_
  refine lv_iload_n hx hb dX6_takeOff_32 rfl (lv_at hl 0 rfl) ?_
  refine z_iadd hx hb dX6_takeOff_33 ?_
  refine lv_iconst (v := nI (1)) hx hb dX6_takeOff_34 (by decide) ?_
  refine z_isub hx hb dX6_takeOff_35 (by omega) ?_
  refine z_iald (j := (0 + w) - 1) hx hb hG h1 ⟨by omega, by omega⟩ dX6_takeOff_36 ?_
  refine z_top (y := nI (99)) (by rw [r1 w hw.1 hw.2, hb9]) ?_
  refine lv_bipush (v := nI (99)) hx hb dX6_takeOff_37 (by decide) ?_
  refine z_cne (tgt := 45) hx hb dX6_takeOff_39 (by decide) ⟨by omega, by omega⟩ (fun c_3 => by exfalso; omega) (fun c_3 => ?_)
  refine lv_bipush (v := (-3)) hx hb dX6_takeOff_42 (by decide) ?_
  exact hret _ _ _ _ _ hS (hz) dX6_takeOff_44 (rfl) (⟨_, _, _, _, _, _, _, _, ⟨h0, h1, h2, h3, h4, h5, h6⟩, hrep, hpa, hke, hbu⟩)

set_option maxHeartbeats 4000000 in
set_option maxRecDepth 100000 in
theorem c_X6_takeOff_4 (E : zEnv) {am : Nat → Nat} {nw sv : zS} {an : Bool} {hs : Nat → zS} {ct ln : Nat} {cd : Nat → Int32} {r j w u : Nat} (hok : zOk nw) (hinj : zInM am) (hct : ct ≤ 5) (hr : r < 6) (hr0 : zSz nw r ≠ 0) (hj : j < (zSz nw r)) (hw : 1 ≤ w ∧ w ≤ 5) (he : (zKd nw r) j = nI w) (hb9 : zBx nw w = nI u ∧ u < 99) : zWR E yX6_takeOff wsX6_takeOff 3 65 [.ref (am 0), .int (nI (r)), .int (nI (j))] (fun H => zMW E am nw sv an hs ct ln cd H) (some (.int (nI w))) (fun H => zMW E am (zsBx (zsRg nw r (zSz nw r) (upd (zKd nw r) j (nI 0))) (upd (zBx nw) w (nI (u + 1)))) sv an (zrH hs ct nw) (zrC ct) ln cd H) (zAM am) := by
  refine zWR.ofI (maxL := 4) rfl (Nat.le_of_ble_eq_true rfl) (fun p e s m args below meth c H Q hF hP hret ls hl => ?_)
  have S : CallFix p m c cX6_takeOff 4 s args wsX6_takeOff RX6 := hF.1
  have hG := hF.2
  obtain ⟨hx, hb, hml, hown, hts⟩ := id S
  have hS : va_S (zAM am) H H [] := va_S.rf
  obtain ⟨locs, hlocs⟩ : ∃ x : List Loc, x = [] := ⟨_, rfl⟩
  rw [← hlocs] at hS ⊢
  have hz : H.size = H.size := rfl
  obtain ⟨z, past, kept, buf, rg, td, tm, nb, ⟨h0, h1, h2, h3, h4, h5, h6⟩, hrep, hpa, hke, hbu⟩ := hP
  obtain ⟨r1, rwt, r3, r4, r5, r6, r7⟩ := id hrep
  have hn := hok.sz hr hr0
  have hl : lv_has ls 4 [(0, .ref (am 0)), (1, .int (nI (r))), (2, .int (nI (j)))] := hl
  have hin6 : ∀ w ∈ u_ws RX6 TX6 11, w ∈ wsX6_takeOff := by decide +kernel
  refine lv_aload_n hx hb dX6_takeOff_0 rfl (lv_at hl 0 rfl) ?_
  refine lv_iload_n hx hb dX6_takeOff_1 rfl (lv_at hl 1 rfl) ?_
  refine lv_iload_n hx hb dX6_takeOff_2 rfl (lv_at hl 2 rfl) ?_
  refine z_roV (As := [.int (nI (r)), .int (nI (j))]) (rest := []) (q := (RX6, TX6, 11)) S hG (c_X6_isSlot_1 E (z := z) (y := (nI j)) hr hn (r3 r hr).1) 2 gX6_takeOff_X6_isSlot rfl kX6_isSlot ⟨Nat.le_of_ble_eq_true rfl, Nat.le_of_ble_eq_true rfl⟩ ⟨Nat.zero_le _, Nat.zero_le _⟩ (⟨h0, h1⟩) rfl h0 rfl hl.1 rfl rfl (Nat.le_of_ble_eq_true rfl) dX6_takeOff_3 ?_
  refine z_bne (tgt := 11) hx hb dX6_takeOff_6 (by decide) (fun c_1 => ?_) (fun c_1 => by exfalso; rw [zin_y (Nat.zero_le _) (by omega) (by omega)] at c_1; cases c_1)
  refine lv_aload_n hx hb dX6_takeOff_11 rfl (lv_at hl 0 rfl) ?_
  refine z_get (ref := RX6) (C := RX6) (T := TX6) (N := 11) hx hb hts hin6 hown hG h0 rfl 0 (by decide) (by decide +kernel) rfl rfl dX6_takeOff_12 ?_
  refine lv_aload_n hx hb dX6_takeOff_15 rfl (lv_at hl 0 rfl) ?_
  refine lv_iload_n hx hb dX6_takeOff_16 rfl (lv_at hl 1 rfl) ?_
  refine lv_iload_n hx hb dX6_takeOff_17 rfl (lv_at hl 2 rfl) ?_
  refine z_roV (As := [.int (nI (r)), .int (nI (j))]) (rest := [.ref (am 1)]) (q := (RX6, TX6, 11)) S hG (c_X6_at E (z := z) (i := r) (n := (zSz nw r)) (j := j) hr (r3 r hr).1 ⟨hj, hn.2⟩) 2 gX6_takeOff_X6_at rfl kX6_at ⟨Nat.le_of_ble_eq_true rfl, Nat.le_of_ble_eq_true rfl⟩ ⟨Nat.zero_le _, Nat.zero_le _⟩ (⟨h0, h1⟩) rfl h0 rfl hl.1 rfl rfl (Nat.le_of_ble_eq_true rfl) dX6_takeOff_18 ?_
  refine z_iald (j := 10 + 17 * r + 1 + j) hx hb hG h1 ⟨by omega, by omega⟩ dX6_takeOff_21 ?_
  refine z_top (y := nI (w)) (by rw [(r3 r hr).2 j hj, he]) ?_
  refine lv_istore_n (lv' := [(3, .int (nI (w))), (0, .ref (am 0)), (1, .int (nI (r))), (2, .int (nI (j)))]) hx hb dX6_takeOff_22 rfl hl (by decide) rfl (fun ls hl => ?_)
  refine lv_iload_n hx hb dX6_takeOff_23 rfl (lv_at hl 0 rfl) ?_
  refine z_feq (tgt := 42) hx hb dX6_takeOff_24 (by decide) (by omega) (fun c_2 => by exfalso; omega) (fun c_2 => ?_)
  refine lv_aload_n hx hb dX6_takeOff_27 rfl (lv_at hl 1 rfl) ?_
  refine z_get (ref := RX6) (C := RX6) (T := TX6) (N := 11) hx hb hts hin6 hown hG h0 rfl 0 (by decide) (by decide +kernel) rfl rfl dX6_takeOff_28 ?_
  refine lv_iconst (v := nI (0)) hx hb dX6_takeOff_31 (by decide) ?_
  refine lv_iload_n hx hb dX6_takeOff_32 rfl (lv_at hl 0 rfl) ?_
  refine z_iadd hx hb dX6_takeOff_33 ?_
  refine lv_iconst (v := nI (1)) hx hb dX6_takeOff_34 (by decide) ?_
  refine z_isub hx hb dX6_takeOff_35 (by omega) ?_
  refine z_iald (j := (0 + w) - 1) hx hb hG h1 ⟨by omega, by omega⟩ dX6_takeOff_36 ?_
  refine z_top (y := nI (u)) (by rw [r1 w hw.1 hw.2]; exact hb9.1) ?_
  refine lv_bipush (v := nI (99)) hx hb dX6_takeOff_37 (by decide) ?_
  refine z_cne (tgt := 45) hx hb dX6_takeOff_39 (by decide) ⟨by omega, by omega⟩ (fun c_3 => ?_) (fun c_3 => by exfalso; omega)
  refine lv_aload_n hx hb dX6_takeOff_45 rfl (lv_at hl 1 rfl) ?_
  refine z_wrV (As := []) (rest := []) (q := (RX6, TX6, 11)) S hG (c_X6_record E hinj hct hok hrep hpa) 0 gX6_takeOff_X6_record rfl kX6_record ⟨Nat.le_of_ble_eq_true rfl, Nat.le_of_ble_eq_true rfl⟩ ⟨Nat.zero_le _, Nat.zero_le _⟩ (⟨h0, h1, h2, h3, h4, h5, h6⟩) rfl h0 rfl hl.1 rfl rfl (Nat.le_of_ble_eq_true rfl) dX6_takeOff_46 hS (fun _ h => h) (fun Hn locs h_5 q_4 o_6 hS => ?_)
  have hz : Hn.size = H.size := q_4.trans hz
  obtain ⟨past, ⟨h0, h1, h2, h3, h4, h5, h6⟩, hpa⟩ := h_5
  refine lv_aload_n hx hb dX6_takeOff_49 rfl (lv_at hl 1 rfl) ?_
  refine z_get (ref := RX6) (C := RX6) (T := TX6) (N := 11) hx hb hts hin6 hown hG h0 rfl 0 (by decide) (by decide +kernel) rfl rfl dX6_takeOff_50 ?_
  refine lv_aload_n hx hb dX6_takeOff_53 rfl (lv_at hl 1 rfl) ?_
  refine lv_iload_n hx hb dX6_takeOff_54 rfl (lv_at hl 2 rfl) ?_
  refine lv_iload_n hx hb dX6_takeOff_55 rfl (lv_at hl 3 rfl) ?_
  refine z_roV (As := [.int (nI (r)), .int (nI (j))]) (rest := [.ref (am 1)]) (q := (RX6, TX6, 11)) S hG (c_X6_at E (z := z) (i := r) (n := (zSz nw r)) (j := j) hr (r3 r hr).1 ⟨hj, hn.2⟩) 2 gX6_takeOff_X6_at rfl kX6_at ⟨Nat.le_of_ble_eq_true rfl, Nat.le_of_ble_eq_true rfl⟩ ⟨Nat.zero_le _, Nat.zero_le _⟩ (⟨h0, h1⟩) rfl h0 rfl hl.1 rfl rfl (Nat.le_of_ble_eq_true rfl) dX6_takeOff_56 ?_
  refine lv_iconst (v := nI (0)) hx hb dX6_takeOff_59 (by decide) ?_
  refine z_iast (j := 10 + 17 * r + 1 + j) hx hb hG h1 ⟨by omega, by omega⟩ hS (⟨1, by decide, rfl⟩) dX6_takeOff_60 (fun Hn locs h_7 o_8 hS => ?_)
  have k_9 := va_at.kept h0 (o_8.2 _ (hinj.ne (by decide) (by decide) (by decide)))
  have k_10 := va_at.kept h2 (o_8.2 _ (hinj.ne (by decide) (by decide) (by decide)))
  have k_11 := va_at.kept h3 (o_8.2 _ (hinj.ne (by decide) (by decide) (by decide)))
  have k_12 := va_at.kept h4 (o_8.2 _ (hinj.ne (by decide) (by decide) (by decide)))
  have k_13 := va_at.kept h5 (o_8.2 _ (hinj.ne (by decide) (by decide) (by decide)))
  have k_14 := va_at.kept h6 (o_8.2 _ (hinj.ne (by decide) (by decide) (by decide)))
  have hz : Hn.size = H.size := o_8.1.trans hz
  refine lv_aload_n hx hb dX6_takeOff_61 rfl (lv_at hl 1 rfl) ?_
  refine z_get (ref := RX6) (C := RX6) (T := TX6) (N := 11) hx hb hts hin6 hown hG k_9 rfl 0 (by decide) (by decide +kernel) rfl rfl dX6_takeOff_62 ?_
  refine lv_iconst (v := nI (0)) hx hb dX6_takeOff_65 (by decide) ?_
  refine lv_iload_n hx hb dX6_takeOff_66 rfl (lv_at hl 0 rfl) ?_
  refine z_iadd hx hb dX6_takeOff_67 ?_
  refine lv_iconst (v := nI (1)) hx hb dX6_takeOff_68 (by decide) ?_
  refine z_isub hx hb dX6_takeOff_69 (by omega) ?_
  refine lv_dup2_11 hx hb dX6_takeOff_70 rfl rfl ?_
  refine z_iald (j := (0 + w) - 1) hx hb hG h_7 ⟨by omega, by omega⟩ dX6_takeOff_71 ?_
  refine z_top (y := nI (u)) (by rw [zup_o (by omega), r1 w hw.1 hw.2]; exact hb9.1) ?_
  refine lv_iconst (v := nI (1)) hx hb dX6_takeOff_72 (by decide) ?_
  refine z_iadd hx hb dX6_takeOff_73 ?_
  refine z_iast (j := (0 + w) - 1) hx hb hG h_7 ⟨by omega, by omega⟩ hS (⟨1, by decide, rfl⟩) dX6_takeOff_74 (fun Hn locs h_15 o_16 hS => ?_)
  have k_17 := va_at.kept k_9 (o_16.2 _ (hinj.ne (by decide) (by decide) (by decide)))
  have k_18 := va_at.kept k_10 (o_16.2 _ (hinj.ne (by decide) (by decide) (by decide)))
  have k_19 := va_at.kept k_11 (o_16.2 _ (hinj.ne (by decide) (by decide) (by decide)))
  have k_20 := va_at.kept k_12 (o_16.2 _ (hinj.ne (by decide) (by decide) (by decide)))
  have k_21 := va_at.kept k_13 (o_16.2 _ (hinj.ne (by decide) (by decide) (by decide)))
  have k_22 := va_at.kept k_14 (o_16.2 _ (hinj.ne (by decide) (by decide) (by decide)))
  have hz : Hn.size = H.size := o_16.1.trans hz
  refine lv_iload_n hx hb dX6_takeOff_75 rfl (lv_at hl 0 rfl) ?_
  exact hret _ _ _ _ _ hS (hz) dX6_takeOff_76 (rfl) (⟨_, _, _, _, _, _, _, _, ⟨k_17, h_15, k_18, k_19, k_20, k_21, k_22⟩, zRep_bx1 (v := zsRg nw r (zSz nw r) (upd (zKd nw r) j (nI 0))) (zOkB_rg hok.B hr hn.2) hw (zRep_rg1 hok.B hr hj hrep), hpa, hke, hbu⟩)

set_option maxHeartbeats 4000000 in
set_option maxRecDepth 100000 in
theorem c_X6_swap_0 (E : zEnv) {am : Nat → Nat} {nw sv : zS} {an : Bool} {hs : Nat → zS} {ct ln : Nat} {cd : Nat → Int32} {x y w : Int32} (hok : zOk nw) (hinj : zInM am) (hct : ct ≤ 5) (hq : zfnd (zSz nw) x = none) : zWR E yX6_swap wsX6_swap 4 89 [.ref (am 0), .int (x), .int (y), .int (w)] (fun H => zMW E am nw sv an hs ct ln cd H) (some (.int (-1))) (fun H => zMW E am nw sv an hs ct ln cd H) (zAM am) := by
  refine zWR.ofI (maxL := 4) rfl (Nat.le_of_ble_eq_true rfl) (fun p e s m args below meth c H Q hF hP hret ls hl => ?_)
  have S : CallFix p m c cX6_swap 4 s args wsX6_swap RX6 := hF.1
  have hG := hF.2
  obtain ⟨hx, hb, hml, hown, hts⟩ := id S
  have hS : va_S (zAM am) H H [] := va_S.rf
  obtain ⟨locs, hlocs⟩ : ∃ x : List Loc, x = [] := ⟨_, rfl⟩
  rw [← hlocs] at hS ⊢
  have hz : H.size = H.size := rfl
  obtain ⟨z, past, kept, buf, rg, td, tm, nb, ⟨h0, h1, h2, h3, h4, h5, h6⟩, hrep, hpa, hke, hbu⟩ := hP
  obtain ⟨r1, rwt, r3, r4, r5, r6, r7⟩ := id hrep
  have hl : lv_has ls 4 [(0, .ref (am 0)), (1, .int (x)), (2, .int (y)), (3, .int (w))] := hl
  refine lv_aload_n hx hb dX6_swap_0 rfl (lv_at hl 0 rfl) ?_
  refine lv_iload_n hx hb dX6_swap_1 rfl (lv_at hl 1 rfl) ?_
  refine lv_iload_n hx hb dX6_swap_2 rfl (lv_at hl 2 rfl) ?_
  refine z_roV (As := [.int (x), .int (y)]) (rest := []) (q := (RX6, TX6, 11)) S hG (c_X6_isSlot_0 E (z := z) (fun t ht => (r3 t ht).1) hok.h16 hq) 2 gX6_swap_X6_isSlot rfl kX6_isSlot ⟨Nat.le_of_ble_eq_true rfl, Nat.le_of_ble_eq_true rfl⟩ ⟨Nat.zero_le _, Nat.zero_le _⟩ (⟨h0, h1⟩) rfl h0 rfl hl.1 rfl rfl (Nat.le_of_ble_eq_true rfl) dX6_swap_3 ?_
  refine z_feq (tgt := 18) hx hb dX6_swap_6 (by decide) (by omega) (fun c_1 => ?_) (fun c_1 => by exfalso; omega)
  refine lv_iconst (v := (-1)) hx hb dX6_swap_18 (by decide) ?_
  exact hret _ _ _ _ _ hS (hz) dX6_swap_19 (rfl) (⟨_, _, _, _, _, _, _, _, ⟨h0, h1, h2, h3, h4, h5, h6⟩, hrep, hpa, hke, hbu⟩)

set_option maxHeartbeats 4000000 in
set_option maxRecDepth 100000 in
theorem c_X6_swap_1 (E : zEnv) {am : Nat → Nat} {nw sv : zS} {an : Bool} {hs : Nat → zS} {ct ln : Nat} {cd : Nat → Int32} {r : Nat} {y w : Int32} (hok : zOk nw) (hinj : zInM am) (hct : ct ≤ 5) (hr : r < 6) (hr0 : zSz nw r ≠ 0) (hy : zin y 0 ((zSz nw r) - 1) = false) : zWR E yX6_swap wsX6_swap 4 89 [.ref (am 0), .int (nI (r)), .int (y), .int (w)] (fun H => zMW E am nw sv an hs ct ln cd H) (some (.int (-1))) (fun H => zMW E am nw sv an hs ct ln cd H) (zAM am) := by
  refine zWR.ofI (maxL := 4) rfl (Nat.le_of_ble_eq_true rfl) (fun p e s m args below meth c H Q hF hP hret ls hl => ?_)
  have S : CallFix p m c cX6_swap 4 s args wsX6_swap RX6 := hF.1
  have hG := hF.2
  obtain ⟨hx, hb, hml, hown, hts⟩ := id S
  have hS : va_S (zAM am) H H [] := va_S.rf
  obtain ⟨locs, hlocs⟩ : ∃ x : List Loc, x = [] := ⟨_, rfl⟩
  rw [← hlocs] at hS ⊢
  have hz : H.size = H.size := rfl
  obtain ⟨z, past, kept, buf, rg, td, tm, nb, ⟨h0, h1, h2, h3, h4, h5, h6⟩, hrep, hpa, hke, hbu⟩ := hP
  obtain ⟨r1, rwt, r3, r4, r5, r6, r7⟩ := id hrep
  have hn := hok.sz hr hr0
  have hl : lv_has ls 4 [(0, .ref (am 0)), (1, .int (nI (r))), (2, .int (y)), (3, .int (w))] := hl
  refine lv_aload_n hx hb dX6_swap_0 rfl (lv_at hl 0 rfl) ?_
  refine lv_iload_n hx hb dX6_swap_1 rfl (lv_at hl 1 rfl) ?_
  refine lv_iload_n hx hb dX6_swap_2 rfl (lv_at hl 2 rfl) ?_
  refine z_roV (As := [.int (nI (r)), .int (y)]) (rest := []) (q := (RX6, TX6, 11)) S hG (c_X6_isSlot_1 E (z := z) (y := y) hr hn (r3 r hr).1) 2 gX6_swap_X6_isSlot rfl kX6_isSlot ⟨Nat.le_of_ble_eq_true rfl, Nat.le_of_ble_eq_true rfl⟩ ⟨Nat.zero_le _, Nat.zero_le _⟩ (⟨h0, h1⟩) rfl h0 rfl hl.1 rfl rfl (Nat.le_of_ble_eq_true rfl) dX6_swap_3 ?_
  refine z_beq (tgt := 18) hx hb dX6_swap_6 (by decide) (fun c_1 => ?_) (fun c_1 => by exfalso; rw [hy] at c_1; cases c_1)
  refine lv_iconst (v := (-1)) hx hb dX6_swap_18 (by decide) ?_
  exact hret _ _ _ _ _ hS (hz) dX6_swap_19 (rfl) (⟨_, _, _, _, _, _, _, _, ⟨h0, h1, h2, h3, h4, h5, h6⟩, hrep, hpa, hke, hbu⟩)

set_option maxHeartbeats 4000000 in
set_option maxRecDepth 100000 in
theorem c_X6_swap_2 (E : zEnv) {am : Nat → Nat} {nw sv : zS} {an : Bool} {hs : Nat → zS} {ct ln : Nat} {cd : Nat → Int32} {r j : Nat} {w : Int32} (hok : zOk nw) (hinj : zInM am) (hct : ct ≤ 5) (hr : r < 6) (hr0 : zSz nw r ≠ 0) (hj : j < (zSz nw r)) (hw : zin w 0 ((zSz nw r) - 1) = false) : zWR E yX6_swap wsX6_swap 4 89 [.ref (am 0), .int (nI (r)), .int (nI (j)), .int (w)] (fun H => zMW E am nw sv an hs ct ln cd H) (some (.int (-1))) (fun H => zMW E am nw sv an hs ct ln cd H) (zAM am) := by
  refine zWR.ofI (maxL := 4) rfl (Nat.le_of_ble_eq_true rfl) (fun p e s m args below meth c H Q hF hP hret ls hl => ?_)
  have S : CallFix p m c cX6_swap 4 s args wsX6_swap RX6 := hF.1
  have hG := hF.2
  obtain ⟨hx, hb, hml, hown, hts⟩ := id S
  have hS : va_S (zAM am) H H [] := va_S.rf
  obtain ⟨locs, hlocs⟩ : ∃ x : List Loc, x = [] := ⟨_, rfl⟩
  rw [← hlocs] at hS ⊢
  have hz : H.size = H.size := rfl
  obtain ⟨z, past, kept, buf, rg, td, tm, nb, ⟨h0, h1, h2, h3, h4, h5, h6⟩, hrep, hpa, hke, hbu⟩ := hP
  obtain ⟨r1, rwt, r3, r4, r5, r6, r7⟩ := id hrep
  have hn := hok.sz hr hr0
  have hl : lv_has ls 4 [(0, .ref (am 0)), (1, .int (nI (r))), (2, .int (nI (j))), (3, .int (w))] := hl
  refine lv_aload_n hx hb dX6_swap_0 rfl (lv_at hl 0 rfl) ?_
  refine lv_iload_n hx hb dX6_swap_1 rfl (lv_at hl 1 rfl) ?_
  refine lv_iload_n hx hb dX6_swap_2 rfl (lv_at hl 2 rfl) ?_
  refine z_roV (As := [.int (nI (r)), .int (nI (j))]) (rest := []) (q := (RX6, TX6, 11)) S hG (c_X6_isSlot_1 E (z := z) (y := (nI j)) hr hn (r3 r hr).1) 2 gX6_swap_X6_isSlot rfl kX6_isSlot ⟨Nat.le_of_ble_eq_true rfl, Nat.le_of_ble_eq_true rfl⟩ ⟨Nat.zero_le _, Nat.zero_le _⟩ (⟨h0, h1⟩) rfl h0 rfl hl.1 rfl rfl (Nat.le_of_ble_eq_true rfl) dX6_swap_3 ?_
  refine z_beq (tgt := 18) hx hb dX6_swap_6 (by decide) (fun c_1 => by exfalso; rw [zin_y (Nat.zero_le _) (by omega) (by omega)] at c_1; cases c_1) (fun c_1 => ?_)
  refine lv_aload_n hx hb dX6_swap_9 rfl (lv_at hl 0 rfl) ?_
  refine lv_iload_n hx hb dX6_swap_10 rfl (lv_at hl 1 rfl) ?_
  refine lv_iload_n hx hb dX6_swap_11 rfl (lv_at hl 3 rfl) ?_
  refine z_roV (As := [.int (nI (r)), .int (w)]) (rest := []) (q := (RX6, TX6, 11)) S hG (c_X6_isSlot_1 E (z := z) (y := w) hr hn (r3 r hr).1) 2 gX6_swap_X6_isSlot rfl kX6_isSlot ⟨Nat.le_of_ble_eq_true rfl, Nat.le_of_ble_eq_true rfl⟩ ⟨Nat.zero_le _, Nat.zero_le _⟩ (⟨h0, h1⟩) rfl h0 rfl hl.1 rfl rfl (Nat.le_of_ble_eq_true rfl) dX6_swap_12 ?_
  refine z_bne (tgt := 20) hx hb dX6_swap_15 (by decide) (fun c_2 => by exfalso; rw [hw] at c_2; cases c_2) (fun c_2 => ?_)
  refine lv_iconst (v := (-1)) hx hb dX6_swap_18 (by decide) ?_
  exact hret _ _ _ _ _ hS (hz) dX6_swap_19 (rfl) (⟨_, _, _, _, _, _, _, _, ⟨h0, h1, h2, h3, h4, h5, h6⟩, hrep, hpa, hke, hbu⟩)

set_option maxHeartbeats 4000000 in
set_option maxRecDepth 100000 in
theorem c_X6_swap_3 (E : zEnv) {am : Nat → Nat} {nw sv : zS} {an : Bool} {hs : Nat → zS} {ct ln : Nat} {cd : Nat → Int32} {r j w : Nat} (hok : zOk nw) (hinj : zInM am) (hct : ct ≤ 5) (hr : r < 6) (hr0 : zSz nw r ≠ 0) (hj : j < (zSz nw r)) (hw : w < (zSz nw r)) : zWR E yX6_swap wsX6_swap 4 89 [.ref (am 0), .int (nI (r)), .int (nI (j)), .int (nI (w))] (fun H => zMW E am nw sv an hs ct ln cd H) (some (.int (zlean (zWt nw) (zSz nw r) (zxc (zKd nw r) j w)))) (fun H => zMW E am (zsRg nw r (zSz nw r) (zxc (zKd nw r) j w)) sv an (zrH hs ct nw) (zrC ct) ln cd H) (zAM am) := by
  refine zWR.ofI (maxL := 4) rfl (Nat.le_of_ble_eq_true rfl) (fun p e s m args below meth c H Q hF hP hret ls hl => ?_)
  have S : CallFix p m c cX6_swap 4 s args wsX6_swap RX6 := hF.1
  have hG := hF.2
  obtain ⟨hx, hb, hml, hown, hts⟩ := id S
  have hS : va_S (zAM am) H H [] := va_S.rf
  obtain ⟨locs, hlocs⟩ : ∃ x : List Loc, x = [] := ⟨_, rfl⟩
  rw [← hlocs] at hS ⊢
  have hz : H.size = H.size := rfl
  obtain ⟨z, past, kept, buf, rg, td, tm, nb, ⟨h0, h1, h2, h3, h4, h5, h6⟩, hrep, hpa, hke, hbu⟩ := hP
  obtain ⟨r1, rwt, r3, r4, r5, r6, r7⟩ := id hrep
  have hn := hok.sz hr hr0
  have hm4 := hok.m4 hr
  have hl : lv_has ls 4 [(0, .ref (am 0)), (1, .int (nI (r))), (2, .int (nI (j))), (3, .int (nI (w)))] := hl
  refine lv_aload_n hx hb dX6_swap_0 rfl (lv_at hl 0 rfl) ?_
  refine lv_iload_n hx hb dX6_swap_1 rfl (lv_at hl 1 rfl) ?_
  refine lv_iload_n hx hb dX6_swap_2 rfl (lv_at hl 2 rfl) ?_
  refine z_roV (As := [.int (nI (r)), .int (nI (j))]) (rest := []) (q := (RX6, TX6, 11)) S hG (c_X6_isSlot_1 E (z := z) (y := (nI j)) hr hn (r3 r hr).1) 2 gX6_swap_X6_isSlot rfl kX6_isSlot ⟨Nat.le_of_ble_eq_true rfl, Nat.le_of_ble_eq_true rfl⟩ ⟨Nat.zero_le _, Nat.zero_le _⟩ (⟨h0, h1⟩) rfl h0 rfl hl.1 rfl rfl (Nat.le_of_ble_eq_true rfl) dX6_swap_3 ?_
  refine z_beq (tgt := 18) hx hb dX6_swap_6 (by decide) (fun c_1 => by exfalso; rw [zin_y (Nat.zero_le _) (by omega) (by omega)] at c_1; cases c_1) (fun c_1 => ?_)
  refine lv_aload_n hx hb dX6_swap_9 rfl (lv_at hl 0 rfl) ?_
  refine lv_iload_n hx hb dX6_swap_10 rfl (lv_at hl 1 rfl) ?_
  refine lv_iload_n hx hb dX6_swap_11 rfl (lv_at hl 3 rfl) ?_
  refine z_roV (As := [.int (nI (r)), .int (nI (w))]) (rest := []) (q := (RX6, TX6, 11)) S hG (c_X6_isSlot_1 E (z := z) (y := (nI w)) hr hn (r3 r hr).1) 2 gX6_swap_X6_isSlot rfl kX6_isSlot ⟨Nat.le_of_ble_eq_true rfl, Nat.le_of_ble_eq_true rfl⟩ ⟨Nat.zero_le _, Nat.zero_le _⟩ (⟨h0, h1⟩) rfl h0 rfl hl.1 rfl rfl (Nat.le_of_ble_eq_true rfl) dX6_swap_12 ?_
  refine z_bne (tgt := 20) hx hb dX6_swap_15 (by decide) (fun c_2 => ?_) (fun c_2 => by exfalso; rw [zin_y (Nat.zero_le _) (by omega) (by omega)] at c_2; cases c_2)
  refine lv_aload_n hx hb dX6_swap_20 rfl (lv_at hl 0 rfl) ?_
  refine z_wrV (As := []) (rest := []) (q := (RX6, TX6, 11)) S hG (c_X6_record E hinj hct hok hrep hpa) 0 gX6_swap_X6_record rfl kX6_record ⟨Nat.le_of_ble_eq_true rfl, Nat.le_of_ble_eq_true rfl⟩ ⟨Nat.zero_le _, Nat.zero_le _⟩ (⟨h0, h1, h2, h3, h4, h5, h6⟩) rfl h0 rfl hl.1 rfl rfl (Nat.le_of_ble_eq_true rfl) dX6_swap_21 hS (fun _ h => h) (fun Hn locs h_4 q_3 o_5 hS => ?_)
  have hz : Hn.size = H.size := q_3.trans hz
  obtain ⟨past, ⟨h0, h1, h2, h3, h4, h5, h6⟩, hpa⟩ := h_4
  refine lv_aload_n hx hb dX6_swap_24 rfl (lv_at hl 0 rfl) ?_
  refine lv_iload_n hx hb dX6_swap_25 rfl (lv_at hl 1 rfl) ?_
  refine lv_iload_n hx hb dX6_swap_26 rfl (lv_at hl 2 rfl) ?_
  refine lv_iload_n hx hb dX6_swap_27 rfl (lv_at hl 3 rfl) ?_
  refine z_wrV (As := [.int (nI (r)), .int (nI (j)), .int (nI (w))]) (rest := []) (q := (RX6, TX6, 11)) S hG (c_X6_exchange E hinj (i := r) (n := (zSz nw r)) (x := j) (y := w) hr (r3 r hr).1 ⟨hj, hn.2⟩ ⟨hw, hn.2⟩) 3 gX6_swap_X6_exchange rfl kX6_exchange ⟨Nat.le_of_ble_eq_true rfl, Nat.le_of_ble_eq_true rfl⟩ ⟨Nat.zero_le _, Nat.zero_le _⟩ (⟨h0, h1, h2, h3, h4, h5, h6⟩) rfl h0 rfl hl.1 rfl rfl (Nat.le_of_ble_eq_true rfl) dX6_swap_28 hS (fun _ h => h) (fun Hn locs h_7 q_6 o_8 hS => ?_)
  have hz : Hn.size = H.size := q_6.trans hz
  obtain ⟨h0, h1, h2, h3, h4, h5, h6⟩ := h_7
  refine lv_aload_n hx hb dX6_swap_31 rfl (lv_at hl 0 rfl) ?_
  refine lv_iload_n hx hb dX6_swap_32 rfl (lv_at hl 1 rfl) ?_
  refine z_roV (As := [.int (nI (r))]) (rest := []) (q := (RX6, TX6, 11)) S hG (c_X6_lean E (z := (upd (upd z (10 + 17 * r + 1 + j) (z (10 + 17 * r + 1 + w))) (10 + 17 * r + 1 + w) (z (10 + 17 * r + 1 + j)))) (i := r) (n := (zSz nw r)) (f := zxc (zKd nw r) j w) (wt := zWt nw) hr hn (zmr_xc (r3 r hr) hj hw) hm4 (fun s hs => zxc_k (fun s hs => hok.2.1 r hr s hs) (hj) (hw) hs) (fun t a b => by rw [zup_o (by omega), zup_o (by omega)]; exact rwt t a b)) 1 gX6_swap_X6_lean rfl kX6_lean ⟨Nat.le_of_ble_eq_true rfl, Nat.le_of_ble_eq_true rfl⟩ ⟨Nat.zero_le _, Nat.zero_le _⟩ (⟨h0, h1⟩) rfl h0 rfl hl.1 rfl rfl (Nat.le_of_ble_eq_true rfl) dX6_swap_33 ?_
  exact hret _ _ _ _ _ hS (hz) dX6_swap_36 (rfl) (⟨_, _, _, _, _, _, _, _, ⟨h0, h1, h2, h3, h4, h5, h6⟩, zRep_xc hok.B hr hj hw hrep, hpa, hke, hbu⟩)

set_option maxHeartbeats 4000000 in
set_option maxRecDepth 100000 in
theorem c_X6_roll_0 (E : zEnv) {am : Nat → Nat} {nw sv : zS} {an : Bool} {hs : Nat → zS} {ct ln : Nat} {cd : Nat → Int32} {x y : Int32} (hok : zOk nw) (hinj : zInM am) (hct : ct ≤ 5) (hq : zfnd (zSz nw) x = none) : zWR E yX6_roll wsX6_roll 4 95 [.ref (am 0), .int (x), .int (y)] (fun H => zMW E am nw sv an hs ct ln cd H) (some (.int (-1))) (fun H => zMW E am nw sv an hs ct ln cd H) (zAM am) := by
  refine zWR.ofI (maxL := 3) rfl (Nat.le_of_ble_eq_true rfl) (fun p e s m args below meth c H Q hF hP hret ls hl => ?_)
  have S : CallFix p m c cX6_roll 3 s args wsX6_roll RX6 := hF.1
  have hG := hF.2
  obtain ⟨hx, hb, hml, hown, hts⟩ := id S
  have hS : va_S (zAM am) H H [] := va_S.rf
  obtain ⟨locs, hlocs⟩ : ∃ x : List Loc, x = [] := ⟨_, rfl⟩
  rw [← hlocs] at hS ⊢
  have hz : H.size = H.size := rfl
  obtain ⟨z, past, kept, buf, rg, td, tm, nb, ⟨h0, h1, h2, h3, h4, h5, h6⟩, hrep, hpa, hke, hbu⟩ := hP
  obtain ⟨r1, rwt, r3, r4, r5, r6, r7⟩ := id hrep
  have hl : lv_has ls 3 [(0, .ref (am 0)), (1, .int (x)), (2, .int (y))] := hl
  refine lv_aload_n hx hb dX6_roll_0 rfl (lv_at hl 0 rfl) ?_
  refine lv_iload_n hx hb dX6_roll_1 rfl (lv_at hl 1 rfl) ?_
  refine z_roV (As := [.int (x)]) (rest := []) (q := (RX6, TX6, 11)) S hG (c_X6_isBracelet_0 E (z := z) (fun t ht => (r3 t ht).1) hok.h16 hq) 1 gX6_roll_X6_isBracelet rfl kX6_isBracelet ⟨Nat.le_of_ble_eq_true rfl, Nat.le_of_ble_eq_true rfl⟩ ⟨Nat.zero_le _, Nat.zero_le _⟩ (⟨h0, h1⟩) rfl h0 rfl hl.1 rfl rfl (Nat.le_of_ble_eq_true rfl) dX6_roll_2 ?_
  refine z_fne (tgt := 10) hx hb dX6_roll_5 (by decide) (by omega) (fun c_1 => by exfalso; omega) (fun c_1 => ?_)
  refine lv_iconst (v := (-1)) hx hb dX6_roll_8 (by decide) ?_
  exact hret _ _ _ _ _ hS (hz) dX6_roll_9 (rfl) (⟨_, _, _, _, _, _, _, _, ⟨h0, h1, h2, h3, h4, h5, h6⟩, hrep, hpa, hke, hbu⟩)

set_option maxHeartbeats 4000000 in
set_option maxRecDepth 100000 in
theorem c_X6_roll_1 (E : zEnv) {am : Nat → Nat} {nw sv : zS} {an : Bool} {hs : Nat → zS} {ct ln : Nat} {cd : Nat → Int32} {r : Nat} {y : Int32} (hok : zOk nw) (hinj : zInM am) (hct : ct ≤ 5) (hr : r < 6) (hr0 : zSz nw r ≠ 0) (hy : zin y 0 ((zSz nw r) - 1) = false) : zWR E yX6_roll wsX6_roll 4 95 [.ref (am 0), .int (nI (r)), .int (y)] (fun H => zMW E am nw sv an hs ct ln cd H) (some (.int (-2))) (fun H => zMW E am nw sv an hs ct ln cd H) (zAM am) := by
  refine zWR.ofI (maxL := 3) rfl (Nat.le_of_ble_eq_true rfl) (fun p e s m args below meth c H Q hF hP hret ls hl => ?_)
  have S : CallFix p m c cX6_roll 3 s args wsX6_roll RX6 := hF.1
  have hG := hF.2
  obtain ⟨hx, hb, hml, hown, hts⟩ := id S
  have hS : va_S (zAM am) H H [] := va_S.rf
  obtain ⟨locs, hlocs⟩ : ∃ x : List Loc, x = [] := ⟨_, rfl⟩
  rw [← hlocs] at hS ⊢
  have hz : H.size = H.size := rfl
  obtain ⟨z, past, kept, buf, rg, td, tm, nb, ⟨h0, h1, h2, h3, h4, h5, h6⟩, hrep, hpa, hke, hbu⟩ := hP
  obtain ⟨r1, rwt, r3, r4, r5, r6, r7⟩ := id hrep
  have hn := hok.sz hr hr0
  have hl : lv_has ls 3 [(0, .ref (am 0)), (1, .int (nI (r))), (2, .int (y))] := hl
  refine lv_aload_n hx hb dX6_roll_0 rfl (lv_at hl 0 rfl) ?_
  refine lv_iload_n hx hb dX6_roll_1 rfl (lv_at hl 1 rfl) ?_
  refine z_roV (As := [.int (nI (r))]) (rest := []) (q := (RX6, TX6, 11)) S hG (c_X6_isBracelet_1 E (z := z) hr (hok.sz hr hr0) (r3 r hr).1) 1 gX6_roll_X6_isBracelet rfl kX6_isBracelet ⟨Nat.le_of_ble_eq_true rfl, Nat.le_of_ble_eq_true rfl⟩ ⟨Nat.zero_le _, Nat.zero_le _⟩ (⟨h0, h1⟩) rfl h0 rfl hl.1 rfl rfl (Nat.le_of_ble_eq_true rfl) dX6_roll_2 ?_
  refine z_fne (tgt := 10) hx hb dX6_roll_5 (by decide) (by omega) (fun c_1 => ?_) (fun c_1 => by exfalso; omega)
  refine lv_iload_n hx hb dX6_roll_10 rfl (lv_at hl 2 rfl) ?_
  refine lv_iconst (v := nI (0)) hx hb dX6_roll_11 (by decide) ?_
  refine lv_aload_n hx hb dX6_roll_12 rfl (lv_at hl 0 rfl) ?_
  refine lv_iload_n hx hb dX6_roll_13 rfl (lv_at hl 1 rfl) ?_
  refine z_roV (As := [.int (nI (r))]) (rest := [.int (nI (0)), .int (y)]) (q := (RX6, TX6, 11)) S hG (c_X6_slots E (z := z) (i := r) (n := (zSz nw r)) hr (r3 r hr).1) 1 gX6_roll_X6_slots rfl kX6_slots ⟨Nat.le_of_ble_eq_true rfl, Nat.le_of_ble_eq_true rfl⟩ ⟨Nat.zero_le _, Nat.zero_le _⟩ (⟨h0, h1⟩) rfl h0 rfl hl.1 rfl rfl (Nat.le_of_ble_eq_true rfl) dX6_roll_14 ?_
  refine lv_iconst (v := nI (1)) hx hb dX6_roll_17 (by decide) ?_
  refine z_isub hx hb dX6_roll_18 (by omega) ?_
  refine z_roSX (As := [.int (y), .int (nI (0)), .int (nI ((zSz nw r) - 1))]) (rest := []) S hG (c_X6_in E) 3 gX6_roll_X6_in rfl kX6_in.2 ⟨Nat.le_of_ble_eq_true rfl, Nat.le_of_ble_eq_true rfl⟩ ⟨Nat.zero_le _, Nat.zero_le _⟩ (trivial) rfl hl.1 rfl rfl (Nat.le_of_ble_eq_true rfl) dX6_roll_19 ?_
  refine z_bne (tgt := 28) hx hb dX6_roll_22 (by decide) (fun c_2 => by exfalso; rw [hy] at c_2; cases c_2) (fun c_2 => ?_)
  refine lv_bipush (v := (-2)) hx hb dX6_roll_25 (by decide) ?_
  exact hret _ _ _ _ _ hS (hz) dX6_roll_27 (rfl) (⟨_, _, _, _, _, _, _, _, ⟨h0, h1, h2, h3, h4, h5, h6⟩, hrep, hpa, hke, hbu⟩)

set_option maxHeartbeats 4000000 in
set_option maxRecDepth 100000 in
theorem c_X6_roll_2 (E : zEnv) {am : Nat → Nat} {nw sv : zS} {an : Bool} {hs : Nat → zS} {ct ln : Nat} {cd : Nat → Int32} {r j : Nat} (hok : zOk nw) (hinj : zInM am) (hct : ct ≤ 5) (hr : r < 6) (hr0 : zSz nw r ≠ 0) (hj : j < (zSz nw r)) : zWR E yX6_roll wsX6_roll 4 95 [.ref (am 0), .int (nI (r)), .int (nI (j))] (fun H => zMW E am nw sv an hs ct ln cd H) (some (.int (nI (zdf (zSz nw r) (zKd nw r) j (zKd nw r))))) (fun H => zMW E am (zsRg nw r (zSz nw r) (zpm (zimg (zSz nw r) (zKd nw r) (j)) (zKd nw r) (zSz nw r))) sv an (zrH hs ct nw) (zrC ct) ln cd H) (zAM am) := by
  refine zWR.ofI (maxL := 3) rfl (Nat.le_of_ble_eq_true rfl) (fun p e s m args below meth c H Q hF hP hret ls hl => ?_)
  have S : CallFix p m c cX6_roll 3 s args wsX6_roll RX6 := hF.1
  have hG := hF.2
  obtain ⟨hx, hb, hml, hown, hts⟩ := id S
  have hS : va_S (zAM am) H H [] := va_S.rf
  obtain ⟨locs, hlocs⟩ : ∃ x : List Loc, x = [] := ⟨_, rfl⟩
  rw [← hlocs] at hS ⊢
  have hz : H.size = H.size := rfl
  obtain ⟨z, past, kept, buf, rg, td, tm, nb, ⟨h0, h1, h2, h3, h4, h5, h6⟩, hrep, hpa, hke, hbu⟩ := hP
  obtain ⟨r1, rwt, r3, r4, r5, r6, r7⟩ := id hrep
  have hn := hok.sz hr hr0
  have hm4 := hok.m4 hr
  have hl : lv_has ls 3 [(0, .ref (am 0)), (1, .int (nI (r))), (2, .int (nI (j)))] := hl
  refine lv_aload_n hx hb dX6_roll_0 rfl (lv_at hl 0 rfl) ?_
  refine lv_iload_n hx hb dX6_roll_1 rfl (lv_at hl 1 rfl) ?_
  refine z_roV (As := [.int (nI (r))]) (rest := []) (q := (RX6, TX6, 11)) S hG (c_X6_isBracelet_1 E (z := z) hr (hok.sz hr hr0) (r3 r hr).1) 1 gX6_roll_X6_isBracelet rfl kX6_isBracelet ⟨Nat.le_of_ble_eq_true rfl, Nat.le_of_ble_eq_true rfl⟩ ⟨Nat.zero_le _, Nat.zero_le _⟩ (⟨h0, h1⟩) rfl h0 rfl hl.1 rfl rfl (Nat.le_of_ble_eq_true rfl) dX6_roll_2 ?_
  refine z_fne (tgt := 10) hx hb dX6_roll_5 (by decide) (by omega) (fun c_1 => ?_) (fun c_1 => by exfalso; omega)
  refine lv_iload_n hx hb dX6_roll_10 rfl (lv_at hl 2 rfl) ?_
  refine lv_iconst (v := nI (0)) hx hb dX6_roll_11 (by decide) ?_
  refine lv_aload_n hx hb dX6_roll_12 rfl (lv_at hl 0 rfl) ?_
  refine lv_iload_n hx hb dX6_roll_13 rfl (lv_at hl 1 rfl) ?_
  refine z_roV (As := [.int (nI (r))]) (rest := [.int (nI (0)), .int (nI (j))]) (q := (RX6, TX6, 11)) S hG (c_X6_slots E (z := z) (i := r) (n := (zSz nw r)) hr (r3 r hr).1) 1 gX6_roll_X6_slots rfl kX6_slots ⟨Nat.le_of_ble_eq_true rfl, Nat.le_of_ble_eq_true rfl⟩ ⟨Nat.zero_le _, Nat.zero_le _⟩ (⟨h0, h1⟩) rfl h0 rfl hl.1 rfl rfl (Nat.le_of_ble_eq_true rfl) dX6_roll_14 ?_
  refine lv_iconst (v := nI (1)) hx hb dX6_roll_17 (by decide) ?_
  refine z_isub hx hb dX6_roll_18 (by omega) ?_
  refine z_roSX (As := [.int (nI (j)), .int (nI (0)), .int (nI ((zSz nw r) - 1))]) (rest := []) S hG (c_X6_in E) 3 gX6_roll_X6_in rfl kX6_in.2 ⟨Nat.le_of_ble_eq_true rfl, Nat.le_of_ble_eq_true rfl⟩ ⟨Nat.zero_le _, Nat.zero_le _⟩ (trivial) rfl hl.1 rfl rfl (Nat.le_of_ble_eq_true rfl) dX6_roll_19 ?_
  refine z_bne (tgt := 28) hx hb dX6_roll_22 (by decide) (fun c_2 => ?_) (fun c_2 => by exfalso; rw [zin_y (Nat.zero_le _) (by omega) (by omega)] at c_2; cases c_2)
  refine lv_aload_n hx hb dX6_roll_28 rfl (lv_at hl 0 rfl) ?_
  refine z_wrV (As := []) (rest := []) (q := (RX6, TX6, 11)) S hG (c_X6_record E hinj hct hok hrep hpa) 0 gX6_roll_X6_record rfl kX6_record ⟨Nat.le_of_ble_eq_true rfl, Nat.le_of_ble_eq_true rfl⟩ ⟨Nat.zero_le _, Nat.zero_le _⟩ (⟨h0, h1, h2, h3, h4, h5, h6⟩) rfl h0 rfl hl.1 rfl rfl (Nat.le_of_ble_eq_true rfl) dX6_roll_29 hS (fun _ h => h) (fun Hn locs h_4 q_3 o_5 hS => ?_)
  have hz : Hn.size = H.size := q_3.trans hz
  obtain ⟨past, ⟨h0, h1, h2, h3, h4, h5, h6⟩, hpa⟩ := h_4
  refine lv_aload_n hx hb dX6_roll_32 rfl (lv_at hl 0 rfl) ?_
  refine lv_iload_n hx hb dX6_roll_33 rfl (lv_at hl 1 rfl) ?_
  refine lv_iload_n hx hb dX6_roll_34 rfl (lv_at hl 2 rfl) ?_
  refine z_wrV (As := [.int (nI (r)), .int (nI (j))]) (rest := []) (q := (RX6, TX6, 11)) S hG (c_X6_becomes E hinj (i := r) (n := (zSz nw r)) (f := (zKd nw r)) (ch := j) hr hn (r3 r hr) hm4 (by show j < 2 * zSz nw r; omega)) 2 gX6_roll_X6_becomes rfl kX6_becomes ⟨Nat.le_of_ble_eq_true rfl, Nat.le_of_ble_eq_true rfl⟩ ⟨Nat.zero_le _, Nat.zero_le _⟩ (⟨h0, h1, h2, h3, h4, h5, h6⟩) rfl h0 rfl hl.1 rfl rfl (Nat.le_of_ble_eq_true rfl) dX6_roll_35 hS (fun _ h => h) (fun Hn locs h_7 q_6 o_8 hS => ?_)
  have hz : Hn.size = H.size := q_6.trans hz
  obtain ⟨rg, ⟨h0, h1, h2, h3, h4, h5, h6⟩⟩ := h_7
  exact hret _ _ _ _ _ hS (hz) dX6_roll_38 (rfl) (⟨_, _, _, _, _, _, _, _, ⟨h0, h1, h2, h3, h4, h5, h6⟩, zRep_wr hok.B hr hrep, hpa, hke, hbu⟩)

set_option maxHeartbeats 4000000 in
set_option maxRecDepth 100000 in
theorem c_X6_turn_0 (E : zEnv) {am : Nat → Nat} {nw sv : zS} {an : Bool} {hs : Nat → zS} {ct ln : Nat} {cd : Nat → Int32} {x y : Int32} (hok : zOk nw) (hinj : zInM am) (hct : ct ≤ 5) (hq : zfnd (zSz nw) x = none) : zWR E yX6_turn wsX6_turn 4 95 [.ref (am 0), .int (x), .int (y)] (fun H => zMW E am nw sv an hs ct ln cd H) (some (.int (-1))) (fun H => zMW E am nw sv an hs ct ln cd H) (zAM am) := by
  refine zWR.ofI (maxL := 3) rfl (Nat.le_of_ble_eq_true rfl) (fun p e s m args below meth c H Q hF hP hret ls hl => ?_)
  have S : CallFix p m c cX6_turn 3 s args wsX6_turn RX6 := hF.1
  have hG := hF.2
  obtain ⟨hx, hb, hml, hown, hts⟩ := id S
  have hS : va_S (zAM am) H H [] := va_S.rf
  obtain ⟨locs, hlocs⟩ : ∃ x : List Loc, x = [] := ⟨_, rfl⟩
  rw [← hlocs] at hS ⊢
  have hz : H.size = H.size := rfl
  obtain ⟨z, past, kept, buf, rg, td, tm, nb, ⟨h0, h1, h2, h3, h4, h5, h6⟩, hrep, hpa, hke, hbu⟩ := hP
  obtain ⟨r1, rwt, r3, r4, r5, r6, r7⟩ := id hrep
  have hl : lv_has ls 3 [(0, .ref (am 0)), (1, .int (x)), (2, .int (y))] := hl
  refine lv_aload_n hx hb dX6_turn_0 rfl (lv_at hl 0 rfl) ?_
  refine lv_iload_n hx hb dX6_turn_1 rfl (lv_at hl 1 rfl) ?_
  refine z_roV (As := [.int (x)]) (rest := []) (q := (RX6, TX6, 11)) S hG (c_X6_isBracelet_0 E (z := z) (fun t ht => (r3 t ht).1) hok.h16 hq) 1 gX6_turn_X6_isBracelet rfl kX6_isBracelet ⟨Nat.le_of_ble_eq_true rfl, Nat.le_of_ble_eq_true rfl⟩ ⟨Nat.zero_le _, Nat.zero_le _⟩ (⟨h0, h1⟩) rfl h0 rfl hl.1 rfl rfl (Nat.le_of_ble_eq_true rfl) dX6_turn_2 ?_
  refine z_fne (tgt := 10) hx hb dX6_turn_5 (by decide) (by omega) (fun c_1 => by exfalso; omega) (fun c_1 => ?_)
  refine lv_iconst (v := (-1)) hx hb dX6_turn_8 (by decide) ?_
  exact hret _ _ _ _ _ hS (hz) dX6_turn_9 (rfl) (⟨_, _, _, _, _, _, _, _, ⟨h0, h1, h2, h3, h4, h5, h6⟩, hrep, hpa, hke, hbu⟩)

set_option maxHeartbeats 4000000 in
set_option maxRecDepth 100000 in
theorem c_X6_turn_1 (E : zEnv) {am : Nat → Nat} {nw sv : zS} {an : Bool} {hs : Nat → zS} {ct ln : Nat} {cd : Nat → Int32} {r : Nat} {y : Int32} (hok : zOk nw) (hinj : zInM am) (hct : ct ≤ 5) (hr : r < 6) (hr0 : zSz nw r ≠ 0) (hy : zin y 0 3 = false) : zWR E yX6_turn wsX6_turn 4 95 [.ref (am 0), .int (nI (r)), .int (y)] (fun H => zMW E am nw sv an hs ct ln cd H) (some (.int (-2))) (fun H => zMW E am nw sv an hs ct ln cd H) (zAM am) := by
  refine zWR.ofI (maxL := 3) rfl (Nat.le_of_ble_eq_true rfl) (fun p e s m args below meth c H Q hF hP hret ls hl => ?_)
  have S : CallFix p m c cX6_turn 3 s args wsX6_turn RX6 := hF.1
  have hG := hF.2
  obtain ⟨hx, hb, hml, hown, hts⟩ := id S
  have hS : va_S (zAM am) H H [] := va_S.rf
  obtain ⟨locs, hlocs⟩ : ∃ x : List Loc, x = [] := ⟨_, rfl⟩
  rw [← hlocs] at hS ⊢
  have hz : H.size = H.size := rfl
  obtain ⟨z, past, kept, buf, rg, td, tm, nb, ⟨h0, h1, h2, h3, h4, h5, h6⟩, hrep, hpa, hke, hbu⟩ := hP
  obtain ⟨r1, rwt, r3, r4, r5, r6, r7⟩ := id hrep
  have hn := hok.sz hr hr0
  have hl : lv_has ls 3 [(0, .ref (am 0)), (1, .int (nI (r))), (2, .int (y))] := hl
  refine lv_aload_n hx hb dX6_turn_0 rfl (lv_at hl 0 rfl) ?_
  refine lv_iload_n hx hb dX6_turn_1 rfl (lv_at hl 1 rfl) ?_
  refine z_roV (As := [.int (nI (r))]) (rest := []) (q := (RX6, TX6, 11)) S hG (c_X6_isBracelet_1 E (z := z) hr (hok.sz hr hr0) (r3 r hr).1) 1 gX6_turn_X6_isBracelet rfl kX6_isBracelet ⟨Nat.le_of_ble_eq_true rfl, Nat.le_of_ble_eq_true rfl⟩ ⟨Nat.zero_le _, Nat.zero_le _⟩ (⟨h0, h1⟩) rfl h0 rfl hl.1 rfl rfl (Nat.le_of_ble_eq_true rfl) dX6_turn_2 ?_
  refine z_fne (tgt := 10) hx hb dX6_turn_5 (by decide) (by omega) (fun c_1 => ?_) (fun c_1 => by exfalso; omega)
  refine lv_iload_n hx hb dX6_turn_10 rfl (lv_at hl 2 rfl) ?_
  refine lv_iconst (v := nI (0)) hx hb dX6_turn_11 (by decide) ?_
  refine lv_iconst (v := nI (3)) hx hb dX6_turn_12 (by decide) ?_
  refine z_roSX (As := [.int (y), .int (nI (0)), .int (nI (3))]) (rest := []) S hG (c_X6_in E) 3 gX6_turn_X6_in rfl kX6_in.2 ⟨Nat.le_of_ble_eq_true rfl, Nat.le_of_ble_eq_true rfl⟩ ⟨Nat.zero_le _, Nat.zero_le _⟩ (trivial) rfl hl.1 rfl rfl (Nat.le_of_ble_eq_true rfl) dX6_turn_13 ?_
  refine z_bne (tgt := 22) hx hb dX6_turn_16 (by decide) (fun c_2 => by exfalso; rw [hy] at c_2; cases c_2) (fun c_2 => ?_)
  refine lv_bipush (v := (-2)) hx hb dX6_turn_19 (by decide) ?_
  exact hret _ _ _ _ _ hS (hz) dX6_turn_21 (rfl) (⟨_, _, _, _, _, _, _, _, ⟨h0, h1, h2, h3, h4, h5, h6⟩, hrep, hpa, hke, hbu⟩)

set_option maxHeartbeats 4000000 in
set_option maxRecDepth 100000 in
theorem c_X6_turn_2 (E : zEnv) {am : Nat → Nat} {nw sv : zS} {an : Bool} {hs : Nat → zS} {ct ln : Nat} {cd : Nat → Int32} {r j : Nat} (hok : zOk nw) (hinj : zInM am) (hct : ct ≤ 5) (hr : r < 6) (hr0 : zSz nw r ≠ 0) (hj : j < 4) : zWR E yX6_turn wsX6_turn 4 95 [.ref (am 0), .int (nI (r)), .int (nI (j))] (fun H => zMW E am nw sv an hs ct ln cd H) (some (.int (nI (zdf (zSz nw r) (zKd nw r) (j * (zSz nw r) / 4) (zKd nw r))))) (fun H => zMW E am (zsRg nw r (zSz nw r) (zpm (zimg (zSz nw r) (zKd nw r) (j * (zSz nw r) / 4)) (zKd nw r) (zSz nw r))) sv an (zrH hs ct nw) (zrC ct) ln cd H) (zAM am) := by
  refine zWR.ofI (maxL := 3) rfl (Nat.le_of_ble_eq_true rfl) (fun p e s m args below meth c H Q hF hP hret ls hl => ?_)
  have S : CallFix p m c cX6_turn 3 s args wsX6_turn RX6 := hF.1
  have hG := hF.2
  obtain ⟨hx, hb, hml, hown, hts⟩ := id S
  have hS : va_S (zAM am) H H [] := va_S.rf
  obtain ⟨locs, hlocs⟩ : ∃ x : List Loc, x = [] := ⟨_, rfl⟩
  rw [← hlocs] at hS ⊢
  have hz : H.size = H.size := rfl
  obtain ⟨z, past, kept, buf, rg, td, tm, nb, ⟨h0, h1, h2, h3, h4, h5, h6⟩, hrep, hpa, hke, hbu⟩ := hP
  obtain ⟨r1, rwt, r3, r4, r5, r6, r7⟩ := id hrep
  have hn := hok.sz hr hr0
  have hm4 := hok.m4 hr
  have hb9 : j * (zSz nw r) ≤ 3 * (zSz nw r) := Nat.mul_le_mul_right _ (by omega)
  have hl : lv_has ls 3 [(0, .ref (am 0)), (1, .int (nI (r))), (2, .int (nI (j)))] := hl
  refine lv_aload_n hx hb dX6_turn_0 rfl (lv_at hl 0 rfl) ?_
  refine lv_iload_n hx hb dX6_turn_1 rfl (lv_at hl 1 rfl) ?_
  refine z_roV (As := [.int (nI (r))]) (rest := []) (q := (RX6, TX6, 11)) S hG (c_X6_isBracelet_1 E (z := z) hr (hok.sz hr hr0) (r3 r hr).1) 1 gX6_turn_X6_isBracelet rfl kX6_isBracelet ⟨Nat.le_of_ble_eq_true rfl, Nat.le_of_ble_eq_true rfl⟩ ⟨Nat.zero_le _, Nat.zero_le _⟩ (⟨h0, h1⟩) rfl h0 rfl hl.1 rfl rfl (Nat.le_of_ble_eq_true rfl) dX6_turn_2 ?_
  refine z_fne (tgt := 10) hx hb dX6_turn_5 (by decide) (by omega) (fun c_1 => ?_) (fun c_1 => by exfalso; omega)
  refine lv_iload_n hx hb dX6_turn_10 rfl (lv_at hl 2 rfl) ?_
  refine lv_iconst (v := nI (0)) hx hb dX6_turn_11 (by decide) ?_
  refine lv_iconst (v := nI (3)) hx hb dX6_turn_12 (by decide) ?_
  refine z_roSX (As := [.int (nI (j)), .int (nI (0)), .int (nI (3))]) (rest := []) S hG (c_X6_in E) 3 gX6_turn_X6_in rfl kX6_in.2 ⟨Nat.le_of_ble_eq_true rfl, Nat.le_of_ble_eq_true rfl⟩ ⟨Nat.zero_le _, Nat.zero_le _⟩ (trivial) rfl hl.1 rfl rfl (Nat.le_of_ble_eq_true rfl) dX6_turn_13 ?_
  refine z_bne (tgt := 22) hx hb dX6_turn_16 (by decide) (fun c_2 => ?_) (fun c_2 => by exfalso; rw [zin_y (Nat.zero_le _) (by omega) (by omega)] at c_2; cases c_2)
  refine lv_aload_n hx hb dX6_turn_22 rfl (lv_at hl 0 rfl) ?_
  refine z_wrV (As := []) (rest := []) (q := (RX6, TX6, 11)) S hG (c_X6_record E hinj hct hok hrep hpa) 0 gX6_turn_X6_record rfl kX6_record ⟨Nat.le_of_ble_eq_true rfl, Nat.le_of_ble_eq_true rfl⟩ ⟨Nat.zero_le _, Nat.zero_le _⟩ (⟨h0, h1, h2, h3, h4, h5, h6⟩) rfl h0 rfl hl.1 rfl rfl (Nat.le_of_ble_eq_true rfl) dX6_turn_23 hS (fun _ h => h) (fun Hn locs h_4 q_3 o_5 hS => ?_)
  have hz : Hn.size = H.size := q_3.trans hz
  obtain ⟨past, ⟨h0, h1, h2, h3, h4, h5, h6⟩, hpa⟩ := h_4
  refine lv_aload_n hx hb dX6_turn_26 rfl (lv_at hl 0 rfl) ?_
  refine lv_iload_n hx hb dX6_turn_27 rfl (lv_at hl 1 rfl) ?_
  refine lv_iload_n hx hb dX6_turn_28 rfl (lv_at hl 2 rfl) ?_
  refine lv_aload_n hx hb dX6_turn_29 rfl (lv_at hl 0 rfl) ?_
  refine lv_iload_n hx hb dX6_turn_30 rfl (lv_at hl 1 rfl) ?_
  refine z_roV (As := [.int (nI (r))]) (rest := [.int (nI (j)), .int (nI (r)), .ref (am 0)]) (q := (RX6, TX6, 11)) S hG (c_X6_slots E (z := z) (i := r) (n := (zSz nw r)) hr (r3 r hr).1) 1 gX6_turn_X6_slots rfl kX6_slots ⟨Nat.le_of_ble_eq_true rfl, Nat.le_of_ble_eq_true rfl⟩ ⟨Nat.zero_le _, Nat.zero_le _⟩ (⟨h0, h1⟩) rfl h0 rfl hl.1 rfl rfl (Nat.le_of_ble_eq_true rfl) dX6_turn_31 ?_
  refine z_imul hx hb dX6_turn_34 ?_
  refine lv_iconst (v := nI (4)) hx hb dX6_turn_35 (by decide) ?_
  refine z_idiv hx hb dX6_turn_36 ⟨by omega, by omega, by omega⟩ ?_
  refine z_wrV (As := [.int (nI (r)), .int (nI ((j * (zSz nw r)) / 4))]) (rest := []) (q := (RX6, TX6, 11)) S hG (c_X6_becomes E hinj (i := r) (n := (zSz nw r)) (f := (zKd nw r)) (ch := j * (zSz nw r) / 4) hr hn (r3 r hr) hm4 (by show j * zSz nw r / 4 < 2 * zSz nw r; omega)) 2 gX6_turn_X6_becomes rfl kX6_becomes ⟨Nat.le_of_ble_eq_true rfl, Nat.le_of_ble_eq_true rfl⟩ ⟨Nat.zero_le _, Nat.zero_le _⟩ (⟨h0, h1, h2, h3, h4, h5, h6⟩) rfl h0 rfl hl.1 rfl rfl (Nat.le_of_ble_eq_true rfl) dX6_turn_37 hS (fun _ h => h) (fun Hn locs h_7 q_6 o_8 hS => ?_)
  have hz : Hn.size = H.size := q_6.trans hz
  obtain ⟨rg, ⟨h0, h1, h2, h3, h4, h5, h6⟩⟩ := h_7
  exact hret _ _ _ _ _ hS (hz) dX6_turn_40 (rfl) (⟨_, _, _, _, _, _, _, _, ⟨h0, h1, h2, h3, h4, h5, h6⟩, zRep_wr hok.B hr hrep, hpa, hke, hbu⟩)

set_option maxHeartbeats 4000000 in
set_option maxRecDepth 100000 in
theorem c_X6_mirror_0 (E : zEnv) {am : Nat → Nat} {nw sv : zS} {an : Bool} {hs : Nat → zS} {ct ln : Nat} {cd : Nat → Int32} {x : Int32} (hok : zOk nw) (hinj : zInM am) (hct : ct ≤ 5) (hq : zfnd (zSz nw) x = none) : zWR E yX6_mirror wsX6_mirror 4 95 [.ref (am 0), .int (x)] (fun H => zMW E am nw sv an hs ct ln cd H) (some (.int (-1))) (fun H => zMW E am nw sv an hs ct ln cd H) (zAM am) := by
  refine zWR.ofI (maxL := 2) rfl (Nat.le_of_ble_eq_true rfl) (fun p e s m args below meth c H Q hF hP hret ls hl => ?_)
  have S : CallFix p m c cX6_mirror 2 s args wsX6_mirror RX6 := hF.1
  have hG := hF.2
  obtain ⟨hx, hb, hml, hown, hts⟩ := id S
  have hS : va_S (zAM am) H H [] := va_S.rf
  obtain ⟨locs, hlocs⟩ : ∃ x : List Loc, x = [] := ⟨_, rfl⟩
  rw [← hlocs] at hS ⊢
  have hz : H.size = H.size := rfl
  obtain ⟨z, past, kept, buf, rg, td, tm, nb, ⟨h0, h1, h2, h3, h4, h5, h6⟩, hrep, hpa, hke, hbu⟩ := hP
  obtain ⟨r1, rwt, r3, r4, r5, r6, r7⟩ := id hrep
  have hl : lv_has ls 2 [(0, .ref (am 0)), (1, .int (x))] := hl
  refine lv_aload_n hx hb dX6_mirror_0 rfl (lv_at hl 0 rfl) ?_
  refine lv_iload_n hx hb dX6_mirror_1 rfl (lv_at hl 1 rfl) ?_
  refine z_roV (As := [.int (x)]) (rest := []) (q := (RX6, TX6, 11)) S hG (c_X6_isBracelet_0 E (z := z) (fun t ht => (r3 t ht).1) hok.h16 hq) 1 gX6_mirror_X6_isBracelet rfl kX6_isBracelet ⟨Nat.le_of_ble_eq_true rfl, Nat.le_of_ble_eq_true rfl⟩ ⟨Nat.zero_le _, Nat.zero_le _⟩ (⟨h0, h1⟩) rfl h0 rfl hl.1 rfl rfl (Nat.le_of_ble_eq_true rfl) dX6_mirror_2 ?_
  refine z_fne (tgt := 10) hx hb dX6_mirror_5 (by decide) (by omega) (fun c_1 => by exfalso; omega) (fun c_1 => ?_)
  refine lv_iconst (v := (-1)) hx hb dX6_mirror_8 (by decide) ?_
  exact hret _ _ _ _ _ hS (hz) dX6_mirror_9 (rfl) (⟨_, _, _, _, _, _, _, _, ⟨h0, h1, h2, h3, h4, h5, h6⟩, hrep, hpa, hke, hbu⟩)

set_option maxHeartbeats 4000000 in
set_option maxRecDepth 100000 in
theorem c_X6_mirror_1 (E : zEnv) {am : Nat → Nat} {nw sv : zS} {an : Bool} {hs : Nat → zS} {ct ln : Nat} {cd : Nat → Int32} {r : Nat} (hok : zOk nw) (hinj : zInM am) (hct : ct ≤ 5) (hr : r < 6) (hr0 : zSz nw r ≠ 0) : zWR E yX6_mirror wsX6_mirror 4 95 [.ref (am 0), .int (nI (r))] (fun H => zMW E am nw sv an hs ct ln cd H) (some (.int (nI (zdf (zSz nw r) (zKd nw r) (zSz nw r) (zKd nw r))))) (fun H => zMW E am (zsRg nw r (zSz nw r) (zpm (zimg (zSz nw r) (zKd nw r) ((zSz nw r))) (zKd nw r) (zSz nw r))) sv an (zrH hs ct nw) (zrC ct) ln cd H) (zAM am) := by
  refine zWR.ofI (maxL := 2) rfl (Nat.le_of_ble_eq_true rfl) (fun p e s m args below meth c H Q hF hP hret ls hl => ?_)
  have S : CallFix p m c cX6_mirror 2 s args wsX6_mirror RX6 := hF.1
  have hG := hF.2
  obtain ⟨hx, hb, hml, hown, hts⟩ := id S
  have hS : va_S (zAM am) H H [] := va_S.rf
  obtain ⟨locs, hlocs⟩ : ∃ x : List Loc, x = [] := ⟨_, rfl⟩
  rw [← hlocs] at hS ⊢
  have hz : H.size = H.size := rfl
  obtain ⟨z, past, kept, buf, rg, td, tm, nb, ⟨h0, h1, h2, h3, h4, h5, h6⟩, hrep, hpa, hke, hbu⟩ := hP
  obtain ⟨r1, rwt, r3, r4, r5, r6, r7⟩ := id hrep
  have hn := hok.sz hr hr0
  have hm4 := hok.m4 hr
  have hl : lv_has ls 2 [(0, .ref (am 0)), (1, .int (nI (r)))] := hl
  refine lv_aload_n hx hb dX6_mirror_0 rfl (lv_at hl 0 rfl) ?_
  refine lv_iload_n hx hb dX6_mirror_1 rfl (lv_at hl 1 rfl) ?_
  refine z_roV (As := [.int (nI (r))]) (rest := []) (q := (RX6, TX6, 11)) S hG (c_X6_isBracelet_1 E (z := z) hr (hok.sz hr hr0) (r3 r hr).1) 1 gX6_mirror_X6_isBracelet rfl kX6_isBracelet ⟨Nat.le_of_ble_eq_true rfl, Nat.le_of_ble_eq_true rfl⟩ ⟨Nat.zero_le _, Nat.zero_le _⟩ (⟨h0, h1⟩) rfl h0 rfl hl.1 rfl rfl (Nat.le_of_ble_eq_true rfl) dX6_mirror_2 ?_
  refine z_fne (tgt := 10) hx hb dX6_mirror_5 (by decide) (by omega) (fun c_1 => ?_) (fun c_1 => by exfalso; omega)
  refine lv_aload_n hx hb dX6_mirror_10 rfl (lv_at hl 0 rfl) ?_
  refine z_wrV (As := []) (rest := []) (q := (RX6, TX6, 11)) S hG (c_X6_record E hinj hct hok hrep hpa) 0 gX6_mirror_X6_record rfl kX6_record ⟨Nat.le_of_ble_eq_true rfl, Nat.le_of_ble_eq_true rfl⟩ ⟨Nat.zero_le _, Nat.zero_le _⟩ (⟨h0, h1, h2, h3, h4, h5, h6⟩) rfl h0 rfl hl.1 rfl rfl (Nat.le_of_ble_eq_true rfl) dX6_mirror_11 hS (fun _ h => h) (fun Hn locs h_3 q_2 o_4 hS => ?_)
  have hz : Hn.size = H.size := q_2.trans hz
  obtain ⟨past, ⟨h0, h1, h2, h3, h4, h5, h6⟩, hpa⟩ := h_3
  refine lv_aload_n hx hb dX6_mirror_14 rfl (lv_at hl 0 rfl) ?_
  refine lv_iload_n hx hb dX6_mirror_15 rfl (lv_at hl 1 rfl) ?_
  refine lv_aload_n hx hb dX6_mirror_16 rfl (lv_at hl 0 rfl) ?_
  refine lv_iload_n hx hb dX6_mirror_17 rfl (lv_at hl 1 rfl) ?_
  refine z_roV (As := [.int (nI (r))]) (rest := [.int (nI (r)), .ref (am 0)]) (q := (RX6, TX6, 11)) S hG (c_X6_slots E (z := z) (i := r) (n := (zSz nw r)) hr (r3 r hr).1) 1 gX6_mirror_X6_slots rfl kX6_slots ⟨Nat.le_of_ble_eq_true rfl, Nat.le_of_ble_eq_true rfl⟩ ⟨Nat.zero_le _, Nat.zero_le _⟩ (⟨h0, h1⟩) rfl h0 rfl hl.1 rfl rfl (Nat.le_of_ble_eq_true rfl) dX6_mirror_18 ?_
  refine z_wrV (As := [.int (nI (r)), .int (nI ((zSz nw r)))]) (rest := []) (q := (RX6, TX6, 11)) S hG (c_X6_becomes E hinj (i := r) (n := (zSz nw r)) (f := (zKd nw r)) (ch := (zSz nw r)) hr hn (r3 r hr) hm4 (by show zSz nw r < 2 * zSz nw r; omega)) 2 gX6_mirror_X6_becomes rfl kX6_becomes ⟨Nat.le_of_ble_eq_true rfl, Nat.le_of_ble_eq_true rfl⟩ ⟨Nat.zero_le _, Nat.zero_le _⟩ (⟨h0, h1, h2, h3, h4, h5, h6⟩) rfl h0 rfl hl.1 rfl rfl (Nat.le_of_ble_eq_true rfl) dX6_mirror_21 hS (fun _ h => h) (fun Hn locs h_6 q_5 o_7 hS => ?_)
  have hz : Hn.size = H.size := q_5.trans hz
  obtain ⟨rg, ⟨h0, h1, h2, h3, h4, h5, h6⟩⟩ := h_6
  exact hret _ _ _ _ _ hS (hz) dX6_mirror_24 (rfl) (⟨_, _, _, _, _, _, _, _, ⟨h0, h1, h2, h3, h4, h5, h6⟩, zRep_wr hok.B hr hrep, hpa, hke, hbu⟩)

set_option maxHeartbeats 4000000 in
set_option maxRecDepth 100000 in
theorem c_X6_bracelets_0 (E : zEnv) {am : Nat → Nat} {nw sv : zS} {an : Bool} {hs : Nat → zS} {ct ln : Nat} {cd : Nat → Int32}  (hok : zOk nw)  : zRO E yX6_bracelets wsX6_bracelets 1 21 [.ref (am 0)] (fun H => zMW E am nw sv an hs ct ln cd H) (some (.int (zset (fun t9 => decide (zSz nw t9 ≠ 0)) 6))) := by
  refine zRO.ofI (maxL := 3) rfl (Nat.le_of_ble_eq_true rfl) (fun p e s m args below meth c H Q hF hP hret ls hl => ?_)
  have S : CallFix p m c cX6_bracelets 3 s args wsX6_bracelets RX6 := hF.1
  have hG := hF.2
  obtain ⟨hx, hb, hml, hown, hts⟩ := id S
  obtain ⟨z, past, kept, buf, rg, td, tm, nb, ⟨h0, h1, h2, h3, h4, h5, h6⟩, hrep, hpa, hke, hbu⟩ := hP
  obtain ⟨r1, rwt, r3, r4, r5, r6, r7⟩ := id hrep
  have hl : lv_has ls 3 [(0, .ref (am 0))] := hl
  refine lv_iconst (v := nI (0)) hx hb dX6_bracelets_0 (by decide) ?_
  refine lv_istore_n (lv' := [(1, .int (nI (0))), (0, .ref (am 0))]) hx hb dX6_bracelets_1 rfl hl (by decide) rfl (fun ls hl => ?_)
  refine lv_iconst (v := nI (0)) hx hb dX6_bracelets_2 (by decide) ?_
  refine lv_istore_n (lv' := [(2, .int (nI (0))), (1, .int (nI (0))), (0, .ref (am 0))]) hx hb dX6_bracelets_3 rfl hl (by decide) rfl (fun ls hl => ?_)
  have L4 : ∀ (dd : Nat) (i : Nat), 6 - i < dd → (i ≤ 6) → ∀ (ls : Array Slot), lv_has ls 3 [(0, .ref (am 0)), (1, .int (zset (fun t9 => decide (zSz nw t9 ≠ 0)) i)), (2, .int (nI (i)))] → W p (zl E) e (zRm 1 21) s m args below meth c H [] 0 0 Q (F0 m 4 ls []) := by
    intro dd
    induction dd with
    | zero => intro i hdd; exact absurd hdd (Nat.not_lt_zero _)
    | succ dd ih4 =>
      intro i hdd4 hi ls hl
      refine lv_iload_n hx hb dX6_bracelets_4 rfl (lv_at hl 2 rfl) ?_
      refine lv_bipush (v := nI (6)) hx hb dX6_bracelets_5 (by decide) ?_
      refine z_cge (tgt := 34) hx hb dX6_bracelets_7 (by decide) ⟨by omega, by omega⟩ (fun c_1 => ?_) (fun c_1 => ?_)
      · refine lv_iload_n hx hb dX6_bracelets_34 rfl (lv_at hl 1 rfl) ?_
        exact hret _ _ _ dX6_bracelets_35 (by rw [show i = 6 by omega])
      · have hz16 := hok.h16 i (by omega)
        refine lv_iload_n hx hb dX6_bracelets_10 rfl (lv_at hl 1 rfl) ?_
        refine lv_aload_n hx hb dX6_bracelets_11 rfl (lv_at hl 0 rfl) ?_
        refine lv_iload_n hx hb dX6_bracelets_12 rfl (lv_at hl 2 rfl) ?_
        refine z_roV (As := [.int (nI (i))]) (rest := [.int (zset (fun t9 => decide (zSz nw t9 ≠ 0)) i)]) (q := (RX6, TX6, 11)) S hG (c_X6_slots E (z := z) (i := i) (n := zSz nw i) (by omega) (r3 i (by omega)).1) 1 gX6_bracelets_X6_slots rfl kX6_slots ⟨Nat.le_of_ble_eq_true rfl, Nat.le_of_ble_eq_true rfl⟩ ⟨Nat.zero_le _, Nat.zero_le _⟩ (⟨h0, h1⟩) rfl h0 rfl hl.1 rfl rfl (Nat.le_of_ble_eq_true rfl) dX6_bracelets_13 ?_
        refine z_fle (tgt := 25) hx hb dX6_bracelets_16 (by decide) (by omega) (fun c_2 => ?_) (fun c_2 => ?_)
        · refine lv_iconst (v := nI (0)) hx hb dX6_bracelets_25 (by decide) ?_
          refine lv_ior hx hb dX6_bracelets_26 ?_
          refine lv_istore_n (lv' := [(1, .int ((zset (fun t9 => decide (zSz nw t9 ≠ 0)) i) ||| nI (0))), (0, .ref (am 0)), (2, .int (nI (i)))]) hx hb dX6_bracelets_27 rfl hl (by decide) rfl (fun ls hl => ?_)
          refine lv_iinc (v := nI (i + 1)) (lv' := [(2, .int (nI (i + 1))), (1, .int ((zset (fun t9 => decide (zSz nw t9 ≠ 0)) i) ||| nI (0))), (0, .ref (am 0))]) hx hb dX6_bracelets_28 hl (k := 2) rfl (z_inc1 _) (by decide) rfl (fun ls hl => ?_)
          refine lv_goto (tgt := 4) hx hb dX6_bracelets_31 (by decide) ?_
          have hl9 := lv_sub hl [2, 1, 0] (l' := [(0, .ref (am 0)), (1, .int ((zset (fun t9 => decide (zSz nw t9 ≠ 0)) i) ||| nI (0))), (2, .int (nI (i + 1)))]) rfl
          have e9_1 : ((zset (fun t9 => decide (zSz nw t9 ≠ 0)) i) ||| nI (0)) = (zset (fun t9 => decide (zSz nw t9 ≠ 0)) (i + 1)) := by first | exact zset_z (p := (fun t9 => decide (zSz nw t9 ≠ 0))) (decide_eq_false (fun q => q c_2)) | exact zset_t (p := (fun t9 => decide (zSz nw t9 ≠ 0))) (decide_eq_true (by omega))
          have e9_2 : (i + 1) = ((i + 1)) := by omega
          exact ih4 (i + 1) (by omega) (by omega) ls (by rw [← e9_1, ← e9_2]; exact hl9)
        · refine lv_iconst (v := nI (1)) hx hb dX6_bracelets_19 (by decide) ?_
          refine lv_iload_n hx hb dX6_bracelets_20 rfl (lv_at hl 2 rfl) ?_
          refine lv_ishl hx hb dX6_bracelets_21 ?_
          refine lv_goto (tgt := 26) hx hb dX6_bracelets_22 (by decide) ?_
          refine lv_ior hx hb dX6_bracelets_26 ?_
          refine lv_istore_n (lv' := [(1, .int ((zset (fun t9 => decide (zSz nw t9 ≠ 0)) i) ||| (nI (1) <<< (nI (i) &&& 31)))), (0, .ref (am 0)), (2, .int (nI (i)))]) hx hb dX6_bracelets_27 rfl hl (by decide) rfl (fun ls hl => ?_)
          refine lv_iinc (v := nI (i + 1)) (lv' := [(2, .int (nI (i + 1))), (1, .int ((zset (fun t9 => decide (zSz nw t9 ≠ 0)) i) ||| (nI (1) <<< (nI (i) &&& 31)))), (0, .ref (am 0))]) hx hb dX6_bracelets_28 hl (k := 2) rfl (z_inc1 _) (by decide) rfl (fun ls hl => ?_)
          refine lv_goto (tgt := 4) hx hb dX6_bracelets_31 (by decide) ?_
          have hl9 := lv_sub hl [2, 1, 0] (l' := [(0, .ref (am 0)), (1, .int ((zset (fun t9 => decide (zSz nw t9 ≠ 0)) i) ||| (nI (1) <<< (nI (i) &&& 31)))), (2, .int (nI (i + 1)))]) rfl
          have e9_1 : ((zset (fun t9 => decide (zSz nw t9 ≠ 0)) i) ||| (nI (1) <<< (nI (i) &&& 31))) = (zset (fun t9 => decide (zSz nw t9 ≠ 0)) (i + 1)) := by first | exact zset_z (p := (fun t9 => decide (zSz nw t9 ≠ 0))) (decide_eq_false (fun q => q c_2)) | exact zset_t (p := (fun t9 => decide (zSz nw t9 ≠ 0))) (decide_eq_true (by omega))
          have e9_2 : (i + 1) = ((i + 1)) := by omega
          exact ih4 (i + 1) (by omega) (by omega) ls (by rw [← e9_1, ← e9_2]; exact hl9)
  exact L4 ((6 - (0)) + 1) (0) (Nat.lt_succ_self _) (by decide) ls (lv_sub hl [2, 1, 0] rfl)

set_option maxHeartbeats 4000000 in
set_option maxRecDepth 100000 in
theorem c_X6_bracelet_0 (E : zEnv) {am : Nat → Nat} {nw sv : zS} {an : Bool} {hs : Nat → zS} {ct ln : Nat} {cd : Nat → Int32} {x y : Int32} (hok : zOk nw) (hq : zfnd (zSz nw) x = none) : zRO E yX6_bracelet wsX6_bracelet 4 89 [.ref (am 0), .int (x), .int (y)] (fun H => zMW E am nw sv an hs ct ln cd H) (some (.int (-1))) := by
  refine zRO.ofI (maxL := 3) rfl (Nat.le_of_ble_eq_true rfl) (fun p e s m args below meth c H Q hF hP hret ls hl => ?_)
  have S : CallFix p m c cX6_bracelet 3 s args wsX6_bracelet RX6 := hF.1
  have hG := hF.2
  obtain ⟨hx, hb, hml, hown, hts⟩ := id S
  obtain ⟨z, past, kept, buf, rg, td, tm, nb, ⟨h0, h1, h2, h3, h4, h5, h6⟩, hrep, hpa, hke, hbu⟩ := hP
  obtain ⟨r1, rwt, r3, r4, r5, r6, r7⟩ := id hrep
  have hl : lv_has ls 3 [(0, .ref (am 0)), (1, .int (x)), (2, .int (y))] := hl
  refine lv_aload_n hx hb dX6_bracelet_0 rfl (lv_at hl 0 rfl) ?_
  refine lv_iload_n hx hb dX6_bracelet_1 rfl (lv_at hl 1 rfl) ?_
  refine z_roV (As := [.int (x)]) (rest := []) (q := (RX6, TX6, 11)) S hG (c_X6_isBracelet_0 E (z := z) (fun t ht => (r3 t ht).1) hok.h16 hq) 1 gX6_bracelet_X6_isBracelet rfl kX6_isBracelet ⟨Nat.le_of_ble_eq_true rfl, Nat.le_of_ble_eq_true rfl⟩ ⟨Nat.zero_le _, Nat.zero_le _⟩ (⟨h0, h1⟩) rfl h0 rfl hl.1 rfl rfl (Nat.le_of_ble_eq_true rfl) dX6_bracelet_2 ?_
  refine z_fne (tgt := 10) hx hb dX6_bracelet_5 (by decide) (by omega) (fun c_1 => by exfalso; omega) (fun c_1 => ?_)
  refine lv_iconst (v := (-1)) hx hb dX6_bracelet_8 (by decide) ?_
  exact hret _ _ _ dX6_bracelet_9 (rfl)

set_option maxHeartbeats 4000000 in
set_option maxRecDepth 100000 in
theorem c_X6_bracelet_1 (E : zEnv) {am : Nat → Nat} {nw sv : zS} {an : Bool} {hs : Nat → zS} {ct ln : Nat} {cd : Nat → Int32} {r : Nat} {y : Int32} (hok : zOk nw) (hr : r < 6) (hr0 : zSz nw r ≠ 0) (hy : zin y 0 3 = false) : zRO E yX6_bracelet wsX6_bracelet 4 89 [.ref (am 0), .int (nI (r)), .int (y)] (fun H => zMW E am nw sv an hs ct ln cd H) (some (.int (-2))) := by
  refine zRO.ofI (maxL := 3) rfl (Nat.le_of_ble_eq_true rfl) (fun p e s m args below meth c H Q hF hP hret ls hl => ?_)
  have S : CallFix p m c cX6_bracelet 3 s args wsX6_bracelet RX6 := hF.1
  have hG := hF.2
  obtain ⟨hx, hb, hml, hown, hts⟩ := id S
  obtain ⟨z, past, kept, buf, rg, td, tm, nb, ⟨h0, h1, h2, h3, h4, h5, h6⟩, hrep, hpa, hke, hbu⟩ := hP
  obtain ⟨r1, rwt, r3, r4, r5, r6, r7⟩ := id hrep
  have hl : lv_has ls 3 [(0, .ref (am 0)), (1, .int (nI (r))), (2, .int (y))] := hl
  refine lv_aload_n hx hb dX6_bracelet_0 rfl (lv_at hl 0 rfl) ?_
  refine lv_iload_n hx hb dX6_bracelet_1 rfl (lv_at hl 1 rfl) ?_
  refine z_roV (As := [.int (nI (r))]) (rest := []) (q := (RX6, TX6, 11)) S hG (c_X6_isBracelet_1 E (z := z) hr (hok.sz hr hr0) (r3 r hr).1) 1 gX6_bracelet_X6_isBracelet rfl kX6_isBracelet ⟨Nat.le_of_ble_eq_true rfl, Nat.le_of_ble_eq_true rfl⟩ ⟨Nat.zero_le _, Nat.zero_le _⟩ (⟨h0, h1⟩) rfl h0 rfl hl.1 rfl rfl (Nat.le_of_ble_eq_true rfl) dX6_bracelet_2 ?_
  refine z_fne (tgt := 10) hx hb dX6_bracelet_5 (by decide) (by omega) (fun c_1 => ?_) (fun c_1 => by exfalso; omega)
  refine lv_iload_n hx hb dX6_bracelet_10 rfl (lv_at hl 2 rfl) ?_
  refine lv_tableOut (tgt := 64) hx hb dX6_bracelet_11 (zin_out (by decide) hy) (by decide) ?_
  refine lv_bipush (v := (-2)) hx hb dX6_bracelet_64 (by decide) ?_
  exact hret _ _ _ dX6_bracelet_66 (rfl)

set_option maxHeartbeats 4000000 in
set_option maxRecDepth 100000 in
theorem c_X6_bracelet_20 (E : zEnv) {am : Nat → Nat} {nw sv : zS} {an : Bool} {hs : Nat → zS} {ct ln : Nat} {cd : Nat → Int32} {r : Nat} (hok : zOk nw) (hr : r < 6) (hr0 : zSz nw r ≠ 0) : zRO E yX6_bracelet wsX6_bracelet 4 89 [.ref (am 0), .int (nI (r)), .int (nI (0))] (fun H => zMW E am nw sv an hs ct ln cd H) (some (.int (nI (zSz nw r)))) := by
  refine zRO.ofI (maxL := 3) rfl (Nat.le_of_ble_eq_true rfl) (fun p e s m args below meth c H Q hF hP hret ls hl => ?_)
  have S : CallFix p m c cX6_bracelet 3 s args wsX6_bracelet RX6 := hF.1
  have hG := hF.2
  obtain ⟨hx, hb, hml, hown, hts⟩ := id S
  obtain ⟨z, past, kept, buf, rg, td, tm, nb, ⟨h0, h1, h2, h3, h4, h5, h6⟩, hrep, hpa, hke, hbu⟩ := hP
  obtain ⟨r1, rwt, r3, r4, r5, r6, r7⟩ := id hrep
  have hn := hok.sz hr hr0
  have hm4 := hok.m4 hr
  have hl : lv_has ls 3 [(0, .ref (am 0)), (1, .int (nI (r))), (2, .int (nI (0)))] := hl
  refine lv_aload_n hx hb dX6_bracelet_0 rfl (lv_at hl 0 rfl) ?_
  refine lv_iload_n hx hb dX6_bracelet_1 rfl (lv_at hl 1 rfl) ?_
  refine z_roV (As := [.int (nI (r))]) (rest := []) (q := (RX6, TX6, 11)) S hG (c_X6_isBracelet_1 E (z := z) hr (hok.sz hr hr0) (r3 r hr).1) 1 gX6_bracelet_X6_isBracelet rfl kX6_isBracelet ⟨Nat.le_of_ble_eq_true rfl, Nat.le_of_ble_eq_true rfl⟩ ⟨Nat.zero_le _, Nat.zero_le _⟩ (⟨h0, h1⟩) rfl h0 rfl hl.1 rfl rfl (Nat.le_of_ble_eq_true rfl) dX6_bracelet_2 ?_
  refine z_fne (tgt := 10) hx hb dX6_bracelet_5 (by decide) (by omega) (fun c_1 => ?_) (fun c_1 => by exfalso; omega)
  refine lv_iload_n hx hb dX6_bracelet_10 rfl (lv_at hl 2 rfl) ?_
  refine lv_tableIn (off := 29) (tgt := 40) hx hb dX6_bracelet_11 (by decide) (by decide) rfl (by decide) ?_
  refine lv_aload_n hx hb dX6_bracelet_40 rfl (lv_at hl 0 rfl) ?_
  refine lv_iload_n hx hb dX6_bracelet_41 rfl (lv_at hl 1 rfl) ?_
  refine z_roV (As := [.int (nI (r))]) (rest := []) (q := (RX6, TX6, 11)) S hG (c_X6_slots E (z := z) (i := r) (n := (zSz nw r)) hr (r3 r hr).1) 1 gX6_bracelet_X6_slots rfl kX6_slots ⟨Nat.le_of_ble_eq_true rfl, Nat.le_of_ble_eq_true rfl⟩ ⟨Nat.zero_le _, Nat.zero_le _⟩ (⟨h0, h1⟩) rfl h0 rfl hl.1 rfl rfl (Nat.le_of_ble_eq_true rfl) dX6_bracelet_42 ?_
  exact hret _ _ _ dX6_bracelet_45 (rfl)

set_option maxHeartbeats 4000000 in
set_option maxRecDepth 100000 in
theorem c_X6_bracelet_21 (E : zEnv) {am : Nat → Nat} {nw sv : zS} {an : Bool} {hs : Nat → zS} {ct ln : Nat} {cd : Nat → Int32} {r : Nat} (hok : zOk nw) (hr : r < 6) (hr0 : zSz nw r ≠ 0) : zRO E yX6_bracelet wsX6_bracelet 4 89 [.ref (am 0), .int (nI (r)), .int (nI (1))] (fun H => zMW E am nw sv an hs ct ln cd H) (some (.int (nI ((zSz nw r) - zcn (zKd nw r) 0 (zSz nw r))))) := by
  refine zRO.ofI (maxL := 3) rfl (Nat.le_of_ble_eq_true rfl) (fun p e s m args below meth c H Q hF hP hret ls hl => ?_)
  have S : CallFix p m c cX6_bracelet 3 s args wsX6_bracelet RX6 := hF.1
  have hG := hF.2
  obtain ⟨hx, hb, hml, hown, hts⟩ := id S
  obtain ⟨z, past, kept, buf, rg, td, tm, nb, ⟨h0, h1, h2, h3, h4, h5, h6⟩, hrep, hpa, hke, hbu⟩ := hP
  obtain ⟨r1, rwt, r3, r4, r5, r6, r7⟩ := id hrep
  have hn := hok.sz hr hr0
  have hm4 := hok.m4 hr
  have hl : lv_has ls 3 [(0, .ref (am 0)), (1, .int (nI (r))), (2, .int (nI (1)))] := hl
  refine lv_aload_n hx hb dX6_bracelet_0 rfl (lv_at hl 0 rfl) ?_
  refine lv_iload_n hx hb dX6_bracelet_1 rfl (lv_at hl 1 rfl) ?_
  refine z_roV (As := [.int (nI (r))]) (rest := []) (q := (RX6, TX6, 11)) S hG (c_X6_isBracelet_1 E (z := z) hr (hok.sz hr hr0) (r3 r hr).1) 1 gX6_bracelet_X6_isBracelet rfl kX6_isBracelet ⟨Nat.le_of_ble_eq_true rfl, Nat.le_of_ble_eq_true rfl⟩ ⟨Nat.zero_le _, Nat.zero_le _⟩ (⟨h0, h1⟩) rfl h0 rfl hl.1 rfl rfl (Nat.le_of_ble_eq_true rfl) dX6_bracelet_2 ?_
  refine z_fne (tgt := 10) hx hb dX6_bracelet_5 (by decide) (by omega) (fun c_1 => ?_) (fun c_1 => by exfalso; omega)
  refine lv_iload_n hx hb dX6_bracelet_10 rfl (lv_at hl 2 rfl) ?_
  refine lv_tableIn (off := 35) (tgt := 46) hx hb dX6_bracelet_11 (by decide) (by decide) rfl (by decide) ?_
  refine lv_aload_n hx hb dX6_bracelet_46 rfl (lv_at hl 0 rfl) ?_
  refine lv_iload_n hx hb dX6_bracelet_47 rfl (lv_at hl 1 rfl) ?_
  refine z_roV (As := [.int (nI (r))]) (rest := []) (q := (RX6, TX6, 11)) S hG (c_X6_charms E (z := z) (i := r) (n := (zSz nw r)) (f := (zKd nw r)) hr hn (r3 r hr)) 1 gX6_bracelet_X6_charms rfl kX6_charms ⟨Nat.le_of_ble_eq_true rfl, Nat.le_of_ble_eq_true rfl⟩ ⟨Nat.zero_le _, Nat.zero_le _⟩ (⟨h0, h1⟩) rfl h0 rfl hl.1 rfl rfl (Nat.le_of_ble_eq_true rfl) dX6_bracelet_48 ?_
  exact hret _ _ _ dX6_bracelet_51 (rfl)

set_option maxHeartbeats 4000000 in
set_option maxRecDepth 100000 in
theorem c_X6_bracelet_22 (E : zEnv) {am : Nat → Nat} {nw sv : zS} {an : Bool} {hs : Nat → zS} {ct ln : Nat} {cd : Nat → Int32} {r : Nat} (hok : zOk nw) (hr : r < 6) (hr0 : zSz nw r ≠ 0) : zRO E yX6_bracelet wsX6_bracelet 4 89 [.ref (am 0), .int (nI (r)), .int (nI (2))] (fun H => zMW E am nw sv an hs ct ln cd H) (some (.int (zqs (zWt nw) (zKd nw r) 0 (zSz nw r)))) := by
  refine zRO.ofI (maxL := 3) rfl (Nat.le_of_ble_eq_true rfl) (fun p e s m args below meth c H Q hF hP hret ls hl => ?_)
  have S : CallFix p m c cX6_bracelet 3 s args wsX6_bracelet RX6 := hF.1
  have hG := hF.2
  obtain ⟨hx, hb, hml, hown, hts⟩ := id S
  obtain ⟨z, past, kept, buf, rg, td, tm, nb, ⟨h0, h1, h2, h3, h4, h5, h6⟩, hrep, hpa, hke, hbu⟩ := hP
  obtain ⟨r1, rwt, r3, r4, r5, r6, r7⟩ := id hrep
  have hn := hok.sz hr hr0
  have hm4 := hok.m4 hr
  have hl : lv_has ls 3 [(0, .ref (am 0)), (1, .int (nI (r))), (2, .int (nI (2)))] := hl
  refine lv_aload_n hx hb dX6_bracelet_0 rfl (lv_at hl 0 rfl) ?_
  refine lv_iload_n hx hb dX6_bracelet_1 rfl (lv_at hl 1 rfl) ?_
  refine z_roV (As := [.int (nI (r))]) (rest := []) (q := (RX6, TX6, 11)) S hG (c_X6_isBracelet_1 E (z := z) hr (hok.sz hr hr0) (r3 r hr).1) 1 gX6_bracelet_X6_isBracelet rfl kX6_isBracelet ⟨Nat.le_of_ble_eq_true rfl, Nat.le_of_ble_eq_true rfl⟩ ⟨Nat.zero_le _, Nat.zero_le _⟩ (⟨h0, h1⟩) rfl h0 rfl hl.1 rfl rfl (Nat.le_of_ble_eq_true rfl) dX6_bracelet_2 ?_
  refine z_fne (tgt := 10) hx hb dX6_bracelet_5 (by decide) (by omega) (fun c_1 => ?_) (fun c_1 => by exfalso; omega)
  refine lv_iload_n hx hb dX6_bracelet_10 rfl (lv_at hl 2 rfl) ?_
  refine lv_tableIn (off := 41) (tgt := 52) hx hb dX6_bracelet_11 (by decide) (by decide) rfl (by decide) ?_
  refine lv_aload_n hx hb dX6_bracelet_52 rfl (lv_at hl 0 rfl) ?_
  refine lv_iload_n hx hb dX6_bracelet_53 rfl (lv_at hl 1 rfl) ?_
  refine z_roV (As := [.int (nI (r))]) (rest := []) (q := (RX6, TX6, 11)) S hG (c_X6_weightAll E (z := z) (i := r) (n := (zSz nw r)) (f := (zKd nw r)) (wt := zWt nw) hr hn (r3 r hr) hm4 (fun s hs => hok.2.1 r hr s hs) (fun t a b => rwt t a b)) 1 gX6_bracelet_X6_weightAll rfl kX6_weightAll ⟨Nat.le_of_ble_eq_true rfl, Nat.le_of_ble_eq_true rfl⟩ ⟨Nat.zero_le _, Nat.zero_le _⟩ (⟨h0, h1⟩) rfl h0 rfl hl.1 rfl rfl (Nat.le_of_ble_eq_true rfl) dX6_bracelet_54 ?_
  exact hret _ _ _ dX6_bracelet_57 (by rw [zqs_4 hm4])

set_option maxHeartbeats 4000000 in
set_option maxRecDepth 100000 in
theorem c_X6_bracelet_23 (E : zEnv) {am : Nat → Nat} {nw sv : zS} {an : Bool} {hs : Nat → zS} {ct ln : Nat} {cd : Nat → Int32} {r : Nat} (hok : zOk nw) (hr : r < 6) (hr0 : zSz nw r ≠ 0) : zRO E yX6_bracelet wsX6_bracelet 4 89 [.ref (am 0), .int (nI (r)), .int (nI (3))] (fun H => zMW E am nw sv an hs ct ln cd H) (some (.int (zlean (zWt nw) (zSz nw r) (zKd nw r)))) := by
  refine zRO.ofI (maxL := 3) rfl (Nat.le_of_ble_eq_true rfl) (fun p e s m args below meth c H Q hF hP hret ls hl => ?_)
  have S : CallFix p m c cX6_bracelet 3 s args wsX6_bracelet RX6 := hF.1
  have hG := hF.2
  obtain ⟨hx, hb, hml, hown, hts⟩ := id S
  obtain ⟨z, past, kept, buf, rg, td, tm, nb, ⟨h0, h1, h2, h3, h4, h5, h6⟩, hrep, hpa, hke, hbu⟩ := hP
  obtain ⟨r1, rwt, r3, r4, r5, r6, r7⟩ := id hrep
  have hn := hok.sz hr hr0
  have hm4 := hok.m4 hr
  have hl : lv_has ls 3 [(0, .ref (am 0)), (1, .int (nI (r))), (2, .int (nI (3)))] := hl
  refine lv_aload_n hx hb dX6_bracelet_0 rfl (lv_at hl 0 rfl) ?_
  refine lv_iload_n hx hb dX6_bracelet_1 rfl (lv_at hl 1 rfl) ?_
  refine z_roV (As := [.int (nI (r))]) (rest := []) (q := (RX6, TX6, 11)) S hG (c_X6_isBracelet_1 E (z := z) hr (hok.sz hr hr0) (r3 r hr).1) 1 gX6_bracelet_X6_isBracelet rfl kX6_isBracelet ⟨Nat.le_of_ble_eq_true rfl, Nat.le_of_ble_eq_true rfl⟩ ⟨Nat.zero_le _, Nat.zero_le _⟩ (⟨h0, h1⟩) rfl h0 rfl hl.1 rfl rfl (Nat.le_of_ble_eq_true rfl) dX6_bracelet_2 ?_
  refine z_fne (tgt := 10) hx hb dX6_bracelet_5 (by decide) (by omega) (fun c_1 => ?_) (fun c_1 => by exfalso; omega)
  refine lv_iload_n hx hb dX6_bracelet_10 rfl (lv_at hl 2 rfl) ?_
  refine lv_tableIn (off := 47) (tgt := 58) hx hb dX6_bracelet_11 (by decide) (by decide) rfl (by decide) ?_
  refine lv_aload_n hx hb dX6_bracelet_58 rfl (lv_at hl 0 rfl) ?_
  refine lv_iload_n hx hb dX6_bracelet_59 rfl (lv_at hl 1 rfl) ?_
  refine z_roV (As := [.int (nI (r))]) (rest := []) (q := (RX6, TX6, 11)) S hG (c_X6_lean E (z := z) (i := r) (n := (zSz nw r)) (f := (zKd nw r)) (wt := zWt nw) hr hn (r3 r hr) hm4 (fun s hs => hok.2.1 r hr s hs) (fun t a b => rwt t a b)) 1 gX6_bracelet_X6_lean rfl kX6_lean ⟨Nat.le_of_ble_eq_true rfl, Nat.le_of_ble_eq_true rfl⟩ ⟨Nat.zero_le _, Nat.zero_le _⟩ (⟨h0, h1⟩) rfl h0 rfl hl.1 rfl rfl (Nat.le_of_ble_eq_true rfl) dX6_bracelet_60 ?_
  exact hret _ _ _ dX6_bracelet_63 (rfl)

set_option maxHeartbeats 4000000 in
set_option maxRecDepth 100000 in
theorem c_X6_slot_0 (E : zEnv) {am : Nat → Nat} {nw sv : zS} {an : Bool} {hs : Nat → zS} {ct ln : Nat} {cd : Nat → Int32} {x y : Int32} (hok : zOk nw) (hq : zfnd (zSz nw) x = none) : zRO E yX6_slot wsX6_slot 3 65 [.ref (am 0), .int (x), .int (y)] (fun H => zMW E am nw sv an hs ct ln cd H) (some (.int (-1))) := by
  refine zRO.ofI (maxL := 3) rfl (Nat.le_of_ble_eq_true rfl) (fun p e s m args below meth c H Q hF hP hret ls hl => ?_)
  have S : CallFix p m c cX6_slot 3 s args wsX6_slot RX6 := hF.1
  have hG := hF.2
  obtain ⟨hx, hb, hml, hown, hts⟩ := id S
  obtain ⟨z, past, kept, buf, rg, td, tm, nb, ⟨h0, h1, h2, h3, h4, h5, h6⟩, hrep, hpa, hke, hbu⟩ := hP
  obtain ⟨r1, rwt, r3, r4, r5, r6, r7⟩ := id hrep
  have hl : lv_has ls 3 [(0, .ref (am 0)), (1, .int (x)), (2, .int (y))] := hl
  have hin6 : ∀ w ∈ u_ws RX6 TX6 11, w ∈ wsX6_slot := by decide +kernel
  refine lv_aload_n hx hb dX6_slot_0 rfl (lv_at hl 0 rfl) ?_
  refine lv_iload_n hx hb dX6_slot_1 rfl (lv_at hl 1 rfl) ?_
  refine lv_iload_n hx hb dX6_slot_2 rfl (lv_at hl 2 rfl) ?_
  refine z_roV (As := [.int (x), .int (y)]) (rest := []) (q := (RX6, TX6, 11)) S hG (c_X6_isSlot_0 E (z := z) (fun t ht => (r3 t ht).1) hok.h16 hq) 2 gX6_slot_X6_isSlot rfl kX6_isSlot ⟨Nat.le_of_ble_eq_true rfl, Nat.le_of_ble_eq_true rfl⟩ ⟨Nat.zero_le _, Nat.zero_le _⟩ (⟨h0, h1⟩) rfl h0 rfl hl.1 rfl rfl (Nat.le_of_ble_eq_true rfl) dX6_slot_3 ?_
  refine z_feq (tgt := 23) hx hb dX6_slot_6 (by decide) (by omega) (fun c_1 => ?_) (fun c_1 => by exfalso; omega)
  refine lv_iconst (v := (-1)) hx hb dX6_slot_23 (by decide) ?_
  exact hret _ _ _ dX6_slot_24 (rfl)

set_option maxHeartbeats 4000000 in
set_option maxRecDepth 100000 in
theorem c_X6_slot_1 (E : zEnv) {am : Nat → Nat} {nw sv : zS} {an : Bool} {hs : Nat → zS} {ct ln : Nat} {cd : Nat → Int32} {r : Nat} {y : Int32} (hok : zOk nw) (hr : r < 6) (hr0 : zSz nw r ≠ 0) (hy : zin y 0 ((zSz nw r) - 1) = false) : zRO E yX6_slot wsX6_slot 3 65 [.ref (am 0), .int (nI (r)), .int (y)] (fun H => zMW E am nw sv an hs ct ln cd H) (some (.int (-1))) := by
  refine zRO.ofI (maxL := 3) rfl (Nat.le_of_ble_eq_true rfl) (fun p e s m args below meth c H Q hF hP hret ls hl => ?_)
  have S : CallFix p m c cX6_slot 3 s args wsX6_slot RX6 := hF.1
  have hG := hF.2
  obtain ⟨hx, hb, hml, hown, hts⟩ := id S
  obtain ⟨z, past, kept, buf, rg, td, tm, nb, ⟨h0, h1, h2, h3, h4, h5, h6⟩, hrep, hpa, hke, hbu⟩ := hP
  obtain ⟨r1, rwt, r3, r4, r5, r6, r7⟩ := id hrep
  have hn := hok.sz hr hr0
  have hl : lv_has ls 3 [(0, .ref (am 0)), (1, .int (nI (r))), (2, .int (y))] := hl
  have hin6 : ∀ w ∈ u_ws RX6 TX6 11, w ∈ wsX6_slot := by decide +kernel
  refine lv_aload_n hx hb dX6_slot_0 rfl (lv_at hl 0 rfl) ?_
  refine lv_iload_n hx hb dX6_slot_1 rfl (lv_at hl 1 rfl) ?_
  refine lv_iload_n hx hb dX6_slot_2 rfl (lv_at hl 2 rfl) ?_
  refine z_roV (As := [.int (nI (r)), .int (y)]) (rest := []) (q := (RX6, TX6, 11)) S hG (c_X6_isSlot_1 E (z := z) (y := y) hr hn (r3 r hr).1) 2 gX6_slot_X6_isSlot rfl kX6_isSlot ⟨Nat.le_of_ble_eq_true rfl, Nat.le_of_ble_eq_true rfl⟩ ⟨Nat.zero_le _, Nat.zero_le _⟩ (⟨h0, h1⟩) rfl h0 rfl hl.1 rfl rfl (Nat.le_of_ble_eq_true rfl) dX6_slot_3 ?_
  refine z_beq (tgt := 23) hx hb dX6_slot_6 (by decide) (fun c_1 => ?_) (fun c_1 => by exfalso; rw [hy] at c_1; cases c_1)
  refine lv_iconst (v := (-1)) hx hb dX6_slot_23 (by decide) ?_
  exact hret _ _ _ dX6_slot_24 (rfl)

set_option maxHeartbeats 4000000 in
set_option maxRecDepth 100000 in
theorem c_X6_slot_2 (E : zEnv) {am : Nat → Nat} {nw sv : zS} {an : Bool} {hs : Nat → zS} {ct ln : Nat} {cd : Nat → Int32} {r j : Nat} (hok : zOk nw) (hr : r < 6) (hr0 : zSz nw r ≠ 0) (hj : j < (zSz nw r)) : zRO E yX6_slot wsX6_slot 3 65 [.ref (am 0), .int (nI (r)), .int (nI (j))] (fun H => zMW E am nw sv an hs ct ln cd H) (some (.int ((zKd nw r) j))) := by
  refine zRO.ofI (maxL := 3) rfl (Nat.le_of_ble_eq_true rfl) (fun p e s m args below meth c H Q hF hP hret ls hl => ?_)
  have S : CallFix p m c cX6_slot 3 s args wsX6_slot RX6 := hF.1
  have hG := hF.2
  obtain ⟨hx, hb, hml, hown, hts⟩ := id S
  obtain ⟨z, past, kept, buf, rg, td, tm, nb, ⟨h0, h1, h2, h3, h4, h5, h6⟩, hrep, hpa, hke, hbu⟩ := hP
  obtain ⟨r1, rwt, r3, r4, r5, r6, r7⟩ := id hrep
  have hn := hok.sz hr hr0
  have hl : lv_has ls 3 [(0, .ref (am 0)), (1, .int (nI (r))), (2, .int (nI (j)))] := hl
  have hin6 : ∀ w ∈ u_ws RX6 TX6 11, w ∈ wsX6_slot := by decide +kernel
  refine lv_aload_n hx hb dX6_slot_0 rfl (lv_at hl 0 rfl) ?_
  refine lv_iload_n hx hb dX6_slot_1 rfl (lv_at hl 1 rfl) ?_
  refine lv_iload_n hx hb dX6_slot_2 rfl (lv_at hl 2 rfl) ?_
  refine z_roV (As := [.int (nI (r)), .int (nI (j))]) (rest := []) (q := (RX6, TX6, 11)) S hG (c_X6_isSlot_1 E (z := z) (y := (nI j)) hr hn (r3 r hr).1) 2 gX6_slot_X6_isSlot rfl kX6_isSlot ⟨Nat.le_of_ble_eq_true rfl, Nat.le_of_ble_eq_true rfl⟩ ⟨Nat.zero_le _, Nat.zero_le _⟩ (⟨h0, h1⟩) rfl h0 rfl hl.1 rfl rfl (Nat.le_of_ble_eq_true rfl) dX6_slot_3 ?_
  refine z_beq (tgt := 23) hx hb dX6_slot_6 (by decide) (fun c_1 => by exfalso; rw [zin_y (Nat.zero_le _) (by omega) (by omega)] at c_1; cases c_1) (fun c_1 => ?_)
  refine lv_aload_n hx hb dX6_slot_9 rfl (lv_at hl 0 rfl) ?_
  refine z_get (ref := RX6) (C := RX6) (T := TX6) (N := 11) hx hb hts hin6 hown hG h0 rfl 0 (by decide) (by decide +kernel) rfl rfl dX6_slot_10 ?_
  refine lv_aload_n hx hb dX6_slot_13 rfl (lv_at hl 0 rfl) ?_
  refine lv_iload_n hx hb dX6_slot_14 rfl (lv_at hl 1 rfl) ?_
  refine lv_iload_n hx hb dX6_slot_15 rfl (lv_at hl 2 rfl) ?_
  refine z_roV (As := [.int (nI (r)), .int (nI (j))]) (rest := [.ref (am 1)]) (q := (RX6, TX6, 11)) S hG (c_X6_at E (z := z) (i := r) (n := (zSz nw r)) (j := j) hr (r3 r hr).1 ⟨hj, hn.2⟩) 2 gX6_slot_X6_at rfl kX6_at ⟨Nat.le_of_ble_eq_true rfl, Nat.le_of_ble_eq_true rfl⟩ ⟨Nat.zero_le _, Nat.zero_le _⟩ (⟨h0, h1⟩) rfl h0 rfl hl.1 rfl rfl (Nat.le_of_ble_eq_true rfl) dX6_slot_16 ?_
  refine z_iald (j := 10 + 17 * r + 1 + j) hx hb hG h1 ⟨by omega, by omega⟩ dX6_slot_19 ?_
  refine z_top (y := ((zKd nw r) j)) ((r3 r hr).2 j hj) ?_
  refine lv_goto (tgt := 24) hx hb dX6_slot_20 (by decide) ?_
  exact hret _ _ _ dX6_slot_24 (rfl)

set_option maxHeartbeats 4000000 in
set_option maxRecDepth 100000 in
theorem c_X6_quarter_0 (E : zEnv) {am : Nat → Nat} {nw sv : zS} {an : Bool} {hs : Nat → zS} {ct ln : Nat} {cd : Nat → Int32} {x y : Int32} (hok : zOk nw) (hq : zfnd (zSz nw) x = none) : zRO E yX6_quarter wsX6_quarter 3 68 [.ref (am 0), .int (x), .int (y)] (fun H => zMW E am nw sv an hs ct ln cd H) (some (.int (-1))) := by
  refine zRO.ofI (maxL := 3) rfl (Nat.le_of_ble_eq_true rfl) (fun p e s m args below meth c H Q hF hP hret ls hl => ?_)
  have S : CallFix p m c cX6_quarter 3 s args wsX6_quarter RX6 := hF.1
  have hG := hF.2
  obtain ⟨hx, hb, hml, hown, hts⟩ := id S
  obtain ⟨z, past, kept, buf, rg, td, tm, nb, ⟨h0, h1, h2, h3, h4, h5, h6⟩, hrep, hpa, hke, hbu⟩ := hP
  obtain ⟨r1, rwt, r3, r4, r5, r6, r7⟩ := id hrep
  have hl : lv_has ls 3 [(0, .ref (am 0)), (1, .int (x)), (2, .int (y))] := hl
  refine lv_aload_n hx hb dX6_quarter_0 rfl (lv_at hl 0 rfl) ?_
  refine lv_iload_n hx hb dX6_quarter_1 rfl (lv_at hl 1 rfl) ?_
  refine z_roV (As := [.int (x)]) (rest := []) (q := (RX6, TX6, 11)) S hG (c_X6_isBracelet_0 E (z := z) (fun t ht => (r3 t ht).1) hok.h16 hq) 1 gX6_quarter_X6_isBracelet rfl kX6_isBracelet ⟨Nat.le_of_ble_eq_true rfl, Nat.le_of_ble_eq_true rfl⟩ ⟨Nat.zero_le _, Nat.zero_le _⟩ (⟨h0, h1⟩) rfl h0 rfl hl.1 rfl rfl (Nat.le_of_ble_eq_true rfl) dX6_quarter_2 ?_
  refine z_feq (tgt := 26) hx hb dX6_quarter_5 (by decide) (by omega) (fun c_1 => ?_) (fun c_1 => by exfalso; omega)
  refine lv_iconst (v := (-1)) hx hb dX6_quarter_26 (by decide) ?_
  exact hret _ _ _ dX6_quarter_27 (rfl)

set_option maxHeartbeats 4000000 in
set_option maxRecDepth 100000 in
theorem c_X6_quarter_1 (E : zEnv) {am : Nat → Nat} {nw sv : zS} {an : Bool} {hs : Nat → zS} {ct ln : Nat} {cd : Nat → Int32} {r : Nat} {y : Int32} (hok : zOk nw) (hr : r < 6) (hr0 : zSz nw r ≠ 0) (hy : zin y 0 3 = false) : zRO E yX6_quarter wsX6_quarter 3 68 [.ref (am 0), .int (nI (r)), .int (y)] (fun H => zMW E am nw sv an hs ct ln cd H) (some (.int (-1))) := by
  refine zRO.ofI (maxL := 3) rfl (Nat.le_of_ble_eq_true rfl) (fun p e s m args below meth c H Q hF hP hret ls hl => ?_)
  have S : CallFix p m c cX6_quarter 3 s args wsX6_quarter RX6 := hF.1
  have hG := hF.2
  obtain ⟨hx, hb, hml, hown, hts⟩ := id S
  obtain ⟨z, past, kept, buf, rg, td, tm, nb, ⟨h0, h1, h2, h3, h4, h5, h6⟩, hrep, hpa, hke, hbu⟩ := hP
  obtain ⟨r1, rwt, r3, r4, r5, r6, r7⟩ := id hrep
  have hl : lv_has ls 3 [(0, .ref (am 0)), (1, .int (nI (r))), (2, .int (y))] := hl
  refine lv_aload_n hx hb dX6_quarter_0 rfl (lv_at hl 0 rfl) ?_
  refine lv_iload_n hx hb dX6_quarter_1 rfl (lv_at hl 1 rfl) ?_
  refine z_roV (As := [.int (nI (r))]) (rest := []) (q := (RX6, TX6, 11)) S hG (c_X6_isBracelet_1 E (z := z) hr (hok.sz hr hr0) (r3 r hr).1) 1 gX6_quarter_X6_isBracelet rfl kX6_isBracelet ⟨Nat.le_of_ble_eq_true rfl, Nat.le_of_ble_eq_true rfl⟩ ⟨Nat.zero_le _, Nat.zero_le _⟩ (⟨h0, h1⟩) rfl h0 rfl hl.1 rfl rfl (Nat.le_of_ble_eq_true rfl) dX6_quarter_2 ?_
  refine z_feq (tgt := 26) hx hb dX6_quarter_5 (by decide) (by omega) (fun c_1 => by exfalso; omega) (fun c_1 => ?_)
  refine lv_iload_n hx hb dX6_quarter_8 rfl (lv_at hl 2 rfl) ?_
  refine lv_iconst (v := nI (0)) hx hb dX6_quarter_9 (by decide) ?_
  refine lv_iconst (v := nI (3)) hx hb dX6_quarter_10 (by decide) ?_
  refine z_roSX (As := [.int (y), .int (nI (0)), .int (nI (3))]) (rest := []) S hG (c_X6_in E) 3 gX6_quarter_X6_in rfl kX6_in.2 ⟨Nat.le_of_ble_eq_true rfl, Nat.le_of_ble_eq_true rfl⟩ ⟨Nat.zero_le _, Nat.zero_le _⟩ (trivial) rfl hl.1 rfl rfl (Nat.le_of_ble_eq_true rfl) dX6_quarter_11 ?_
  refine z_beq (tgt := 26) hx hb dX6_quarter_14 (by decide) (fun c_2 => ?_) (fun c_2 => by exfalso; rw [hy] at c_2; cases c_2)
  refine lv_iconst (v := (-1)) hx hb dX6_quarter_26 (by decide) ?_
  exact hret _ _ _ dX6_quarter_27 (rfl)

set_option maxHeartbeats 4000000 in
set_option maxRecDepth 100000 in
theorem c_X6_quarter_2 (E : zEnv) {am : Nat → Nat} {nw sv : zS} {an : Bool} {hs : Nat → zS} {ct ln : Nat} {cd : Nat → Int32} {r j : Nat} (hok : zOk nw) (hr : r < 6) (hr0 : zSz nw r ≠ 0) (hj : j < 4) : zRO E yX6_quarter wsX6_quarter 3 68 [.ref (am 0), .int (nI (r)), .int (nI (j))] (fun H => zMW E am nw sv an hs ct ln cd H) (some (.int (zqw (zWt nw) (zSz nw r) (zKd nw r) j))) := by
  refine zRO.ofI (maxL := 3) rfl (Nat.le_of_ble_eq_true rfl) (fun p e s m args below meth c H Q hF hP hret ls hl => ?_)
  have S : CallFix p m c cX6_quarter 3 s args wsX6_quarter RX6 := hF.1
  have hG := hF.2
  obtain ⟨hx, hb, hml, hown, hts⟩ := id S
  obtain ⟨z, past, kept, buf, rg, td, tm, nb, ⟨h0, h1, h2, h3, h4, h5, h6⟩, hrep, hpa, hke, hbu⟩ := hP
  obtain ⟨r1, rwt, r3, r4, r5, r6, r7⟩ := id hrep
  have hn := hok.sz hr hr0
  have hm4 := hok.m4 hr
  have hl : lv_has ls 3 [(0, .ref (am 0)), (1, .int (nI (r))), (2, .int (nI (j)))] := hl
  refine lv_aload_n hx hb dX6_quarter_0 rfl (lv_at hl 0 rfl) ?_
  refine lv_iload_n hx hb dX6_quarter_1 rfl (lv_at hl 1 rfl) ?_
  refine z_roV (As := [.int (nI (r))]) (rest := []) (q := (RX6, TX6, 11)) S hG (c_X6_isBracelet_1 E (z := z) hr (hok.sz hr hr0) (r3 r hr).1) 1 gX6_quarter_X6_isBracelet rfl kX6_isBracelet ⟨Nat.le_of_ble_eq_true rfl, Nat.le_of_ble_eq_true rfl⟩ ⟨Nat.zero_le _, Nat.zero_le _⟩ (⟨h0, h1⟩) rfl h0 rfl hl.1 rfl rfl (Nat.le_of_ble_eq_true rfl) dX6_quarter_2 ?_
  refine z_feq (tgt := 26) hx hb dX6_quarter_5 (by decide) (by omega) (fun c_1 => by exfalso; omega) (fun c_1 => ?_)
  refine lv_iload_n hx hb dX6_quarter_8 rfl (lv_at hl 2 rfl) ?_
  refine lv_iconst (v := nI (0)) hx hb dX6_quarter_9 (by decide) ?_
  refine lv_iconst (v := nI (3)) hx hb dX6_quarter_10 (by decide) ?_
  refine z_roSX (As := [.int (nI (j)), .int (nI (0)), .int (nI (3))]) (rest := []) S hG (c_X6_in E) 3 gX6_quarter_X6_in rfl kX6_in.2 ⟨Nat.le_of_ble_eq_true rfl, Nat.le_of_ble_eq_true rfl⟩ ⟨Nat.zero_le _, Nat.zero_le _⟩ (trivial) rfl hl.1 rfl rfl (Nat.le_of_ble_eq_true rfl) dX6_quarter_11 ?_
  refine z_beq (tgt := 26) hx hb dX6_quarter_14 (by decide) (fun c_2 => by exfalso; rw [zin_y (Nat.zero_le _) (by omega) (by omega)] at c_2; cases c_2) (fun c_2 => ?_)
  refine lv_aload_n hx hb dX6_quarter_17 rfl (lv_at hl 0 rfl) ?_
  refine lv_iload_n hx hb dX6_quarter_18 rfl (lv_at hl 1 rfl) ?_
  refine lv_iload_n hx hb dX6_quarter_19 rfl (lv_at hl 2 rfl) ?_
  refine z_roV (As := [.int (nI (r)), .int (nI (j))]) (rest := []) (q := (RX6, TX6, 11)) S hG (c_X6_quarterOf E (z := z) (i := r) (n := (zSz nw r)) (f := (zKd nw r)) (q := j) (wt := zWt nw) hr hn (r3 r hr) hm4 hj (fun s hs => hok.2.1 r hr s hs) (fun t a b => rwt t a b)) 2 gX6_quarter_X6_quarterOf rfl kX6_quarterOf ⟨Nat.le_of_ble_eq_true rfl, Nat.le_of_ble_eq_true rfl⟩ ⟨Nat.zero_le _, Nat.zero_le _⟩ (⟨h0, h1⟩) rfl h0 rfl hl.1 rfl rfl (Nat.le_of_ble_eq_true rfl) dX6_quarter_20 ?_
  refine lv_goto (tgt := 27) hx hb dX6_quarter_23 (by decide) ?_
  exact hret _ _ _ dX6_quarter_27 (rfl)

set_option maxHeartbeats 4000000 in
set_option maxRecDepth 100000 in
theorem c_X6_alike_0 (E : zEnv) {am : Nat → Nat} {nw sv : zS} {an : Bool} {hs : Nat → zS} {ct ln : Nat} {cd : Nat → Int32} {x y w : Int32} (hok : zOk nw) (hq : zfnd (zSz nw) x = none) : zRO E yX6_alike wsX6_alike 5 121 [.ref (am 0), .int (x), .int (y), .int (w)] (fun H => zMW E am nw sv an hs ct ln cd H) (some (.int (-1))) := by
  refine zRO.ofI (maxL := 4) rfl (Nat.le_of_ble_eq_true rfl) (fun p e s m args below meth c H Q hF hP hret ls hl => ?_)
  have S : CallFix p m c cX6_alike 4 s args wsX6_alike RX6 := hF.1
  have hG := hF.2
  obtain ⟨hx, hb, hml, hown, hts⟩ := id S
  obtain ⟨z, past, kept, buf, rg, td, tm, nb, ⟨h0, h1, h2, h3, h4, h5, h6⟩, hrep, hpa, hke, hbu⟩ := hP
  obtain ⟨r1, rwt, r3, r4, r5, r6, r7⟩ := id hrep
  have hl : lv_has ls 4 [(0, .ref (am 0)), (1, .int (x)), (2, .int (y)), (3, .int (w))] := hl
  refine lv_aload_n hx hb dX6_alike_0 rfl (lv_at hl 0 rfl) ?_
  refine lv_iload_n hx hb dX6_alike_1 rfl (lv_at hl 1 rfl) ?_
  refine z_roV (As := [.int (x)]) (rest := []) (q := (RX6, TX6, 11)) S hG (c_X6_isBracelet_0 E (z := z) (fun t ht => (r3 t ht).1) hok.h16 hq) 1 gX6_alike_X6_isBracelet rfl kX6_isBracelet ⟨Nat.le_of_ble_eq_true rfl, Nat.le_of_ble_eq_true rfl⟩ ⟨Nat.zero_le _, Nat.zero_le _⟩ (⟨h0, h1⟩) rfl h0 rfl hl.1 rfl rfl (Nat.le_of_ble_eq_true rfl) dX6_alike_2 ?_
  refine z_feq (tgt := 16) hx hb dX6_alike_5 (by decide) (by omega) (fun c_1 => ?_) (fun c_1 => by exfalso; omega)
  refine lv_iconst (v := (-1)) hx hb dX6_alike_16 (by decide) ?_
  exact hret _ _ _ dX6_alike_17 (rfl)

set_option maxHeartbeats 4000000 in
set_option maxRecDepth 100000 in
theorem c_X6_alike_1 (E : zEnv) {am : Nat → Nat} {nw sv : zS} {an : Bool} {hs : Nat → zS} {ct ln : Nat} {cd : Nat → Int32} {r : Nat} {y w : Int32} (hok : zOk nw) (hr : r < 6) (hr0 : zSz nw r ≠ 0) (hqy : zfnd (zSz nw) y = none) : zRO E yX6_alike wsX6_alike 5 121 [.ref (am 0), .int (nI (r)), .int (y), .int (w)] (fun H => zMW E am nw sv an hs ct ln cd H) (some (.int (-1))) := by
  refine zRO.ofI (maxL := 4) rfl (Nat.le_of_ble_eq_true rfl) (fun p e s m args below meth c H Q hF hP hret ls hl => ?_)
  have S : CallFix p m c cX6_alike 4 s args wsX6_alike RX6 := hF.1
  have hG := hF.2
  obtain ⟨hx, hb, hml, hown, hts⟩ := id S
  obtain ⟨z, past, kept, buf, rg, td, tm, nb, ⟨h0, h1, h2, h3, h4, h5, h6⟩, hrep, hpa, hke, hbu⟩ := hP
  obtain ⟨r1, rwt, r3, r4, r5, r6, r7⟩ := id hrep
  have hl : lv_has ls 4 [(0, .ref (am 0)), (1, .int (nI (r))), (2, .int (y)), (3, .int (w))] := hl
  refine lv_aload_n hx hb dX6_alike_0 rfl (lv_at hl 0 rfl) ?_
  refine lv_iload_n hx hb dX6_alike_1 rfl (lv_at hl 1 rfl) ?_
  refine z_roV (As := [.int (nI (r))]) (rest := []) (q := (RX6, TX6, 11)) S hG (c_X6_isBracelet_1 E (z := z) hr (hok.sz hr hr0) (r3 r hr).1) 1 gX6_alike_X6_isBracelet rfl kX6_isBracelet ⟨Nat.le_of_ble_eq_true rfl, Nat.le_of_ble_eq_true rfl⟩ ⟨Nat.zero_le _, Nat.zero_le _⟩ (⟨h0, h1⟩) rfl h0 rfl hl.1 rfl rfl (Nat.le_of_ble_eq_true rfl) dX6_alike_2 ?_
  refine z_feq (tgt := 16) hx hb dX6_alike_5 (by decide) (by omega) (fun c_1 => by exfalso; omega) (fun c_1 => ?_)
  refine lv_aload_n hx hb dX6_alike_8 rfl (lv_at hl 0 rfl) ?_
  refine lv_iload_n hx hb dX6_alike_9 rfl (lv_at hl 2 rfl) ?_
  refine z_roV (As := [.int (y)]) (rest := []) (q := (RX6, TX6, 11)) S hG (c_X6_isBracelet_0 E (z := z) (fun t ht => (r3 t ht).1) hok.h16 hqy) 1 gX6_alike_X6_isBracelet rfl kX6_isBracelet ⟨Nat.le_of_ble_eq_true rfl, Nat.le_of_ble_eq_true rfl⟩ ⟨Nat.zero_le _, Nat.zero_le _⟩ (⟨h0, h1⟩) rfl h0 rfl hl.1 rfl rfl (Nat.le_of_ble_eq_true rfl) dX6_alike_10 ?_
  refine z_fne (tgt := 18) hx hb dX6_alike_13 (by decide) (by omega) (fun c_2 => by exfalso; omega) (fun c_2 => ?_)
  refine lv_iconst (v := (-1)) hx hb dX6_alike_16 (by decide) ?_
  exact hret _ _ _ dX6_alike_17 (rfl)

set_option maxHeartbeats 4000000 in
set_option maxRecDepth 100000 in
theorem c_X6_alike_2 (E : zEnv) {am : Nat → Nat} {nw sv : zS} {an : Bool} {hs : Nat → zS} {ct ln : Nat} {cd : Nat → Int32} {r r2 : Nat} {w : Int32} (hok : zOk nw) (hr : r < 6) (hr0 : zSz nw r ≠ 0) (hr2 : r2 < 6) (hr20 : zSz nw r2 ≠ 0) (hw : zin w 0 2 = false) : zRO E yX6_alike wsX6_alike 5 121 [.ref (am 0), .int (nI (r)), .int (nI (r2)), .int (w)] (fun H => zMW E am nw sv an hs ct ln cd H) (some (.int (-2))) := by
  refine zRO.ofI (maxL := 4) rfl (Nat.le_of_ble_eq_true rfl) (fun p e s m args below meth c H Q hF hP hret ls hl => ?_)
  have S : CallFix p m c cX6_alike 4 s args wsX6_alike RX6 := hF.1
  have hG := hF.2
  obtain ⟨hx, hb, hml, hown, hts⟩ := id S
  obtain ⟨z, past, kept, buf, rg, td, tm, nb, ⟨h0, h1, h2, h3, h4, h5, h6⟩, hrep, hpa, hke, hbu⟩ := hP
  obtain ⟨r1, rwt, r3, r4, r5, r6, r7⟩ := id hrep
  have hl : lv_has ls 4 [(0, .ref (am 0)), (1, .int (nI (r))), (2, .int (nI (r2))), (3, .int (w))] := hl
  refine lv_aload_n hx hb dX6_alike_0 rfl (lv_at hl 0 rfl) ?_
  refine lv_iload_n hx hb dX6_alike_1 rfl (lv_at hl 1 rfl) ?_
  refine z_roV (As := [.int (nI (r))]) (rest := []) (q := (RX6, TX6, 11)) S hG (c_X6_isBracelet_1 E (z := z) hr (hok.sz hr hr0) (r3 r hr).1) 1 gX6_alike_X6_isBracelet rfl kX6_isBracelet ⟨Nat.le_of_ble_eq_true rfl, Nat.le_of_ble_eq_true rfl⟩ ⟨Nat.zero_le _, Nat.zero_le _⟩ (⟨h0, h1⟩) rfl h0 rfl hl.1 rfl rfl (Nat.le_of_ble_eq_true rfl) dX6_alike_2 ?_
  refine z_feq (tgt := 16) hx hb dX6_alike_5 (by decide) (by omega) (fun c_1 => by exfalso; omega) (fun c_1 => ?_)
  refine lv_aload_n hx hb dX6_alike_8 rfl (lv_at hl 0 rfl) ?_
  refine lv_iload_n hx hb dX6_alike_9 rfl (lv_at hl 2 rfl) ?_
  refine z_roV (As := [.int (nI (r2))]) (rest := []) (q := (RX6, TX6, 11)) S hG (c_X6_isBracelet_1 E (z := z) hr2 (hok.sz hr2 hr20) (r3 r2 hr2).1) 1 gX6_alike_X6_isBracelet rfl kX6_isBracelet ⟨Nat.le_of_ble_eq_true rfl, Nat.le_of_ble_eq_true rfl⟩ ⟨Nat.zero_le _, Nat.zero_le _⟩ (⟨h0, h1⟩) rfl h0 rfl hl.1 rfl rfl (Nat.le_of_ble_eq_true rfl) dX6_alike_10 ?_
  refine z_fne (tgt := 18) hx hb dX6_alike_13 (by decide) (by omega) (fun c_2 => ?_) (fun c_2 => by exfalso; omega)
  refine lv_iload_n hx hb dX6_alike_18 rfl (lv_at hl 3 rfl) ?_
  refine z_roSX (As := [.int (w)]) (rest := []) S hG (c_X6_isLevel E) 1 gX6_alike_X6_isLevel rfl kX6_isLevel.2 ⟨Nat.le_of_ble_eq_true rfl, Nat.le_of_ble_eq_true rfl⟩ ⟨Nat.zero_le _, Nat.zero_le _⟩ (trivial) rfl hl.1 rfl rfl (Nat.le_of_ble_eq_true rfl) dX6_alike_19 ?_
  refine z_bne (tgt := 30) hx hb dX6_alike_22 (by decide) (fun c_3 => by exfalso; rw [hw] at c_3; cases c_3) (fun c_3 => ?_)
  refine lv_bipush (v := (-2)) hx hb dX6_alike_25 (by decide) ?_
  refine lv_goto (tgt := 45) hx hb dX6_alike_27 (by decide) ?_
  exact hret _ _ _ dX6_alike_45 (rfl)

set_option maxHeartbeats 4000000 in
set_option maxRecDepth 100000 in
theorem c_X6_alike_3e (E : zEnv) {am : Nat → Nat} {nw sv : zS} {an : Bool} {hs : Nat → zS} {ct ln : Nat} {cd : Nat → Int32} {r r2 lv : Nat} (hok : zOk nw) (hr : r < 6) (hr0 : zSz nw r ≠ 0) (hr2 : r2 < 6) (hr20 : zSz nw r2 ≠ 0) (hlv : lv ≤ 2) (hne : (zSz nw r) = (zSz nw r2)) : zRO E yX6_alike wsX6_alike 5 121 [.ref (am 0), .int (nI (r)), .int (nI (r2)), .int (nI (lv))] (fun H => zMW E am nw sv an hs ct ln cd H) (some (.int (zb (zal (zSz nw r) (zKd nw r) (zSz nw r2) (zKd nw r2) lv)))) := by
  refine zRO.ofI (maxL := 4) rfl (Nat.le_of_ble_eq_true rfl) (fun p e s m args below meth c H Q hF hP hret ls hl => ?_)
  have S : CallFix p m c cX6_alike 4 s args wsX6_alike RX6 := hF.1
  have hG := hF.2
  obtain ⟨hx, hb, hml, hown, hts⟩ := id S
  obtain ⟨z, past, kept, buf, rg, td, tm, nb, ⟨h0, h1, h2, h3, h4, h5, h6⟩, hrep, hpa, hke, hbu⟩ := hP
  obtain ⟨r1, rwt, r3, r4, r5, r6, r7⟩ := id hrep
  have hn := hok.sz hr hr0
  have hm4 := hok.m4 hr
  have hr2z : zmr z r2 (zSz nw r) (zKd nw r2) := by rw [hne]; exact r3 r2 hr2
  have hl : lv_has ls 4 [(0, .ref (am 0)), (1, .int (nI (r))), (2, .int (nI (r2))), (3, .int (nI (lv)))] := hl
  refine lv_aload_n hx hb dX6_alike_0 rfl (lv_at hl 0 rfl) ?_
  refine lv_iload_n hx hb dX6_alike_1 rfl (lv_at hl 1 rfl) ?_
  refine z_roV (As := [.int (nI (r))]) (rest := []) (q := (RX6, TX6, 11)) S hG (c_X6_isBracelet_1 E (z := z) hr (hok.sz hr hr0) (r3 r hr).1) 1 gX6_alike_X6_isBracelet rfl kX6_isBracelet ⟨Nat.le_of_ble_eq_true rfl, Nat.le_of_ble_eq_true rfl⟩ ⟨Nat.zero_le _, Nat.zero_le _⟩ (⟨h0, h1⟩) rfl h0 rfl hl.1 rfl rfl (Nat.le_of_ble_eq_true rfl) dX6_alike_2 ?_
  refine z_feq (tgt := 16) hx hb dX6_alike_5 (by decide) (by omega) (fun c_1 => by exfalso; omega) (fun c_1 => ?_)
  refine lv_aload_n hx hb dX6_alike_8 rfl (lv_at hl 0 rfl) ?_
  refine lv_iload_n hx hb dX6_alike_9 rfl (lv_at hl 2 rfl) ?_
  refine z_roV (As := [.int (nI (r2))]) (rest := []) (q := (RX6, TX6, 11)) S hG (c_X6_isBracelet_1 E (z := z) hr2 (hok.sz hr2 hr20) (r3 r2 hr2).1) 1 gX6_alike_X6_isBracelet rfl kX6_isBracelet ⟨Nat.le_of_ble_eq_true rfl, Nat.le_of_ble_eq_true rfl⟩ ⟨Nat.zero_le _, Nat.zero_le _⟩ (⟨h0, h1⟩) rfl h0 rfl hl.1 rfl rfl (Nat.le_of_ble_eq_true rfl) dX6_alike_10 ?_
  refine z_fne (tgt := 18) hx hb dX6_alike_13 (by decide) (by omega) (fun c_2 => ?_) (fun c_2 => by exfalso; omega)
  refine lv_iload_n hx hb dX6_alike_18 rfl (lv_at hl 3 rfl) ?_
  refine z_roSX (As := [.int (nI (lv))]) (rest := []) S hG (c_X6_isLevel E) 1 gX6_alike_X6_isLevel rfl kX6_isLevel.2 ⟨Nat.le_of_ble_eq_true rfl, Nat.le_of_ble_eq_true rfl⟩ ⟨Nat.zero_le _, Nat.zero_le _⟩ (trivial) rfl hl.1 rfl rfl (Nat.le_of_ble_eq_true rfl) dX6_alike_19 ?_
  refine z_bne (tgt := 30) hx hb dX6_alike_22 (by decide) (fun c_3 => ?_) (fun c_3 => by exfalso; rw [zin_y (by omega) hlv (by decide)] at c_3; cases c_3)
  refine lv_aload_n hx hb dX6_alike_30 rfl (lv_at hl 0 rfl) ?_
  refine lv_iload_n hx hb dX6_alike_31 rfl (lv_at hl 1 rfl) ?_
  refine lv_iload_n hx hb dX6_alike_32 rfl (lv_at hl 2 rfl) ?_
  refine lv_iload_n hx hb dX6_alike_33 rfl (lv_at hl 3 rfl) ?_
  refine z_roV (As := [.int (nI (r)), .int (nI (r2)), .int (nI (lv))]) (rest := []) (q := (RX6, TX6, 11)) S hG (c_X6_areAlike E (z := z) (i := r) (n := (zSz nw r)) (f := (zKd nw r)) (lv := lv) (i2 := r2) (g := (zKd nw r2)) hr hn (r3 r hr) hlv hm4 hr2 hr2z) 3 gX6_alike_X6_areAlike rfl kX6_areAlike ⟨Nat.le_of_ble_eq_true rfl, Nat.le_of_ble_eq_true rfl⟩ ⟨Nat.zero_le _, Nat.zero_le _⟩ (⟨h0, h1⟩) rfl h0 rfl hl.1 rfl rfl (Nat.le_of_ble_eq_true rfl) dX6_alike_34 ?_
  refine z_top (y := zb (zal (zSz nw r) (zKd nw r) (zSz nw r2) (zKd nw r2) lv)) (by unfold zal; rw [decide_eq_true hne, Bool.true_and]) ?_
  refine z_beq (tgt := 44) hx hb dX6_alike_37 (by decide) (fun c_4 => ?_) (fun c_4 => ?_)
  · refine lv_iconst (v := nI (0)) hx hb dX6_alike_44 (by decide) ?_
    exact hret _ _ _ dX6_alike_45 (zrf c_4)
  · refine lv_iconst (v := nI (1)) hx hb dX6_alike_40 (by decide) ?_
    refine lv_goto (tgt := 45) hx hb dX6_alike_41 (by decide) ?_
    exact hret _ _ _ dX6_alike_45 (zrt c_4)

set_option maxHeartbeats 4000000 in
set_option maxRecDepth 100000 in
theorem c_X6_alike_3n (E : zEnv) {am : Nat → Nat} {nw sv : zS} {an : Bool} {hs : Nat → zS} {ct ln : Nat} {cd : Nat → Int32} {r r2 lv : Nat} (hok : zOk nw) (hr : r < 6) (hr0 : zSz nw r ≠ 0) (hr2 : r2 < 6) (hr20 : zSz nw r2 ≠ 0) (hlv : lv ≤ 2) (hne : (zSz nw r) ≠ (zSz nw r2)) : zRO E yX6_alike wsX6_alike 5 121 [.ref (am 0), .int (nI (r)), .int (nI (r2)), .int (nI (lv))] (fun H => zMW E am nw sv an hs ct ln cd H) (some (.int (zb (zal (zSz nw r) (zKd nw r) (zSz nw r2) (zKd nw r2) lv)))) := by
  refine zRO.ofI (maxL := 4) rfl (Nat.le_of_ble_eq_true rfl) (fun p e s m args below meth c H Q hF hP hret ls hl => ?_)
  have S : CallFix p m c cX6_alike 4 s args wsX6_alike RX6 := hF.1
  have hG := hF.2
  obtain ⟨hx, hb, hml, hown, hts⟩ := id S
  obtain ⟨z, past, kept, buf, rg, td, tm, nb, ⟨h0, h1, h2, h3, h4, h5, h6⟩, hrep, hpa, hke, hbu⟩ := hP
  obtain ⟨r1, rwt, r3, r4, r5, r6, r7⟩ := id hrep
  have hn := hok.sz hr hr0
  have hz0 : zal (zSz nw r) (zKd nw r) (zSz nw r2) (zKd nw r2) lv = false := by unfold zal; rw [decide_eq_false hne]; rfl
  have hl : lv_has ls 4 [(0, .ref (am 0)), (1, .int (nI (r))), (2, .int (nI (r2))), (3, .int (nI (lv)))] := hl
  refine lv_aload_n hx hb dX6_alike_0 rfl (lv_at hl 0 rfl) ?_
  refine lv_iload_n hx hb dX6_alike_1 rfl (lv_at hl 1 rfl) ?_
  refine z_roV (As := [.int (nI (r))]) (rest := []) (q := (RX6, TX6, 11)) S hG (c_X6_isBracelet_1 E (z := z) hr (hok.sz hr hr0) (r3 r hr).1) 1 gX6_alike_X6_isBracelet rfl kX6_isBracelet ⟨Nat.le_of_ble_eq_true rfl, Nat.le_of_ble_eq_true rfl⟩ ⟨Nat.zero_le _, Nat.zero_le _⟩ (⟨h0, h1⟩) rfl h0 rfl hl.1 rfl rfl (Nat.le_of_ble_eq_true rfl) dX6_alike_2 ?_
  refine z_feq (tgt := 16) hx hb dX6_alike_5 (by decide) (by omega) (fun c_1 => by exfalso; omega) (fun c_1 => ?_)
  refine lv_aload_n hx hb dX6_alike_8 rfl (lv_at hl 0 rfl) ?_
  refine lv_iload_n hx hb dX6_alike_9 rfl (lv_at hl 2 rfl) ?_
  refine z_roV (As := [.int (nI (r2))]) (rest := []) (q := (RX6, TX6, 11)) S hG (c_X6_isBracelet_1 E (z := z) hr2 (hok.sz hr2 hr20) (r3 r2 hr2).1) 1 gX6_alike_X6_isBracelet rfl kX6_isBracelet ⟨Nat.le_of_ble_eq_true rfl, Nat.le_of_ble_eq_true rfl⟩ ⟨Nat.zero_le _, Nat.zero_le _⟩ (⟨h0, h1⟩) rfl h0 rfl hl.1 rfl rfl (Nat.le_of_ble_eq_true rfl) dX6_alike_10 ?_
  refine z_fne (tgt := 18) hx hb dX6_alike_13 (by decide) (by omega) (fun c_2 => ?_) (fun c_2 => by exfalso; omega)
  refine lv_iload_n hx hb dX6_alike_18 rfl (lv_at hl 3 rfl) ?_
  refine z_roSX (As := [.int (nI (lv))]) (rest := []) S hG (c_X6_isLevel E) 1 gX6_alike_X6_isLevel rfl kX6_isLevel.2 ⟨Nat.le_of_ble_eq_true rfl, Nat.le_of_ble_eq_true rfl⟩ ⟨Nat.zero_le _, Nat.zero_le _⟩ (trivial) rfl hl.1 rfl rfl (Nat.le_of_ble_eq_true rfl) dX6_alike_19 ?_
  refine z_bne (tgt := 30) hx hb dX6_alike_22 (by decide) (fun c_3 => ?_) (fun c_3 => by exfalso; rw [zin_y (by omega) hlv (by decide)] at c_3; cases c_3)
  refine lv_aload_n hx hb dX6_alike_30 rfl (lv_at hl 0 rfl) ?_
  refine lv_iload_n hx hb dX6_alike_31 rfl (lv_at hl 1 rfl) ?_
  refine lv_iload_n hx hb dX6_alike_32 rfl (lv_at hl 2 rfl) ?_
  refine lv_iload_n hx hb dX6_alike_33 rfl (lv_at hl 3 rfl) ?_
  refine z_roV (As := [.int (nI (r)), .int (nI (r2)), .int (nI (lv))]) (rest := []) (q := (RX6, TX6, 11)) S hG (c_X6_areAlike_0 E (z := z) (i := r) (n := (zSz nw r)) (f := (zKd nw r)) (lv := lv) (i2 := r2) (n2 := (zSz nw r2)) (g := (zKd nw r2)) hr hn (r3 r hr) hlv hr2 ⟨hok.h16 r2 hr2, hne⟩ (r3 r2 hr2)) 3 gX6_alike_X6_areAlike rfl kX6_areAlike ⟨Nat.le_of_ble_eq_true rfl, Nat.le_of_ble_eq_true rfl⟩ ⟨Nat.zero_le _, Nat.zero_le _⟩ (⟨h0, h1⟩) rfl h0 rfl hl.1 rfl rfl (Nat.le_of_ble_eq_true rfl) dX6_alike_34 ?_
  refine z_feq (tgt := 44) hx hb dX6_alike_37 (by decide) (by omega) (fun c_4 => ?_) (fun c_4 => by exfalso; omega)
  refine lv_iconst (v := nI (0)) hx hb dX6_alike_44 (by decide) ?_
  exact hret _ _ _ dX6_alike_45 (zrf hz0)

set_option maxHeartbeats 4000000 in
set_option maxRecDepth 100000 in
theorem c_X6_least_0 (E : zEnv) {am : Nat → Nat} {nw sv : zS} {an : Bool} {hs : Nat → zS} {ct ln : Nat} {cd : Nat → Int32} {x y w : Int32} (hok : zOk nw) (hq : zfnd (zSz nw) x = none) : zRO E yX6_least wsX6_least 5 119 [.ref (am 0), .int (x), .int (w), .int (y)] (fun H => zMW E am nw sv an hs ct ln cd H) (some (.int (-1))) := by
  refine zRO.ofI (maxL := 4) rfl (Nat.le_of_ble_eq_true rfl) (fun p e s m args below meth c H Q hF hP hret ls hl => ?_)
  have S : CallFix p m c cX6_least 4 s args wsX6_least RX6 := hF.1
  have hG := hF.2
  obtain ⟨hx, hb, hml, hown, hts⟩ := id S
  obtain ⟨z, past, kept, buf, rg, td, tm, nb, ⟨h0, h1, h2, h3, h4, h5, h6⟩, hrep, hpa, hke, hbu⟩ := hP
  obtain ⟨r1, rwt, r3, r4, r5, r6, r7⟩ := id hrep
  have hl : lv_has ls 4 [(0, .ref (am 0)), (1, .int (x)), (2, .int (w)), (3, .int (y))] := hl
  refine lv_aload_n hx hb dX6_least_0 rfl (lv_at hl 0 rfl) ?_
  refine lv_iload_n hx hb dX6_least_1 rfl (lv_at hl 1 rfl) ?_
  refine lv_iload_n hx hb dX6_least_2 rfl (lv_at hl 3 rfl) ?_
  refine z_roV (As := [.int (x), .int (y)]) (rest := []) (q := (RX6, TX6, 11)) S hG (c_X6_isSlot_0 E (z := z) (fun t ht => (r3 t ht).1) hok.h16 hq) 2 gX6_least_X6_isSlot rfl kX6_isSlot ⟨Nat.le_of_ble_eq_true rfl, Nat.le_of_ble_eq_true rfl⟩ ⟨Nat.zero_le _, Nat.zero_le _⟩ (⟨h0, h1⟩) rfl h0 rfl hl.1 rfl rfl (Nat.le_of_ble_eq_true rfl) dX6_least_3 ?_
  refine z_fne (tgt := 11) hx hb dX6_least_6 (by decide) (by omega) (fun c_1 => by exfalso; omega) (fun c_1 => ?_)
  refine lv_iconst (v := (-1)) hx hb dX6_least_9 (by decide) ?_
  exact hret _ _ _ dX6_least_10 (rfl)

set_option maxHeartbeats 4000000 in
set_option maxRecDepth 100000 in
theorem c_X6_least_1 (E : zEnv) {am : Nat → Nat} {nw sv : zS} {an : Bool} {hs : Nat → zS} {ct ln : Nat} {cd : Nat → Int32} {r : Nat} {y w : Int32} (hok : zOk nw) (hr : r < 6) (hr0 : zSz nw r ≠ 0) (hy : zin y 0 ((zSz nw r) - 1) = false) : zRO E yX6_least wsX6_least 5 119 [.ref (am 0), .int (nI (r)), .int (w), .int (y)] (fun H => zMW E am nw sv an hs ct ln cd H) (some (.int (-1))) := by
  refine zRO.ofI (maxL := 4) rfl (Nat.le_of_ble_eq_true rfl) (fun p e s m args below meth c H Q hF hP hret ls hl => ?_)
  have S : CallFix p m c cX6_least 4 s args wsX6_least RX6 := hF.1
  have hG := hF.2
  obtain ⟨hx, hb, hml, hown, hts⟩ := id S
  obtain ⟨z, past, kept, buf, rg, td, tm, nb, ⟨h0, h1, h2, h3, h4, h5, h6⟩, hrep, hpa, hke, hbu⟩ := hP
  obtain ⟨r1, rwt, r3, r4, r5, r6, r7⟩ := id hrep
  have hn := hok.sz hr hr0
  have hl : lv_has ls 4 [(0, .ref (am 0)), (1, .int (nI (r))), (2, .int (w)), (3, .int (y))] := hl
  refine lv_aload_n hx hb dX6_least_0 rfl (lv_at hl 0 rfl) ?_
  refine lv_iload_n hx hb dX6_least_1 rfl (lv_at hl 1 rfl) ?_
  refine lv_iload_n hx hb dX6_least_2 rfl (lv_at hl 3 rfl) ?_
  refine z_roV (As := [.int (nI (r)), .int (y)]) (rest := []) (q := (RX6, TX6, 11)) S hG (c_X6_isSlot_1 E (z := z) (y := y) hr hn (r3 r hr).1) 2 gX6_least_X6_isSlot rfl kX6_isSlot ⟨Nat.le_of_ble_eq_true rfl, Nat.le_of_ble_eq_true rfl⟩ ⟨Nat.zero_le _, Nat.zero_le _⟩ (⟨h0, h1⟩) rfl h0 rfl hl.1 rfl rfl (Nat.le_of_ble_eq_true rfl) dX6_least_3 ?_
  refine z_bne (tgt := 11) hx hb dX6_least_6 (by decide) (fun c_1 => by exfalso; rw [hy] at c_1; cases c_1) (fun c_1 => ?_)
  refine lv_iconst (v := (-1)) hx hb dX6_least_9 (by decide) ?_
  exact hret _ _ _ dX6_least_10 (rfl)

set_option maxHeartbeats 4000000 in
set_option maxRecDepth 100000 in
theorem c_X6_least_2 (E : zEnv) {am : Nat → Nat} {nw sv : zS} {an : Bool} {hs : Nat → zS} {ct ln : Nat} {cd : Nat → Int32} {r j : Nat} {w : Int32} (hok : zOk nw) (hr : r < 6) (hr0 : zSz nw r ≠ 0) (hj : j < (zSz nw r)) (hw : zin w 0 2 = false) : zRO E yX6_least wsX6_least 5 119 [.ref (am 0), .int (nI (r)), .int (w), .int (nI (j))] (fun H => zMW E am nw sv an hs ct ln cd H) (some (.int (-2))) := by
  refine zRO.ofI (maxL := 4) rfl (Nat.le_of_ble_eq_true rfl) (fun p e s m args below meth c H Q hF hP hret ls hl => ?_)
  have S : CallFix p m c cX6_least 4 s args wsX6_least RX6 := hF.1
  have hG := hF.2
  obtain ⟨hx, hb, hml, hown, hts⟩ := id S
  obtain ⟨z, past, kept, buf, rg, td, tm, nb, ⟨h0, h1, h2, h3, h4, h5, h6⟩, hrep, hpa, hke, hbu⟩ := hP
  obtain ⟨r1, rwt, r3, r4, r5, r6, r7⟩ := id hrep
  have hn := hok.sz hr hr0
  have hl : lv_has ls 4 [(0, .ref (am 0)), (1, .int (nI (r))), (2, .int (w)), (3, .int (nI (j)))] := hl
  refine lv_aload_n hx hb dX6_least_0 rfl (lv_at hl 0 rfl) ?_
  refine lv_iload_n hx hb dX6_least_1 rfl (lv_at hl 1 rfl) ?_
  refine lv_iload_n hx hb dX6_least_2 rfl (lv_at hl 3 rfl) ?_
  refine z_roV (As := [.int (nI (r)), .int (nI (j))]) (rest := []) (q := (RX6, TX6, 11)) S hG (c_X6_isSlot_1 E (z := z) (y := (nI j)) hr hn (r3 r hr).1) 2 gX6_least_X6_isSlot rfl kX6_isSlot ⟨Nat.le_of_ble_eq_true rfl, Nat.le_of_ble_eq_true rfl⟩ ⟨Nat.zero_le _, Nat.zero_le _⟩ (⟨h0, h1⟩) rfl h0 rfl hl.1 rfl rfl (Nat.le_of_ble_eq_true rfl) dX6_least_3 ?_
  refine z_bne (tgt := 11) hx hb dX6_least_6 (by decide) (fun c_1 => ?_) (fun c_1 => by exfalso; rw [zin_y (Nat.zero_le _) (by omega) (by omega)] at c_1; cases c_1)
  refine lv_iload_n hx hb dX6_least_11 rfl (lv_at hl 2 rfl) ?_
  refine z_roSX (As := [.int (w)]) (rest := []) S hG (c_X6_isLevel E) 1 gX6_least_X6_isLevel rfl kX6_isLevel.2 ⟨Nat.le_of_ble_eq_true rfl, Nat.le_of_ble_eq_true rfl⟩ ⟨Nat.zero_le _, Nat.zero_le _⟩ (trivial) rfl hl.1 rfl rfl (Nat.le_of_ble_eq_true rfl) dX6_least_12 ?_
  refine z_beq (tgt := 34) hx hb dX6_least_15 (by decide) (fun c_2 => ?_) (fun c_2 => by exfalso; rw [hw] at c_2; cases c_2)
  refine lv_bipush (v := (-2)) hx hb dX6_least_34 (by decide) ?_
  exact hret _ _ _ dX6_least_36 (rfl)

set_option maxHeartbeats 4000000 in
set_option maxRecDepth 100000 in
theorem c_X6_least_3 (E : zEnv) {am : Nat → Nat} {nw sv : zS} {an : Bool} {hs : Nat → zS} {ct ln : Nat} {cd : Nat → Int32} {r j lv : Nat} (hok : zOk nw) (hr : r < 6) (hr0 : zSz nw r ≠ 0) (hj : j < (zSz nw r)) (hlv : lv ≤ 2) : zRO E yX6_least wsX6_least 5 119 [.ref (am 0), .int (nI (r)), .int (nI (lv)), .int (nI (j))] (fun H => zMW E am nw sv an hs ct ln cd H) (some (.int (zimg (zSz nw r) (zKd nw r) (zls (zSz nw r) (zKd nw r) lv) j))) := by
  refine zRO.ofI (maxL := 4) rfl (Nat.le_of_ble_eq_true rfl) (fun p e s m args below meth c H Q hF hP hret ls hl => ?_)
  have S : CallFix p m c cX6_least 4 s args wsX6_least RX6 := hF.1
  have hG := hF.2
  obtain ⟨hx, hb, hml, hown, hts⟩ := id S
  obtain ⟨z, past, kept, buf, rg, td, tm, nb, ⟨h0, h1, h2, h3, h4, h5, h6⟩, hrep, hpa, hke, hbu⟩ := hP
  obtain ⟨r1, rwt, r3, r4, r5, r6, r7⟩ := id hrep
  have hn := hok.sz hr hr0
  have hm4 := hok.m4 hr
  have hl : lv_has ls 4 [(0, .ref (am 0)), (1, .int (nI (r))), (2, .int (nI (lv))), (3, .int (nI (j)))] := hl
  refine lv_aload_n hx hb dX6_least_0 rfl (lv_at hl 0 rfl) ?_
  refine lv_iload_n hx hb dX6_least_1 rfl (lv_at hl 1 rfl) ?_
  refine lv_iload_n hx hb dX6_least_2 rfl (lv_at hl 3 rfl) ?_
  refine z_roV (As := [.int (nI (r)), .int (nI (j))]) (rest := []) (q := (RX6, TX6, 11)) S hG (c_X6_isSlot_1 E (z := z) (y := (nI j)) hr hn (r3 r hr).1) 2 gX6_least_X6_isSlot rfl kX6_isSlot ⟨Nat.le_of_ble_eq_true rfl, Nat.le_of_ble_eq_true rfl⟩ ⟨Nat.zero_le _, Nat.zero_le _⟩ (⟨h0, h1⟩) rfl h0 rfl hl.1 rfl rfl (Nat.le_of_ble_eq_true rfl) dX6_least_3 ?_
  refine z_bne (tgt := 11) hx hb dX6_least_6 (by decide) (fun c_1 => ?_) (fun c_1 => by exfalso; rw [zin_y (Nat.zero_le _) (by omega) (by omega)] at c_1; cases c_1)
  refine lv_iload_n hx hb dX6_least_11 rfl (lv_at hl 2 rfl) ?_
  refine z_roSX (As := [.int (nI (lv))]) (rest := []) S hG (c_X6_isLevel E) 1 gX6_least_X6_isLevel rfl kX6_isLevel.2 ⟨Nat.le_of_ble_eq_true rfl, Nat.le_of_ble_eq_true rfl⟩ ⟨Nat.zero_le _, Nat.zero_le _⟩ (trivial) rfl hl.1 rfl rfl (Nat.le_of_ble_eq_true rfl) dX6_least_12 ?_
  refine z_beq (tgt := 34) hx hb dX6_least_15 (by decide) (fun c_2 => by exfalso; rw [zin_y (by omega) hlv (by decide)] at c_2; cases c_2) (fun c_2 => ?_)
  refine lv_aload_n hx hb dX6_least_18 rfl (lv_at hl 0 rfl) ?_
  refine lv_iload_n hx hb dX6_least_19 rfl (lv_at hl 1 rfl) ?_
  refine lv_iload_n hx hb dX6_least_20 rfl (lv_at hl 2 rfl) ?_
  refine lv_aload_n hx hb dX6_least_21 rfl (lv_at hl 0 rfl) ?_
  refine lv_iload_n hx hb dX6_least_22 rfl (lv_at hl 1 rfl) ?_
  refine lv_iload_n hx hb dX6_least_23 rfl (lv_at hl 2 rfl) ?_
  refine z_roV (As := [.int (nI (r)), .int (nI (lv))]) (rest := [.int (nI (lv)), .int (nI (r)), .ref (am 0)]) (q := (RX6, TX6, 11)) S hG (c_X6_leastChange E (z := z) (i := r) (n := (zSz nw r)) (f := (zKd nw r)) (lv := lv) hr hn (r3 r hr) hlv hm4 (fun s hs => hok.2.1 r hr s hs)) 2 gX6_least_X6_leastChange rfl kX6_leastChange ⟨Nat.le_of_ble_eq_true rfl, Nat.le_of_ble_eq_true rfl⟩ ⟨Nat.zero_le _, Nat.zero_le _⟩ (⟨h0, h1⟩) rfl h0 rfl hl.1 rfl rfl (Nat.le_of_ble_eq_true rfl) dX6_least_24 ?_
  refine lv_iload_n hx hb dX6_least_27 rfl (lv_at hl 3 rfl) ?_
  refine z_roV (As := [.int (nI (r)), .int (nI (lv)), .int (nI (zli (zSz nw r) (zKd nw r) lv (znc lv (zSz nw r)))), .int (nI (j))]) (rest := []) (q := (RX6, TX6, 11)) S hG (c_X6_behind E (z := z) (i := r) (n := (zSz nw r)) (f := (zKd nw r)) (lv := lv) (ch := zli (zSz nw r) (zKd nw r) lv (znc lv (zSz nw r))) (j := j) hr hn (r3 r hr) hlv hm4 (zlc_lt' hn.1) hj) 4 gX6_least_X6_behind rfl kX6_behind ⟨Nat.le_of_ble_eq_true rfl, Nat.le_of_ble_eq_true rfl⟩ ⟨Nat.zero_le _, Nat.zero_le _⟩ (⟨h0, h1⟩) rfl h0 rfl hl.1 rfl rfl (Nat.le_of_ble_eq_true rfl) dX6_least_28 ?_
  refine z_top (y := (zimg (zSz nw r) (zKd nw r) (zls (zSz nw r) (zKd nw r) lv) j)) (rfl) ?_
  refine lv_goto (tgt := 36) hx hb dX6_least_31 (by decide) ?_
  exact hret _ _ _ dX6_least_36 (rfl)

set_option maxHeartbeats 4000000 in
set_option maxRecDepth 100000 in
theorem c_X6_orbit_0 (E : zEnv) {am : Nat → Nat} {nw sv : zS} {an : Bool} {hs : Nat → zS} {ct ln : Nat} {cd : Nat → Int32} {x w : Int32} (hok : zOk nw) (hq : zfnd (zSz nw) x = none) : zRO E yX6_orbit wsX6_orbit 4 95 [.ref (am 0), .int (x), .int (w)] (fun H => zMW E am nw sv an hs ct ln cd H) (some (.int (-1))) := by
  refine zRO.ofI (maxL := 7) rfl (Nat.le_of_ble_eq_true rfl) (fun p e s m args below meth c H Q hF hP hret ls hl => ?_)
  have S : CallFix p m c cX6_orbit 7 s args wsX6_orbit RX6 := hF.1
  have hG := hF.2
  obtain ⟨hx, hb, hml, hown, hts⟩ := id S
  obtain ⟨z, past, kept, buf, rg, td, tm, nb, ⟨h0, h1, h2, h3, h4, h5, h6⟩, hrep, hpa, hke, hbu⟩ := hP
  obtain ⟨r1, rwt, r3, r4, r5, r6, r7⟩ := id hrep
  have hl : lv_has ls 7 [(0, .ref (am 0)), (1, .int (x)), (2, .int (w))] := hl
  refine lv_aload_n hx hb dX6_orbit_0 rfl (lv_at hl 0 rfl) ?_
  refine lv_iload_n hx hb dX6_orbit_1 rfl (lv_at hl 1 rfl) ?_
  refine z_roV (As := [.int (x)]) (rest := []) (q := (RX6, TX6, 11)) S hG (c_X6_isBracelet_0 E (z := z) (fun t ht => (r3 t ht).1) hok.h16 hq) 1 gX6_orbit_X6_isBracelet rfl kX6_isBracelet ⟨Nat.le_of_ble_eq_true rfl, Nat.le_of_ble_eq_true rfl⟩ ⟨Nat.zero_le _, Nat.zero_le _⟩ (⟨h0, h1⟩) rfl h0 rfl hl.1 rfl rfl (Nat.le_of_ble_eq_true rfl) dX6_orbit_2 ?_
  refine z_fne (tgt := 10) hx hb dX6_orbit_5 (by decide) (by omega) (fun c_1 => by exfalso; omega) (fun c_1 => ?_)
  refine lv_iconst (v := (-1)) hx hb dX6_orbit_8 (by decide) ?_
  exact hret _ _ _ dX6_orbit_9 (rfl)

set_option maxHeartbeats 4000000 in
set_option maxRecDepth 100000 in
theorem c_X6_orbit_1 (E : zEnv) {am : Nat → Nat} {nw sv : zS} {an : Bool} {hs : Nat → zS} {ct ln : Nat} {cd : Nat → Int32} {r : Nat} {w : Int32} (hok : zOk nw) (hr : r < 6) (hr0 : zSz nw r ≠ 0) (hw : zin w 0 2 = false) : zRO E yX6_orbit wsX6_orbit 4 95 [.ref (am 0), .int (nI (r)), .int (w)] (fun H => zMW E am nw sv an hs ct ln cd H) (some (.int (-2))) := by
  refine zRO.ofI (maxL := 7) rfl (Nat.le_of_ble_eq_true rfl) (fun p e s m args below meth c H Q hF hP hret ls hl => ?_)
  have S : CallFix p m c cX6_orbit 7 s args wsX6_orbit RX6 := hF.1
  have hG := hF.2
  obtain ⟨hx, hb, hml, hown, hts⟩ := id S
  obtain ⟨z, past, kept, buf, rg, td, tm, nb, ⟨h0, h1, h2, h3, h4, h5, h6⟩, hrep, hpa, hke, hbu⟩ := hP
  obtain ⟨r1, rwt, r3, r4, r5, r6, r7⟩ := id hrep
  have hl : lv_has ls 7 [(0, .ref (am 0)), (1, .int (nI (r))), (2, .int (w))] := hl
  refine lv_aload_n hx hb dX6_orbit_0 rfl (lv_at hl 0 rfl) ?_
  refine lv_iload_n hx hb dX6_orbit_1 rfl (lv_at hl 1 rfl) ?_
  refine z_roV (As := [.int (nI (r))]) (rest := []) (q := (RX6, TX6, 11)) S hG (c_X6_isBracelet_1 E (z := z) hr (hok.sz hr hr0) (r3 r hr).1) 1 gX6_orbit_X6_isBracelet rfl kX6_isBracelet ⟨Nat.le_of_ble_eq_true rfl, Nat.le_of_ble_eq_true rfl⟩ ⟨Nat.zero_le _, Nat.zero_le _⟩ (⟨h0, h1⟩) rfl h0 rfl hl.1 rfl rfl (Nat.le_of_ble_eq_true rfl) dX6_orbit_2 ?_
  refine z_fne (tgt := 10) hx hb dX6_orbit_5 (by decide) (by omega) (fun c_1 => ?_) (fun c_1 => by exfalso; omega)
  refine lv_iload_n hx hb dX6_orbit_10 rfl (lv_at hl 2 rfl) ?_
  refine z_roSX (As := [.int (w)]) (rest := []) S hG (c_X6_isLevel E) 1 gX6_orbit_X6_isLevel rfl kX6_isLevel.2 ⟨Nat.le_of_ble_eq_true rfl, Nat.le_of_ble_eq_true rfl⟩ ⟨Nat.zero_le _, Nat.zero_le _⟩ (trivial) rfl hl.1 rfl rfl (Nat.le_of_ble_eq_true rfl) dX6_orbit_11 ?_
  refine z_bne (tgt := 20) hx hb dX6_orbit_14 (by decide) (fun c_2 => by exfalso; rw [hw] at c_2; cases c_2) (fun c_2 => ?_)
  refine lv_bipush (v := (-2)) hx hb dX6_orbit_17 (by decide) ?_
  exact hret _ _ _ dX6_orbit_19 (rfl)

set_option maxHeartbeats 4000000 in
set_option maxRecDepth 100000 in
theorem c_X6_orbit_2 (E : zEnv) {am : Nat → Nat} {nw sv : zS} {an : Bool} {hs : Nat → zS} {ct ln : Nat} {cd : Nat → Int32} {r lv : Nat} (hok : zOk nw) (hr : r < 6) (hr0 : zSz nw r ≠ 0) (hlv : lv ≤ 2) : zRO E yX6_orbit wsX6_orbit 4 95 [.ref (am 0), .int (nI (r)), .int (nI (lv))] (fun H => zMW E am nw sv an hs ct ln cd H) (some (.int (nI (zct (fun i9 => zne (zSz nw r) (zKd nw r) lv i9 i9) (znc lv (zSz nw r)))))) := by
  refine zRO.ofI (maxL := 7) rfl (Nat.le_of_ble_eq_true rfl) (fun p e s m args below meth c H Q hF hP hret ls hl => ?_)
  have S : CallFix p m c cX6_orbit 7 s args wsX6_orbit RX6 := hF.1
  have hG := hF.2
  obtain ⟨hx, hb, hml, hown, hts⟩ := id S
  obtain ⟨z, past, kept, buf, rg, td, tm, nb, ⟨h0, h1, h2, h3, h4, h5, h6⟩, hrep, hpa, hke, hbu⟩ := hP
  obtain ⟨r1, rwt, r3, r4, r5, r6, r7⟩ := id hrep
  have hn := hok.sz hr hr0
  have hm4 := hok.m4 hr
  have hc32 := znc_le (lv := lv) hn.2
  have hl : lv_has ls 7 [(0, .ref (am 0)), (1, .int (nI (r))), (2, .int (nI (lv)))] := hl
  refine lv_aload_n hx hb dX6_orbit_0 rfl (lv_at hl 0 rfl) ?_
  refine lv_iload_n hx hb dX6_orbit_1 rfl (lv_at hl 1 rfl) ?_
  refine z_roV (As := [.int (nI (r))]) (rest := []) (q := (RX6, TX6, 11)) S hG (c_X6_isBracelet_1 E (z := z) hr (hok.sz hr hr0) (r3 r hr).1) 1 gX6_orbit_X6_isBracelet rfl kX6_isBracelet ⟨Nat.le_of_ble_eq_true rfl, Nat.le_of_ble_eq_true rfl⟩ ⟨Nat.zero_le _, Nat.zero_le _⟩ (⟨h0, h1⟩) rfl h0 rfl hl.1 rfl rfl (Nat.le_of_ble_eq_true rfl) dX6_orbit_2 ?_
  refine z_fne (tgt := 10) hx hb dX6_orbit_5 (by decide) (by omega) (fun c_1 => ?_) (fun c_1 => by exfalso; omega)
  refine lv_iload_n hx hb dX6_orbit_10 rfl (lv_at hl 2 rfl) ?_
  refine z_roSX (As := [.int (nI (lv))]) (rest := []) S hG (c_X6_isLevel E) 1 gX6_orbit_X6_isLevel rfl kX6_isLevel.2 ⟨Nat.le_of_ble_eq_true rfl, Nat.le_of_ble_eq_true rfl⟩ ⟨Nat.zero_le _, Nat.zero_le _⟩ (trivial) rfl hl.1 rfl rfl (Nat.le_of_ble_eq_true rfl) dX6_orbit_11 ?_
  refine z_bne (tgt := 20) hx hb dX6_orbit_14 (by decide) (fun c_2 => ?_) (fun c_2 => by exfalso; rw [zin_y (by omega) hlv (by decide)] at c_2; cases c_2)
  refine lv_iconst (v := nI (0)) hx hb dX6_orbit_20 (by decide) ?_
  refine lv_istore_n (lv' := [(3, .int (nI (0))), (0, .ref (am 0)), (1, .int (nI (r))), (2, .int (nI (lv)))]) hx hb dX6_orbit_21 rfl hl (by decide) rfl (fun ls hl => ?_)
  refine lv_iconst (v := nI (0)) hx hb dX6_orbit_22 (by decide) ?_
  refine lv_istore (lv' := [(4, .int (nI (0))), (3, .int (nI (0))), (0, .ref (am 0)), (1, .int (nI (r))), (2, .int (nI (lv)))]) hx hb dX6_orbit_23 hl (by decide) rfl (fun ls hl => ?_)
  have L25 : ∀ (dd : Nat) (i : Nat), znc lv (zSz nw r) - i < dd → (i ≤ znc lv (zSz nw r)) → ∀ (ls : Array Slot), lv_has ls 7 [(0, .ref (am 0)), (1, .int (nI (r))), (2, .int (nI (lv))), (3, .int (nI (zct (fun i9 => zne (zSz nw r) (zKd nw r) lv i9 i9) i))), (4, .int (nI (i)))] → W p (zl E) e (zRm 4 95) s m args below meth c H [] 0 0 Q (F0 m 25 ls []) := by
    intro dd
    induction dd with
    | zero => intro i hdd; exact absurd hdd (Nat.not_lt_zero _)
    | succ dd ih25 =>
      intro i hdd25 hi ls hl
      refine lv_iload hx hb dX6_orbit_25 (lv_at hl 4 rfl) ?_
      refine lv_aload_n hx hb dX6_orbit_27 rfl (lv_at hl 0 rfl) ?_
      refine lv_iload_n hx hb dX6_orbit_28 rfl (lv_at hl 1 rfl) ?_
      refine z_roV (As := [.int (nI (r))]) (rest := [.int (nI (i))]) (q := (RX6, TX6, 11)) S hG (c_X6_slots E (z := z) (i := r) (n := (zSz nw r)) hr (r3 r hr).1) 1 gX6_orbit_X6_slots rfl kX6_slots ⟨Nat.le_of_ble_eq_true rfl, Nat.le_of_ble_eq_true rfl⟩ ⟨Nat.zero_le _, Nat.zero_le _⟩ (⟨h0, h1⟩) rfl h0 rfl hl.1 rfl rfl (Nat.le_of_ble_eq_true rfl) dX6_orbit_29 ?_
      refine lv_iload_n hx hb dX6_orbit_32 rfl (lv_at hl 2 rfl) ?_
      refine z_roSX (As := [.int (nI ((zSz nw r))), .int (nI (lv))]) (rest := [.int (nI (i))]) S hG (c_X6_changes E (n := (zSz nw r)) (lv := lv) hlv) 2 gX6_orbit_X6_changes rfl kX6_changes.2 ⟨Nat.le_of_ble_eq_true rfl, Nat.le_of_ble_eq_true rfl⟩ ⟨Nat.zero_le _, Nat.zero_le _⟩ (trivial) rfl hl.1 rfl rfl (Nat.le_of_ble_eq_true rfl) dX6_orbit_33 ?_
      refine z_cge (tgt := 102) hx hb dX6_orbit_36 (by decide) ⟨by omega, by omega⟩ (fun c_3 => ?_) (fun c_3 => ?_)
      · refine lv_iload_n hx hb dX6_orbit_102 rfl (lv_at hl 3 rfl) ?_
        exact hret _ _ _ dX6_orbit_103 (by rw [show i = znc lv (zSz nw r) by omega])
      · refine lv_iconst (v := nI (1)) hx hb dX6_orbit_39 (by decide) ?_
        refine lv_istore (lv' := [(5, .int (nI (1))), (0, .ref (am 0)), (1, .int (nI (r))), (2, .int (nI (lv))), (3, .int (nI (zct (fun i9 => zne (zSz nw r) (zKd nw r) lv i9 i9) i))), (4, .int (nI (i)))]) hx hb dX6_orbit_40 hl (by decide) rfl (fun ls hl => ?_)
        refine lv_iconst (v := nI (0)) hx hb dX6_orbit_42 (by decide) ?_
        refine lv_istore (lv' := [(6, .int (nI (0))), (5, .int (nI (1))), (0, .ref (am 0)), (1, .int (nI (r))), (2, .int (nI (lv))), (3, .int (nI (zct (fun i9 => zne (zSz nw r) (zKd nw r) lv i9 i9) i))), (4, .int (nI (i)))]) hx hb dX6_orbit_43 hl (by decide) rfl (fun ls hl => ?_)
        have L45 : ∀ (dd : Nat) (u : Nat), i - u < dd → (u ≤ i) → ∀ (ls : Array Slot), lv_has ls 7 [(0, .ref (am 0)), (1, .int (nI (r))), (2, .int (nI (lv))), (3, .int (nI (zct (fun i9 => zne (zSz nw r) (zKd nw r) lv i9 i9) i))), (4, .int (nI (i))), (5, .int (zb (zne (zSz nw r) (zKd nw r) lv i u))), (6, .int (nI (u)))] → W p (zl E) e (zRm 4 95) s m args below meth c H [] 0 0 Q (F0 m 45 ls []) := by
          intro dd
          induction dd with
          | zero => intro u hdd; exact absurd hdd (Nat.not_lt_zero _)
          | succ dd ih45 =>
            intro u hdd45 hu ls hl
            refine lv_iload hx hb dX6_orbit_45 (lv_at hl 6 rfl) ?_
            refine lv_iload hx hb dX6_orbit_47 (lv_at hl 4 rfl) ?_
            refine z_cge (tgt := 83) hx hb dX6_orbit_49 (by decide) ⟨by omega, by omega⟩ (fun c_4 => ?_) (fun c_4 => ?_)
            · refine lv_iload_n hx hb dX6_orbit_83 rfl (lv_at hl 3 rfl) ?_
              refine lv_iload hx hb dX6_orbit_84 (lv_at hl 5 rfl) ?_
              refine z_beq (tgt := 93) hx hb dX6_orbit_86 (by decide) (fun c_5 => ?_) (fun c_5 => ?_)
              · refine lv_iconst (v := nI (0)) hx hb dX6_orbit_93 (by decide) ?_
                refine z_iadd hx hb dX6_orbit_94 ?_
                refine lv_istore_n (lv' := [(3, .int (nI ((zct (fun i9 => zne (zSz nw r) (zKd nw r) lv i9 i9) i) + 0))), (0, .ref (am 0)), (1, .int (nI (r))), (2, .int (nI (lv))), (4, .int (nI (i))), (5, .int (zb (zne (zSz nw r) (zKd nw r) lv i u))), (6, .int (nI (u)))]) hx hb dX6_orbit_95 rfl hl (by decide) rfl (fun ls hl => ?_)
                refine lv_iinc (v := nI (i + 1)) (lv' := [(4, .int (nI (i + 1))), (3, .int (nI ((zct (fun i9 => zne (zSz nw r) (zKd nw r) lv i9 i9) i) + 0))), (0, .ref (am 0)), (1, .int (nI (r))), (2, .int (nI (lv))), (5, .int (zb (zne (zSz nw r) (zKd nw r) lv i u))), (6, .int (nI (u)))]) hx hb dX6_orbit_96 hl (k := 4) rfl (z_inc1 _) (by decide) rfl (fun ls hl => ?_)
                refine lv_goto (tgt := 25) hx hb dX6_orbit_99 (by decide) ?_
                have hl9 := lv_sub hl [2, 3, 4, 1, 0] (l' := [(0, .ref (am 0)), (1, .int (nI (r))), (2, .int (nI (lv))), (3, .int (nI ((zct (fun i9 => zne (zSz nw r) (zKd nw r) lv i9 i9) i) + 0))), (4, .int (nI (i + 1)))]) rfl
                have e9_3 : ((zct (fun i9 => zne (zSz nw r) (zKd nw r) lv i9 i9) i) + 0) = (zct (fun i9 => zne (zSz nw r) (zKd nw r) lv i9 i9) (i + 1)) := by rw [show u = i by omega] at c_5; first | exact zct_t (p := (fun i9 => zne (zSz nw r) (zKd nw r) lv i9 i9)) c_5 | exact zct_f (p := (fun i9 => zne (zSz nw r) (zKd nw r) lv i9 i9)) c_5
                have e9_4 : (i + 1) = ((i + 1)) := by omega
                exact ih25 (i + 1) (by omega) (by omega) ls (by rw [← e9_3, ← e9_4]; exact hl9)
              · refine lv_iconst (v := nI (1)) hx hb dX6_orbit_89 (by decide) ?_
                refine lv_goto (tgt := 94) hx hb dX6_orbit_90 (by decide) ?_
                refine z_iadd hx hb dX6_orbit_94 ?_
                refine lv_istore_n (lv' := [(3, .int (nI ((zct (fun i9 => zne (zSz nw r) (zKd nw r) lv i9 i9) i) + 1))), (0, .ref (am 0)), (1, .int (nI (r))), (2, .int (nI (lv))), (4, .int (nI (i))), (5, .int (zb (zne (zSz nw r) (zKd nw r) lv i u))), (6, .int (nI (u)))]) hx hb dX6_orbit_95 rfl hl (by decide) rfl (fun ls hl => ?_)
                refine lv_iinc (v := nI (i + 1)) (lv' := [(4, .int (nI (i + 1))), (3, .int (nI ((zct (fun i9 => zne (zSz nw r) (zKd nw r) lv i9 i9) i) + 1))), (0, .ref (am 0)), (1, .int (nI (r))), (2, .int (nI (lv))), (5, .int (zb (zne (zSz nw r) (zKd nw r) lv i u))), (6, .int (nI (u)))]) hx hb dX6_orbit_96 hl (k := 4) rfl (z_inc1 _) (by decide) rfl (fun ls hl => ?_)
                refine lv_goto (tgt := 25) hx hb dX6_orbit_99 (by decide) ?_
                have hl9 := lv_sub hl [2, 3, 4, 1, 0] (l' := [(0, .ref (am 0)), (1, .int (nI (r))), (2, .int (nI (lv))), (3, .int (nI ((zct (fun i9 => zne (zSz nw r) (zKd nw r) lv i9 i9) i) + 1))), (4, .int (nI (i + 1)))]) rfl
                have e9_3 : ((zct (fun i9 => zne (zSz nw r) (zKd nw r) lv i9 i9) i) + 1) = (zct (fun i9 => zne (zSz nw r) (zKd nw r) lv i9 i9) (i + 1)) := by rw [show u = i by omega] at c_5; first | exact zct_t (p := (fun i9 => zne (zSz nw r) (zKd nw r) lv i9 i9)) c_5 | exact zct_f (p := (fun i9 => zne (zSz nw r) (zKd nw r) lv i9 i9)) c_5
                have e9_4 : (i + 1) = ((i + 1)) := by omega
                exact ih25 (i + 1) (by omega) (by omega) ls (by rw [← e9_3, ← e9_4]; exact hl9)
            · refine lv_iload hx hb dX6_orbit_52 (lv_at hl 5 rfl) ?_
              refine z_beq (tgt := 74) hx hb dX6_orbit_54 (by decide) (fun c_6 => ?_) (fun c_6 => ?_)
              · refine lv_iconst (v := nI (0)) hx hb dX6_orbit_74 (by decide) ?_
                refine lv_istore (lv' := [(5, .int (nI (0))), (0, .ref (am 0)), (1, .int (nI (r))), (2, .int (nI (lv))), (3, .int (nI (zct (fun i9 => zne (zSz nw r) (zKd nw r) lv i9 i9) i))), (4, .int (nI (i))), (6, .int (nI (u)))]) hx hb dX6_orbit_75 hl (by decide) rfl (fun ls hl => ?_)
                refine lv_iinc (v := nI (u + 1)) (lv' := [(6, .int (nI (u + 1))), (5, .int (nI (0))), (0, .ref (am 0)), (1, .int (nI (r))), (2, .int (nI (lv))), (3, .int (nI (zct (fun i9 => zne (zSz nw r) (zKd nw r) lv i9 i9) i))), (4, .int (nI (i)))]) hx hb dX6_orbit_77 hl (k := 6) rfl (z_inc1 _) (by decide) rfl (fun ls hl => ?_)
                refine lv_goto (tgt := 45) hx hb dX6_orbit_80 (by decide) ?_
                have hl9 := lv_sub hl [2, 3, 4, 5, 6, 1, 0] (l' := [(0, .ref (am 0)), (1, .int (nI (r))), (2, .int (nI (lv))), (3, .int (nI (zct (fun i9 => zne (zSz nw r) (zKd nw r) lv i9 i9) i))), (4, .int (nI (i))), (5, .int (nI (0))), (6, .int (nI (u + 1)))]) rfl
                have e9_5 : (nI (0)) = (zb (zne (zSz nw r) (zKd nw r) lv i (u + 1))) := by first | exact zb_f (zall_f1 (p := (fun u9 => decide (¬ zdx (zimg (zSz nw r) (zKd nw r) (zchg lv i (zSz nw r))) (zimg (zSz nw r) (zKd nw r) (zchg lv u9 (zSz nw r))) (zSz nw r) = 0))) c_6) | exact zb_f (zall_f2 (p := (fun u9 => decide (¬ zdx (zimg (zSz nw r) (zKd nw r) (zchg lv i (zSz nw r))) (zimg (zSz nw r) (zKd nw r) (zchg lv u9 (zSz nw r))) (zSz nw r) = 0))) (decide_eq_false (not_not_intro c_6)))
                have e9_6 : (u + 1) = ((u + 1)) := by omega
                exact ih45 (u + 1) (by omega) (by omega) ls (by rw [← e9_5, ← e9_6]; exact hl9)
              · refine lv_aload_n hx hb dX6_orbit_57 rfl (lv_at hl 0 rfl) ?_
                refine lv_iload_n hx hb dX6_orbit_58 rfl (lv_at hl 1 rfl) ?_
                refine lv_iload_n hx hb dX6_orbit_59 rfl (lv_at hl 2 rfl) ?_
                refine lv_iload hx hb dX6_orbit_60 (lv_at hl 4 rfl) ?_
                refine lv_iload hx hb dX6_orbit_62 (lv_at hl 6 rfl) ?_
                refine z_roV (As := [.int (nI (r)), .int (nI (lv)), .int (nI (i)), .int (nI (u))]) (rest := []) (q := (RX6, TX6, 11)) S hG (c_X6_compare E (z := z) (i := r) (n := (zSz nw r)) (f := (zKd nw r)) (lv := lv) (ch := i) (dh := u) hr hn (r3 r hr) hlv hm4 (by omega) (by omega)) 4 gX6_orbit_X6_compare rfl kX6_compare ⟨Nat.le_of_ble_eq_true rfl, Nat.le_of_ble_eq_true rfl⟩ ⟨Nat.zero_le _, Nat.zero_le _⟩ (⟨h0, h1⟩) rfl h0 rfl hl.1 rfl rfl (Nat.le_of_ble_eq_true rfl) dX6_orbit_64 ?_
                refine lv_if_eq (tgt := 74) hx hb dX6_orbit_67 (by decide) (fun c_7 => ?_) (fun c_7 => ?_)
                · refine lv_iconst (v := nI (0)) hx hb dX6_orbit_74 (by decide) ?_
                  refine lv_istore (lv' := [(5, .int (nI (0))), (0, .ref (am 0)), (1, .int (nI (r))), (2, .int (nI (lv))), (3, .int (nI (zct (fun i9 => zne (zSz nw r) (zKd nw r) lv i9 i9) i))), (4, .int (nI (i))), (6, .int (nI (u)))]) hx hb dX6_orbit_75 hl (by decide) rfl (fun ls hl => ?_)
                  refine lv_iinc (v := nI (u + 1)) (lv' := [(6, .int (nI (u + 1))), (5, .int (nI (0))), (0, .ref (am 0)), (1, .int (nI (r))), (2, .int (nI (lv))), (3, .int (nI (zct (fun i9 => zne (zSz nw r) (zKd nw r) lv i9 i9) i))), (4, .int (nI (i)))]) hx hb dX6_orbit_77 hl (k := 6) rfl (z_inc1 _) (by decide) rfl (fun ls hl => ?_)
                  refine lv_goto (tgt := 45) hx hb dX6_orbit_80 (by decide) ?_
                  have hl9 := lv_sub hl [2, 3, 4, 5, 6, 1, 0] (l' := [(0, .ref (am 0)), (1, .int (nI (r))), (2, .int (nI (lv))), (3, .int (nI (zct (fun i9 => zne (zSz nw r) (zKd nw r) lv i9 i9) i))), (4, .int (nI (i))), (5, .int (nI (0))), (6, .int (nI (u + 1)))]) rfl
                  have e9_5 : (nI (0)) = (zb (zne (zSz nw r) (zKd nw r) lv i (u + 1))) := by first | exact zb_f (zall_f1 (p := (fun u9 => decide (¬ zdx (zimg (zSz nw r) (zKd nw r) (zchg lv i (zSz nw r))) (zimg (zSz nw r) (zKd nw r) (zchg lv u9 (zSz nw r))) (zSz nw r) = 0))) c_7) | exact zb_f (zall_f2 (p := (fun u9 => decide (¬ zdx (zimg (zSz nw r) (zKd nw r) (zchg lv i (zSz nw r))) (zimg (zSz nw r) (zKd nw r) (zchg lv u9 (zSz nw r))) (zSz nw r) = 0))) (decide_eq_false (not_not_intro c_7)))
                  have e9_6 : (u + 1) = ((u + 1)) := by omega
                  exact ih45 (u + 1) (by omega) (by omega) ls (by rw [← e9_5, ← e9_6]; exact hl9)
                · refine lv_iconst (v := nI (1)) hx hb dX6_orbit_70 (by decide) ?_
                  refine lv_goto (tgt := 75) hx hb dX6_orbit_71 (by decide) ?_
                  refine lv_istore (lv' := [(5, .int (nI (1))), (0, .ref (am 0)), (1, .int (nI (r))), (2, .int (nI (lv))), (3, .int (nI (zct (fun i9 => zne (zSz nw r) (zKd nw r) lv i9 i9) i))), (4, .int (nI (i))), (6, .int (nI (u)))]) hx hb dX6_orbit_75 hl (by decide) rfl (fun ls hl => ?_)
                  refine lv_iinc (v := nI (u + 1)) (lv' := [(6, .int (nI (u + 1))), (5, .int (nI (1))), (0, .ref (am 0)), (1, .int (nI (r))), (2, .int (nI (lv))), (3, .int (nI (zct (fun i9 => zne (zSz nw r) (zKd nw r) lv i9 i9) i))), (4, .int (nI (i)))]) hx hb dX6_orbit_77 hl (k := 6) rfl (z_inc1 _) (by decide) rfl (fun ls hl => ?_)
                  refine lv_goto (tgt := 45) hx hb dX6_orbit_80 (by decide) ?_
                  have hl9 := lv_sub hl [2, 3, 4, 5, 6, 1, 0] (l' := [(0, .ref (am 0)), (1, .int (nI (r))), (2, .int (nI (lv))), (3, .int (nI (zct (fun i9 => zne (zSz nw r) (zKd nw r) lv i9 i9) i))), (4, .int (nI (i))), (5, .int (nI (1))), (6, .int (nI (u + 1)))]) rfl
                  have e9_5 : (nI (1)) = (zb (zne (zSz nw r) (zKd nw r) lv i (u + 1))) := zb_t (zall_t (p := (fun u9 => decide (¬ zdx (zimg (zSz nw r) (zKd nw r) (zchg lv i (zSz nw r))) (zimg (zSz nw r) (zKd nw r) (zchg lv u9 (zSz nw r))) (zSz nw r) = 0))) c_6 (decide_eq_true c_7))
                  have e9_6 : (u + 1) = ((u + 1)) := by omega
                  exact ih45 (u + 1) (by omega) (by omega) ls (by rw [← e9_5, ← e9_6]; exact hl9)
        exact L45 ((i - (0)) + 1) (0) (Nat.lt_succ_self _) (Nat.zero_le _) ls (lv_sub hl [2, 3, 4, 5, 6, 1, 0] rfl)
  exact L25 ((znc lv (zSz nw r) - (0)) + 1) (0) (Nat.lt_succ_self _) (Nat.zero_le _) ls (lv_sub hl [2, 3, 4, 1, 0] rfl)

set_option maxHeartbeats 4000000 in
set_option maxRecDepth 100000 in
theorem c_X6_fixed_0 (E : zEnv) {am : Nat → Nat} {nw sv : zS} {an : Bool} {hs : Nat → zS} {ct ln : Nat} {cd : Nat → Int32} {x : Int32} (hok : zOk nw) (hq : zfnd (zSz nw) x = none) : zRO E yX6_fixed wsX6_fixed 4 96 [.ref (am 0), .int (x)] (fun H => zMW E am nw sv an hs ct ln cd H) (some (.int (-1))) := by
  refine zRO.ofI (maxL := 4) rfl (Nat.le_of_ble_eq_true rfl) (fun p e s m args below meth c H Q hF hP hret ls hl => ?_)
  have S : CallFix p m c cX6_fixed 4 s args wsX6_fixed RX6 := hF.1
  have hG := hF.2
  obtain ⟨hx, hb, hml, hown, hts⟩ := id S
  obtain ⟨z, past, kept, buf, rg, td, tm, nb, ⟨h0, h1, h2, h3, h4, h5, h6⟩, hrep, hpa, hke, hbu⟩ := hP
  obtain ⟨r1, rwt, r3, r4, r5, r6, r7⟩ := id hrep
  have hl : lv_has ls 4 [(0, .ref (am 0)), (1, .int (x))] := hl
  refine lv_aload_n hx hb dX6_fixed_0 rfl (lv_at hl 0 rfl) ?_
  refine lv_iload_n hx hb dX6_fixed_1 rfl (lv_at hl 1 rfl) ?_
  refine z_roV (As := [.int (x)]) (rest := []) (q := (RX6, TX6, 11)) S hG (c_X6_isBracelet_0 E (z := z) (fun t ht => (r3 t ht).1) hok.h16 hq) 1 gX6_fixed_X6_isBracelet rfl kX6_isBracelet ⟨Nat.le_of_ble_eq_true rfl, Nat.le_of_ble_eq_true rfl⟩ ⟨Nat.zero_le _, Nat.zero_le _⟩ (⟨h0, h1⟩) rfl h0 rfl hl.1 rfl rfl (Nat.le_of_ble_eq_true rfl) dX6_fixed_2 ?_
  refine z_fne (tgt := 10) hx hb dX6_fixed_5 (by decide) (by omega) (fun c_1 => by exfalso; omega) (fun c_1 => ?_)
  refine lv_iconst (v := (-1)) hx hb dX6_fixed_8 (by decide) ?_
  exact hret _ _ _ dX6_fixed_9 (rfl)

set_option maxHeartbeats 4000000 in
set_option maxRecDepth 100000 in
theorem c_X6_fixed_1 (E : zEnv) {am : Nat → Nat} {nw sv : zS} {an : Bool} {hs : Nat → zS} {ct ln : Nat} {cd : Nat → Int32} {r : Nat} (hok : zOk nw) (hr : r < 6) (hr0 : zSz nw r ≠ 0) : zRO E yX6_fixed wsX6_fixed 4 96 [.ref (am 0), .int (nI (r))] (fun H => zMW E am nw sv an hs ct ln cd H) (some (.int (zset (fun u9 => decide (zdf (zSz nw r) (zKd nw r) (u9 * (zSz nw r) / 4) (zKd nw r) = 0)) 4))) := by
  refine zRO.ofI (maxL := 4) rfl (Nat.le_of_ble_eq_true rfl) (fun p e s m args below meth c H Q hF hP hret ls hl => ?_)
  have S : CallFix p m c cX6_fixed 4 s args wsX6_fixed RX6 := hF.1
  have hG := hF.2
  obtain ⟨hx, hb, hml, hown, hts⟩ := id S
  obtain ⟨z, past, kept, buf, rg, td, tm, nb, ⟨h0, h1, h2, h3, h4, h5, h6⟩, hrep, hpa, hke, hbu⟩ := hP
  obtain ⟨r1, rwt, r3, r4, r5, r6, r7⟩ := id hrep
  have hn := hok.sz hr hr0
  have hm4 := hok.m4 hr
  have hl : lv_has ls 4 [(0, .ref (am 0)), (1, .int (nI (r)))] := hl
  refine lv_aload_n hx hb dX6_fixed_0 rfl (lv_at hl 0 rfl) ?_
  refine lv_iload_n hx hb dX6_fixed_1 rfl (lv_at hl 1 rfl) ?_
  refine z_roV (As := [.int (nI (r))]) (rest := []) (q := (RX6, TX6, 11)) S hG (c_X6_isBracelet_1 E (z := z) hr (hok.sz hr hr0) (r3 r hr).1) 1 gX6_fixed_X6_isBracelet rfl kX6_isBracelet ⟨Nat.le_of_ble_eq_true rfl, Nat.le_of_ble_eq_true rfl⟩ ⟨Nat.zero_le _, Nat.zero_le _⟩ (⟨h0, h1⟩) rfl h0 rfl hl.1 rfl rfl (Nat.le_of_ble_eq_true rfl) dX6_fixed_2 ?_
  refine z_fne (tgt := 10) hx hb dX6_fixed_5 (by decide) (by omega) (fun c_1 => ?_) (fun c_1 => by exfalso; omega)
  refine lv_iconst (v := nI (0)) hx hb dX6_fixed_10 (by decide) ?_
  refine lv_istore_n (lv' := [(2, .int (nI (0))), (0, .ref (am 0)), (1, .int (nI (r)))]) hx hb dX6_fixed_11 rfl hl (by decide) rfl (fun ls hl => ?_)
  refine lv_iconst (v := nI (0)) hx hb dX6_fixed_12 (by decide) ?_
  refine lv_istore_n (lv' := [(3, .int (nI (0))), (2, .int (nI (0))), (0, .ref (am 0)), (1, .int (nI (r)))]) hx hb dX6_fixed_13 rfl hl (by decide) rfl (fun ls hl => ?_)
  have L14 : ∀ (dd : Nat) (t : Nat), 4 - t < dd → (t ≤ 4) → ∀ (ls : Array Slot), lv_has ls 4 [(0, .ref (am 0)), (1, .int (nI (r))), (2, .int (zset (fun u9 => decide (zdf (zSz nw r) (zKd nw r) (u9 * (zSz nw r) / 4) (zKd nw r) = 0)) t)), (3, .int (nI (t)))] → W p (zl E) e (zRm 4 96) s m args below meth c H [] 0 0 Q (F0 m 14 ls []) := by
    intro dd
    induction dd with
    | zero => intro t hdd; exact absurd hdd (Nat.not_lt_zero _)
    | succ dd ih14 =>
      intro t hdd14 ht ls hl
      refine lv_iload_n hx hb dX6_fixed_14 rfl (lv_at hl 3 rfl) ?_
      refine lv_iconst (v := nI (4)) hx hb dX6_fixed_15 (by decide) ?_
      refine z_cge (tgt := 46) hx hb dX6_fixed_16 (by decide) ⟨by omega, by omega⟩ (fun c_2 => ?_) (fun c_2 => ?_)
      · refine lv_iload_n hx hb dX6_fixed_46 rfl (lv_at hl 2 rfl) ?_
        exact hret _ _ _ dX6_fixed_47 (by rw [show t = 4 by omega])
      · refine lv_iload_n hx hb dX6_fixed_19 rfl (lv_at hl 2 rfl) ?_
        refine lv_aload_n hx hb dX6_fixed_20 rfl (lv_at hl 0 rfl) ?_
        refine lv_iload_n hx hb dX6_fixed_21 rfl (lv_at hl 1 rfl) ?_
        refine lv_iconst (v := nI (0)) hx hb dX6_fixed_22 (by decide) ?_
        refine lv_iload_n hx hb dX6_fixed_23 rfl (lv_at hl 3 rfl) ?_
        refine lv_iload_n hx hb dX6_fixed_24 rfl (lv_at hl 1 rfl) ?_
        refine z_roV (As := [.int (nI (r)), .int (nI (0)), .int (nI (t)), .int (nI (r))]) (rest := [.int (zset (fun u9 => decide (zdf (zSz nw r) (zKd nw r) (u9 * (zSz nw r) / 4) (zKd nw r) = 0)) t)]) (q := (RX6, TX6, 11)) S hG (c_X6_unlike E (z := z) (i := r) (n := (zSz nw r)) (f := (zKd nw r)) (lv := 0) (ch := t) (i2 := r) (g := (zKd nw r)) hr hn (r3 r hr) (by decide) hm4 (by show t < 4; omega) hr (r3 r hr)) 4 gX6_fixed_X6_unlike rfl kX6_unlike ⟨Nat.le_of_ble_eq_true rfl, Nat.le_of_ble_eq_true rfl⟩ ⟨Nat.zero_le _, Nat.zero_le _⟩ (⟨h0, h1⟩) rfl h0 rfl hl.1 rfl rfl (Nat.le_of_ble_eq_true rfl) dX6_fixed_25 ?_
        refine z_top (y := nI (zdf (zSz nw r) (zKd nw r) (t * (zSz nw r) / 4) (zKd nw r))) (rfl) ?_
        refine z_fne (tgt := 37) hx hb dX6_fixed_28 (by decide) (by have h9 := zdf_le (zSz nw r) (zKd nw r) (t * (zSz nw r) / 4) (zKd nw r); omega) (fun c_3 => ?_) (fun c_3 => ?_)
        · refine lv_iconst (v := nI (0)) hx hb dX6_fixed_37 (by decide) ?_
          refine lv_ior hx hb dX6_fixed_38 ?_
          refine lv_istore_n (lv' := [(2, .int ((zset (fun u9 => decide (zdf (zSz nw r) (zKd nw r) (u9 * (zSz nw r) / 4) (zKd nw r) = 0)) t) ||| nI (0))), (0, .ref (am 0)), (1, .int (nI (r))), (3, .int (nI (t)))]) hx hb dX6_fixed_39 rfl hl (by decide) rfl (fun ls hl => ?_)
          refine lv_iinc (v := nI (t + 1)) (lv' := [(3, .int (nI (t + 1))), (2, .int ((zset (fun u9 => decide (zdf (zSz nw r) (zKd nw r) (u9 * (zSz nw r) / 4) (zKd nw r) = 0)) t) ||| nI (0))), (0, .ref (am 0)), (1, .int (nI (r)))]) hx hb dX6_fixed_40 hl (k := 3) rfl (z_inc1 _) (by decide) rfl (fun ls hl => ?_)
          refine lv_goto (tgt := 14) hx hb dX6_fixed_43 (by decide) ?_
          have hl9 := lv_sub hl [2, 3, 1, 0] (l' := [(0, .ref (am 0)), (1, .int (nI (r))), (2, .int ((zset (fun u9 => decide (zdf (zSz nw r) (zKd nw r) (u9 * (zSz nw r) / 4) (zKd nw r) = 0)) t) ||| nI (0))), (3, .int (nI (t + 1)))]) rfl
          have e9_2 : ((zset (fun u9 => decide (zdf (zSz nw r) (zKd nw r) (u9 * (zSz nw r) / 4) (zKd nw r) = 0)) t) ||| nI (0)) = (zset (fun u9 => decide (zdf (zSz nw r) (zKd nw r) (u9 * (zSz nw r) / 4) (zKd nw r) = 0)) (t + 1)) := by first | exact zset_z (p := (fun u9 => decide (zdf (zSz nw r) (zKd nw r) (u9 * (zSz nw r) / 4) (zKd nw r) = 0))) (decide_eq_false c_3) | exact zset_t (p := (fun u9 => decide (zdf (zSz nw r) (zKd nw r) (u9 * (zSz nw r) / 4) (zKd nw r) = 0))) (decide_eq_true c_3)
          have e9_3 : (t + 1) = ((t + 1)) := by omega
          exact ih14 (t + 1) (by omega) (by omega) ls (by rw [← e9_2, ← e9_3]; exact hl9)
        · refine lv_iconst (v := nI (1)) hx hb dX6_fixed_31 (by decide) ?_
          refine lv_iload_n hx hb dX6_fixed_32 rfl (lv_at hl 3 rfl) ?_
          refine lv_ishl hx hb dX6_fixed_33 ?_
          refine lv_goto (tgt := 38) hx hb dX6_fixed_34 (by decide) ?_
          refine lv_ior hx hb dX6_fixed_38 ?_
          refine lv_istore_n (lv' := [(2, .int ((zset (fun u9 => decide (zdf (zSz nw r) (zKd nw r) (u9 * (zSz nw r) / 4) (zKd nw r) = 0)) t) ||| (nI (1) <<< (nI (t) &&& 31)))), (0, .ref (am 0)), (1, .int (nI (r))), (3, .int (nI (t)))]) hx hb dX6_fixed_39 rfl hl (by decide) rfl (fun ls hl => ?_)
          refine lv_iinc (v := nI (t + 1)) (lv' := [(3, .int (nI (t + 1))), (2, .int ((zset (fun u9 => decide (zdf (zSz nw r) (zKd nw r) (u9 * (zSz nw r) / 4) (zKd nw r) = 0)) t) ||| (nI (1) <<< (nI (t) &&& 31)))), (0, .ref (am 0)), (1, .int (nI (r)))]) hx hb dX6_fixed_40 hl (k := 3) rfl (z_inc1 _) (by decide) rfl (fun ls hl => ?_)
          refine lv_goto (tgt := 14) hx hb dX6_fixed_43 (by decide) ?_
          have hl9 := lv_sub hl [2, 3, 1, 0] (l' := [(0, .ref (am 0)), (1, .int (nI (r))), (2, .int ((zset (fun u9 => decide (zdf (zSz nw r) (zKd nw r) (u9 * (zSz nw r) / 4) (zKd nw r) = 0)) t) ||| (nI (1) <<< (nI (t) &&& 31)))), (3, .int (nI (t + 1)))]) rfl
          have e9_2 : ((zset (fun u9 => decide (zdf (zSz nw r) (zKd nw r) (u9 * (zSz nw r) / 4) (zKd nw r) = 0)) t) ||| (nI (1) <<< (nI (t) &&& 31))) = (zset (fun u9 => decide (zdf (zSz nw r) (zKd nw r) (u9 * (zSz nw r) / 4) (zKd nw r) = 0)) (t + 1)) := by first | exact zset_z (p := (fun u9 => decide (zdf (zSz nw r) (zKd nw r) (u9 * (zSz nw r) / 4) (zKd nw r) = 0))) (decide_eq_false c_3) | exact zset_t (p := (fun u9 => decide (zdf (zSz nw r) (zKd nw r) (u9 * (zSz nw r) / 4) (zKd nw r) = 0))) (decide_eq_true c_3)
          have e9_3 : (t + 1) = ((t + 1)) := by omega
          exact ih14 (t + 1) (by omega) (by omega) ls (by rw [← e9_2, ← e9_3]; exact hl9)
  exact L14 ((4 - (0)) + 1) (0) (Nat.lt_succ_self _) (by decide) ls (lv_sub hl [2, 3, 1, 0] rfl)

set_option maxHeartbeats 4000000 in
set_option maxRecDepth 100000 in
theorem c_X6_distance_0 (E : zEnv) {am : Nat → Nat} {nw sv : zS} {an : Bool} {hs : Nat → zS} {ct ln : Nat} {cd : Nat → Int32} {x y : Int32} (hok : zOk nw) (hq : zfnd (zSz nw) x = none) : zRO E yX6_distance wsX6_distance 4 96 [.ref (am 0), .int (x), .int (y)] (fun H => zMW E am nw sv an hs ct ln cd H) (some (.int (-1))) := by
  refine zRO.ofI (maxL := 6) rfl (Nat.le_of_ble_eq_true rfl) (fun p e s m args below meth c H Q hF hP hret ls hl => ?_)
  have S : CallFix p m c cX6_distance 6 s args wsX6_distance RX6 := hF.1
  have hG := hF.2
  obtain ⟨hx, hb, hml, hown, hts⟩ := id S
  obtain ⟨z, past, kept, buf, rg, td, tm, nb, ⟨h0, h1, h2, h3, h4, h5, h6⟩, hrep, hpa, hke, hbu⟩ := hP
  obtain ⟨r1, rwt, r3, r4, r5, r6, r7⟩ := id hrep
  have hl : lv_has ls 6 [(0, .ref (am 0)), (1, .int (x)), (2, .int (y))] := hl
  refine lv_aload_n hx hb dX6_distance_0 rfl (lv_at hl 0 rfl) ?_
  refine lv_iload_n hx hb dX6_distance_1 rfl (lv_at hl 1 rfl) ?_
  refine z_roV (As := [.int (x)]) (rest := []) (q := (RX6, TX6, 11)) S hG (c_X6_isBracelet_0 E (z := z) (fun t ht => (r3 t ht).1) hok.h16 hq) 1 gX6_distance_X6_isBracelet rfl kX6_isBracelet ⟨Nat.le_of_ble_eq_true rfl, Nat.le_of_ble_eq_true rfl⟩ ⟨Nat.zero_le _, Nat.zero_le _⟩ (⟨h0, h1⟩) rfl h0 rfl hl.1 rfl rfl (Nat.le_of_ble_eq_true rfl) dX6_distance_2 ?_
  refine z_feq (tgt := 16) hx hb dX6_distance_5 (by decide) (by omega) (fun c_1 => ?_) (fun c_1 => by exfalso; omega)
  refine lv_iconst (v := (-1)) hx hb dX6_distance_16 (by decide) ?_
  exact hret _ _ _ dX6_distance_17 (rfl)

set_option maxHeartbeats 4000000 in
set_option maxRecDepth 100000 in
theorem c_X6_distance_1 (E : zEnv) {am : Nat → Nat} {nw sv : zS} {an : Bool} {hs : Nat → zS} {ct ln : Nat} {cd : Nat → Int32} {r : Nat} {y : Int32} (hok : zOk nw) (hr : r < 6) (hr0 : zSz nw r ≠ 0) (hqy : zfnd (zSz nw) y = none) : zRO E yX6_distance wsX6_distance 4 96 [.ref (am 0), .int (nI (r)), .int (y)] (fun H => zMW E am nw sv an hs ct ln cd H) (some (.int (-1))) := by
  refine zRO.ofI (maxL := 6) rfl (Nat.le_of_ble_eq_true rfl) (fun p e s m args below meth c H Q hF hP hret ls hl => ?_)
  have S : CallFix p m c cX6_distance 6 s args wsX6_distance RX6 := hF.1
  have hG := hF.2
  obtain ⟨hx, hb, hml, hown, hts⟩ := id S
  obtain ⟨z, past, kept, buf, rg, td, tm, nb, ⟨h0, h1, h2, h3, h4, h5, h6⟩, hrep, hpa, hke, hbu⟩ := hP
  obtain ⟨r1, rwt, r3, r4, r5, r6, r7⟩ := id hrep
  have hl : lv_has ls 6 [(0, .ref (am 0)), (1, .int (nI (r))), (2, .int (y))] := hl
  refine lv_aload_n hx hb dX6_distance_0 rfl (lv_at hl 0 rfl) ?_
  refine lv_iload_n hx hb dX6_distance_1 rfl (lv_at hl 1 rfl) ?_
  refine z_roV (As := [.int (nI (r))]) (rest := []) (q := (RX6, TX6, 11)) S hG (c_X6_isBracelet_1 E (z := z) hr (hok.sz hr hr0) (r3 r hr).1) 1 gX6_distance_X6_isBracelet rfl kX6_isBracelet ⟨Nat.le_of_ble_eq_true rfl, Nat.le_of_ble_eq_true rfl⟩ ⟨Nat.zero_le _, Nat.zero_le _⟩ (⟨h0, h1⟩) rfl h0 rfl hl.1 rfl rfl (Nat.le_of_ble_eq_true rfl) dX6_distance_2 ?_
  refine z_feq (tgt := 16) hx hb dX6_distance_5 (by decide) (by omega) (fun c_1 => by exfalso; omega) (fun c_1 => ?_)
  refine lv_aload_n hx hb dX6_distance_8 rfl (lv_at hl 0 rfl) ?_
  refine lv_iload_n hx hb dX6_distance_9 rfl (lv_at hl 2 rfl) ?_
  refine z_roV (As := [.int (y)]) (rest := []) (q := (RX6, TX6, 11)) S hG (c_X6_isBracelet_0 E (z := z) (fun t ht => (r3 t ht).1) hok.h16 hqy) 1 gX6_distance_X6_isBracelet rfl kX6_isBracelet ⟨Nat.le_of_ble_eq_true rfl, Nat.le_of_ble_eq_true rfl⟩ ⟨Nat.zero_le _, Nat.zero_le _⟩ (⟨h0, h1⟩) rfl h0 rfl hl.1 rfl rfl (Nat.le_of_ble_eq_true rfl) dX6_distance_10 ?_
  refine z_fne (tgt := 18) hx hb dX6_distance_13 (by decide) (by omega) (fun c_2 => by exfalso; omega) (fun c_2 => ?_)
  refine lv_iconst (v := (-1)) hx hb dX6_distance_16 (by decide) ?_
  exact hret _ _ _ dX6_distance_17 (rfl)

set_option maxHeartbeats 4000000 in
set_option maxRecDepth 100000 in
theorem c_X6_distance_2 (E : zEnv) {am : Nat → Nat} {nw sv : zS} {an : Bool} {hs : Nat → zS} {ct ln : Nat} {cd : Nat → Int32} {r r2 : Nat} (hok : zOk nw) (hr : r < 6) (hr0 : zSz nw r ≠ 0) (hr2 : r2 < 6) (hr20 : zSz nw r2 ≠ 0) (hne : (zSz nw r) ≠ (zSz nw r2)) : zRO E yX6_distance wsX6_distance 4 96 [.ref (am 0), .int (nI (r)), .int (nI (r2))] (fun H => zMW E am nw sv an hs ct ln cd H) (some (.int (-6))) := by
  refine zRO.ofI (maxL := 6) rfl (Nat.le_of_ble_eq_true rfl) (fun p e s m args below meth c H Q hF hP hret ls hl => ?_)
  have S : CallFix p m c cX6_distance 6 s args wsX6_distance RX6 := hF.1
  have hG := hF.2
  obtain ⟨hx, hb, hml, hown, hts⟩ := id S
  obtain ⟨z, past, kept, buf, rg, td, tm, nb, ⟨h0, h1, h2, h3, h4, h5, h6⟩, hrep, hpa, hke, hbu⟩ := hP
  obtain ⟨r1, rwt, r3, r4, r5, r6, r7⟩ := id hrep
  have hl : lv_has ls 6 [(0, .ref (am 0)), (1, .int (nI (r))), (2, .int (nI (r2)))] := hl
  refine lv_aload_n hx hb dX6_distance_0 rfl (lv_at hl 0 rfl) ?_
  refine lv_iload_n hx hb dX6_distance_1 rfl (lv_at hl 1 rfl) ?_
  refine z_roV (As := [.int (nI (r))]) (rest := []) (q := (RX6, TX6, 11)) S hG (c_X6_isBracelet_1 E (z := z) hr (hok.sz hr hr0) (r3 r hr).1) 1 gX6_distance_X6_isBracelet rfl kX6_isBracelet ⟨Nat.le_of_ble_eq_true rfl, Nat.le_of_ble_eq_true rfl⟩ ⟨Nat.zero_le _, Nat.zero_le _⟩ (⟨h0, h1⟩) rfl h0 rfl hl.1 rfl rfl (Nat.le_of_ble_eq_true rfl) dX6_distance_2 ?_
  refine z_feq (tgt := 16) hx hb dX6_distance_5 (by decide) (by omega) (fun c_1 => by exfalso; omega) (fun c_1 => ?_)
  refine lv_aload_n hx hb dX6_distance_8 rfl (lv_at hl 0 rfl) ?_
  refine lv_iload_n hx hb dX6_distance_9 rfl (lv_at hl 2 rfl) ?_
  refine z_roV (As := [.int (nI (r2))]) (rest := []) (q := (RX6, TX6, 11)) S hG (c_X6_isBracelet_1 E (z := z) hr2 (hok.sz hr2 hr20) (r3 r2 hr2).1) 1 gX6_distance_X6_isBracelet rfl kX6_isBracelet ⟨Nat.le_of_ble_eq_true rfl, Nat.le_of_ble_eq_true rfl⟩ ⟨Nat.zero_le _, Nat.zero_le _⟩ (⟨h0, h1⟩) rfl h0 rfl hl.1 rfl rfl (Nat.le_of_ble_eq_true rfl) dX6_distance_10 ?_
  refine z_fne (tgt := 18) hx hb dX6_distance_13 (by decide) (by omega) (fun c_2 => ?_) (fun c_2 => by exfalso; omega)
  refine lv_aload_n hx hb dX6_distance_18 rfl (lv_at hl 0 rfl) ?_
  refine lv_iload_n hx hb dX6_distance_19 rfl (lv_at hl 1 rfl) ?_
  refine z_roV (As := [.int (nI (r))]) (rest := []) (q := (RX6, TX6, 11)) S hG (c_X6_slots E (z := z) (i := r) (n := zSz nw r) hr (r3 r hr).1) 1 gX6_distance_X6_slots rfl kX6_slots ⟨Nat.le_of_ble_eq_true rfl, Nat.le_of_ble_eq_true rfl⟩ ⟨Nat.zero_le _, Nat.zero_le _⟩ (⟨h0, h1⟩) rfl h0 rfl hl.1 rfl rfl (Nat.le_of_ble_eq_true rfl) dX6_distance_20 ?_
  refine lv_aload_n hx hb dX6_distance_23 rfl (lv_at hl 0 rfl) ?_
  refine lv_iload_n hx hb dX6_distance_24 rfl (lv_at hl 2 rfl) ?_
  refine z_roV (As := [.int (nI (r2))]) (rest := [.int (nI ((zSz nw r)))]) (q := (RX6, TX6, 11)) S hG (c_X6_slots E (z := z) (i := r2) (n := zSz nw r2) hr2 (r3 r2 hr2).1) 1 gX6_distance_X6_slots rfl kX6_slots ⟨Nat.le_of_ble_eq_true rfl, Nat.le_of_ble_eq_true rfl⟩ ⟨Nat.zero_le _, Nat.zero_le _⟩ (⟨h0, h1⟩) rfl h0 rfl hl.1 rfl rfl (Nat.le_of_ble_eq_true rfl) dX6_distance_25 ?_
  refine z_ceq (tgt := 34) hx hb dX6_distance_28 (by decide) ⟨by have := hok.h16 r hr; omega, by have := hok.h16 r2 hr2; omega⟩ (fun c_3 => by exfalso; omega) (fun c_3 => ?_)
  refine lv_bipush (v := (-6)) hx hb dX6_distance_31 (by decide) ?_
  exact hret _ _ _ dX6_distance_33 (rfl)

set_option maxHeartbeats 4000000 in
set_option maxRecDepth 100000 in
theorem c_X6_distance_3 (E : zEnv) {am : Nat → Nat} {nw sv : zS} {an : Bool} {hs : Nat → zS} {ct ln : Nat} {cd : Nat → Int32} {r r2 : Nat} (hok : zOk nw) (hr : r < 6) (hr0 : zSz nw r ≠ 0) (hr2 : r2 < 6) (hr20 : zSz nw r2 ≠ 0) (hne : (zSz nw r) = (zSz nw r2)) : zRO E yX6_distance wsX6_distance 4 96 [.ref (am 0), .int (nI (r)), .int (nI (r2))] (fun H => zMW E am nw sv an hs ct ln cd H) (some (.int (nI (zmd (zSz nw r) (zKd nw r) (zKd nw r2) 2 (znc 2 (zSz nw r)))))) := by
  refine zRO.ofI (maxL := 6) rfl (Nat.le_of_ble_eq_true rfl) (fun p e s m args below meth c H Q hF hP hret ls hl => ?_)
  have S : CallFix p m c cX6_distance 6 s args wsX6_distance RX6 := hF.1
  have hG := hF.2
  obtain ⟨hx, hb, hml, hown, hts⟩ := id S
  obtain ⟨z, past, kept, buf, rg, td, tm, nb, ⟨h0, h1, h2, h3, h4, h5, h6⟩, hrep, hpa, hke, hbu⟩ := hP
  obtain ⟨r1, rwt, r3, r4, r5, r6, r7⟩ := id hrep
  have hn := hok.sz hr hr0
  have hm4 := hok.m4 hr
  have hr2z : zmr z r2 (zSz nw r) (zKd nw r2) := by rw [hne]; exact r3 r2 hr2
  have hl : lv_has ls 6 [(0, .ref (am 0)), (1, .int (nI (r))), (2, .int (nI (r2)))] := hl
  refine lv_aload_n hx hb dX6_distance_0 rfl (lv_at hl 0 rfl) ?_
  refine lv_iload_n hx hb dX6_distance_1 rfl (lv_at hl 1 rfl) ?_
  refine z_roV (As := [.int (nI (r))]) (rest := []) (q := (RX6, TX6, 11)) S hG (c_X6_isBracelet_1 E (z := z) hr (hok.sz hr hr0) (r3 r hr).1) 1 gX6_distance_X6_isBracelet rfl kX6_isBracelet ⟨Nat.le_of_ble_eq_true rfl, Nat.le_of_ble_eq_true rfl⟩ ⟨Nat.zero_le _, Nat.zero_le _⟩ (⟨h0, h1⟩) rfl h0 rfl hl.1 rfl rfl (Nat.le_of_ble_eq_true rfl) dX6_distance_2 ?_
  refine z_feq (tgt := 16) hx hb dX6_distance_5 (by decide) (by omega) (fun c_1 => by exfalso; omega) (fun c_1 => ?_)
  refine lv_aload_n hx hb dX6_distance_8 rfl (lv_at hl 0 rfl) ?_
  refine lv_iload_n hx hb dX6_distance_9 rfl (lv_at hl 2 rfl) ?_
  refine z_roV (As := [.int (nI (r2))]) (rest := []) (q := (RX6, TX6, 11)) S hG (c_X6_isBracelet_1 E (z := z) hr2 (hok.sz hr2 hr20) (r3 r2 hr2).1) 1 gX6_distance_X6_isBracelet rfl kX6_isBracelet ⟨Nat.le_of_ble_eq_true rfl, Nat.le_of_ble_eq_true rfl⟩ ⟨Nat.zero_le _, Nat.zero_le _⟩ (⟨h0, h1⟩) rfl h0 rfl hl.1 rfl rfl (Nat.le_of_ble_eq_true rfl) dX6_distance_10 ?_
  refine z_fne (tgt := 18) hx hb dX6_distance_13 (by decide) (by omega) (fun c_2 => ?_) (fun c_2 => by exfalso; omega)
  refine lv_aload_n hx hb dX6_distance_18 rfl (lv_at hl 0 rfl) ?_
  refine lv_iload_n hx hb dX6_distance_19 rfl (lv_at hl 1 rfl) ?_
  refine z_roV (As := [.int (nI (r))]) (rest := []) (q := (RX6, TX6, 11)) S hG (c_X6_slots E (z := z) (i := r) (n := zSz nw r) hr (r3 r hr).1) 1 gX6_distance_X6_slots rfl kX6_slots ⟨Nat.le_of_ble_eq_true rfl, Nat.le_of_ble_eq_true rfl⟩ ⟨Nat.zero_le _, Nat.zero_le _⟩ (⟨h0, h1⟩) rfl h0 rfl hl.1 rfl rfl (Nat.le_of_ble_eq_true rfl) dX6_distance_20 ?_
  refine lv_aload_n hx hb dX6_distance_23 rfl (lv_at hl 0 rfl) ?_
  refine lv_iload_n hx hb dX6_distance_24 rfl (lv_at hl 2 rfl) ?_
  refine z_roV (As := [.int (nI (r2))]) (rest := [.int (nI ((zSz nw r)))]) (q := (RX6, TX6, 11)) S hG (c_X6_slots E (z := z) (i := r2) (n := zSz nw r2) hr2 (r3 r2 hr2).1) 1 gX6_distance_X6_slots rfl kX6_slots ⟨Nat.le_of_ble_eq_true rfl, Nat.le_of_ble_eq_true rfl⟩ ⟨Nat.zero_le _, Nat.zero_le _⟩ (⟨h0, h1⟩) rfl h0 rfl hl.1 rfl rfl (Nat.le_of_ble_eq_true rfl) dX6_distance_25 ?_
  refine z_ceq (tgt := 34) hx hb dX6_distance_28 (by decide) ⟨by have := hok.h16 r hr; omega, by have := hok.h16 r2 hr2; omega⟩ (fun c_3 => ?_) (fun c_3 => by exfalso; omega)
  refine lv_bipush (v := nI (16)) hx hb dX6_distance_34 (by decide) ?_
  refine lv_istore_n (lv' := [(3, .int (nI (16))), (0, .ref (am 0)), (1, .int (nI (r))), (2, .int (nI (r2)))]) hx hb dX6_distance_36 rfl hl (by decide) rfl (fun ls hl => ?_)
  refine lv_iconst (v := nI (0)) hx hb dX6_distance_37 (by decide) ?_
  refine lv_istore (lv' := [(4, .int (nI (0))), (3, .int (nI (16))), (0, .ref (am 0)), (1, .int (nI (r))), (2, .int (nI (r2)))]) hx hb dX6_distance_38 hl (by decide) rfl (fun ls hl => ?_)
  have L40 : ∀ (dd : Nat) (i : Nat), znc 2 (zSz nw r) - i < dd → (i ≤ znc 2 (zSz nw r)) → ∀ (ls : Array Slot), lv_has ls 6 [(0, .ref (am 0)), (1, .int (nI (r))), (2, .int (nI (r2))), (3, .int (nI (zmn (fun u9 => zdf (zSz nw r) (zKd nw r) (zchg 2 u9 (zSz nw r)) (zKd nw r2)) 16 i))), (4, .int (nI (i)))] → W p (zl E) e (zRm 4 96) s m args below meth c H [] 0 0 Q (F0 m 40 ls []) := by
    intro dd
    induction dd with
    | zero => intro i hdd; exact absurd hdd (Nat.not_lt_zero _)
    | succ dd ih40 =>
      intro i hdd40 hi ls hl
      have hc32 := znc_le (lv := 2) hn.2
      refine lv_iload hx hb dX6_distance_40 (lv_at hl 4 rfl) ?_
      refine lv_aload_n hx hb dX6_distance_42 rfl (lv_at hl 0 rfl) ?_
      refine lv_iload_n hx hb dX6_distance_43 rfl (lv_at hl 1 rfl) ?_
      refine z_roV (As := [.int (nI (r))]) (rest := [.int (nI (i))]) (q := (RX6, TX6, 11)) S hG (c_X6_slots E (z := z) (i := r) (n := (zSz nw r)) hr (r3 r hr).1) 1 gX6_distance_X6_slots rfl kX6_slots ⟨Nat.le_of_ble_eq_true rfl, Nat.le_of_ble_eq_true rfl⟩ ⟨Nat.zero_le _, Nat.zero_le _⟩ (⟨h0, h1⟩) rfl h0 rfl hl.1 rfl rfl (Nat.le_of_ble_eq_true rfl) dX6_distance_44 ?_
      refine lv_iconst (v := nI (2)) hx hb dX6_distance_47 (by decide) ?_
      refine z_roSX (As := [.int (nI ((zSz nw r))), .int (nI (2))]) (rest := [.int (nI (i))]) S hG (c_X6_changes E (n := (zSz nw r)) (lv := 2) (by decide)) 2 gX6_distance_X6_changes rfl kX6_changes.2 ⟨Nat.le_of_ble_eq_true rfl, Nat.le_of_ble_eq_true rfl⟩ ⟨Nat.zero_le _, Nat.zero_le _⟩ (trivial) rfl hl.1 rfl rfl (Nat.le_of_ble_eq_true rfl) dX6_distance_48 ?_
      refine z_cge (tgt := 84) hx hb dX6_distance_51 (by decide) ⟨by omega, by have := znc_le (lv := 2) hn.2; omega⟩ (fun c_4 => ?_) (fun c_4 => ?_)
      · refine lv_iload_n hx hb dX6_distance_84 rfl (lv_at hl 3 rfl) ?_
        exact hret _ _ _ dX6_distance_85 (zdist hn (by omega))
      · refine lv_aload_n hx hb dX6_distance_54 rfl (lv_at hl 0 rfl) ?_
        refine lv_iload_n hx hb dX6_distance_55 rfl (lv_at hl 1 rfl) ?_
        refine lv_iconst (v := nI (2)) hx hb dX6_distance_56 (by decide) ?_
        refine lv_iload hx hb dX6_distance_57 (lv_at hl 4 rfl) ?_
        refine lv_iload_n hx hb dX6_distance_59 rfl (lv_at hl 2 rfl) ?_
        refine z_roV (As := [.int (nI (r)), .int (nI (2)), .int (nI (i)), .int (nI (r2))]) (rest := []) (q := (RX6, TX6, 11)) S hG (c_X6_unlike E (z := z) (i := r) (n := (zSz nw r)) (f := (zKd nw r)) (lv := 2) (ch := i) (i2 := r2) (g := (zKd nw r2)) hr hn (r3 r hr) (by decide) hm4 (by omega) hr2 hr2z) 4 gX6_distance_X6_unlike rfl kX6_unlike ⟨Nat.le_of_ble_eq_true rfl, Nat.le_of_ble_eq_true rfl⟩ ⟨Nat.zero_le _, Nat.zero_le _⟩ (⟨h0, h1⟩) rfl h0 rfl hl.1 rfl rfl (Nat.le_of_ble_eq_true rfl) dX6_distance_60 ?_
        refine lv_istore (lv' := [(5, .int (nI (zdf (zSz nw r) (zKd nw r) (zchg 2 i (zSz nw r)) (zKd nw r2)))), (0, .ref (am 0)), (1, .int (nI (r))), (2, .int (nI (r2))), (3, .int (nI (zmn (fun u9 => zdf (zSz nw r) (zKd nw r) (zchg 2 u9 (zSz nw r)) (zKd nw r2)) 16 i))), (4, .int (nI (i)))]) hx hb dX6_distance_63 hl (by decide) rfl (fun ls hl => ?_)
        refine lv_iload hx hb dX6_distance_65 (lv_at hl 0 rfl) ?_
        refine lv_iload_n hx hb dX6_distance_67 rfl (lv_at hl 4 rfl) ?_
        refine z_cge (tgt := 76) hx hb dX6_distance_68 (by decide) ⟨by have h9 := zdf_le (zSz nw r) (zKd nw r) (zchg 2 i (zSz nw r)) (zKd nw r2); omega, by have h9 := zmn_le (fun u9 => zdf (zSz nw r) (zKd nw r) (zchg 2 u9 (zSz nw r)) (zKd nw r2)) 16 i; omega⟩ (fun c_5 => ?_) (fun c_5 => ?_)
        · refine lv_iload_n hx hb dX6_distance_76 rfl (lv_at hl 4 rfl) ?_
          refine lv_istore_n (lv' := [(3, .int (nI (zmn (fun u9 => zdf (zSz nw r) (zKd nw r) (zchg 2 u9 (zSz nw r)) (zKd nw r2)) 16 i))), (5, .int (nI (zdf (zSz nw r) (zKd nw r) (zchg 2 i (zSz nw r)) (zKd nw r2)))), (0, .ref (am 0)), (1, .int (nI (r))), (2, .int (nI (r2))), (4, .int (nI (i)))]) hx hb dX6_distance_77 rfl hl (by decide) rfl (fun ls hl => ?_)
          refine lv_iinc (v := nI (i + 1)) (lv' := [(4, .int (nI (i + 1))), (3, .int (nI (zmn (fun u9 => zdf (zSz nw r) (zKd nw r) (zchg 2 u9 (zSz nw r)) (zKd nw r2)) 16 i))), (5, .int (nI (zdf (zSz nw r) (zKd nw r) (zchg 2 i (zSz nw r)) (zKd nw r2)))), (0, .ref (am 0)), (1, .int (nI (r))), (2, .int (nI (r2)))]) hx hb dX6_distance_78 hl (k := 5) rfl (z_inc1 _) (by decide) rfl (fun ls hl => ?_)
          refine lv_goto (tgt := 40) hx hb dX6_distance_81 (by decide) ?_
          have hl9 := lv_sub hl [3, 4, 5, 1, 0] (l' := [(0, .ref (am 0)), (1, .int (nI (r))), (2, .int (nI (r2))), (3, .int (nI (zmn (fun u9 => zdf (zSz nw r) (zKd nw r) (zchg 2 u9 (zSz nw r)) (zKd nw r2)) 16 i))), (4, .int (nI (i + 1)))]) rfl
          have e9_3 : (zmn (fun u9 => zdf (zSz nw r) (zKd nw r) (zchg 2 u9 (zSz nw r)) (zKd nw r2)) 16 i) = (zmn (fun u9 => zdf (zSz nw r) (zKd nw r) (zchg 2 u9 (zSz nw r)) (zKd nw r2)) 16 (i + 1)) := by first | exact zmn_l (F := (fun u9 => zdf (zSz nw r) (zKd nw r) (zchg 2 u9 (zSz nw r)) (zKd nw r2))) c_5 | exact zmn_r (F := (fun u9 => zdf (zSz nw r) (zKd nw r) (zchg 2 u9 (zSz nw r)) (zKd nw r2))) c_5
          have e9_4 : (i + 1) = ((i + 1)) := by omega
          exact ih40 (i + 1) (by omega) (by omega) ls (by rw [← e9_3, ← e9_4]; exact hl9)
        · refine lv_iload hx hb dX6_distance_71 (lv_at hl 0 rfl) ?_
          refine lv_goto (tgt := 77) hx hb dX6_distance_73 (by decide) ?_
          refine lv_istore_n (lv' := [(3, .int (nI (zdf (zSz nw r) (zKd nw r) (zchg 2 i (zSz nw r)) (zKd nw r2)))), (5, .int (nI (zdf (zSz nw r) (zKd nw r) (zchg 2 i (zSz nw r)) (zKd nw r2)))), (0, .ref (am 0)), (1, .int (nI (r))), (2, .int (nI (r2))), (4, .int (nI (i)))]) hx hb dX6_distance_77 rfl hl (by decide) rfl (fun ls hl => ?_)
          refine lv_iinc (v := nI (i + 1)) (lv' := [(4, .int (nI (i + 1))), (3, .int (nI (zdf (zSz nw r) (zKd nw r) (zchg 2 i (zSz nw r)) (zKd nw r2)))), (5, .int (nI (zdf (zSz nw r) (zKd nw r) (zchg 2 i (zSz nw r)) (zKd nw r2)))), (0, .ref (am 0)), (1, .int (nI (r))), (2, .int (nI (r2)))]) hx hb dX6_distance_78 hl (k := 5) rfl (z_inc1 _) (by decide) rfl (fun ls hl => ?_)
          refine lv_goto (tgt := 40) hx hb dX6_distance_81 (by decide) ?_
          have hl9 := lv_sub hl [3, 4, 5, 1, 0] (l' := [(0, .ref (am 0)), (1, .int (nI (r))), (2, .int (nI (r2))), (3, .int (nI (zdf (zSz nw r) (zKd nw r) (zchg 2 i (zSz nw r)) (zKd nw r2)))), (4, .int (nI (i + 1)))]) rfl
          have e9_3 : (zdf (zSz nw r) (zKd nw r) (zchg 2 i (zSz nw r)) (zKd nw r2)) = (zmn (fun u9 => zdf (zSz nw r) (zKd nw r) (zchg 2 u9 (zSz nw r)) (zKd nw r2)) 16 (i + 1)) := by first | exact zmn_l (F := (fun u9 => zdf (zSz nw r) (zKd nw r) (zchg 2 u9 (zSz nw r)) (zKd nw r2))) c_5 | exact zmn_r (F := (fun u9 => zdf (zSz nw r) (zKd nw r) (zchg 2 u9 (zSz nw r)) (zKd nw r2))) c_5
          have e9_4 : (i + 1) = ((i + 1)) := by omega
          exact ih40 (i + 1) (by omega) (by omega) ls (by rw [← e9_3, ← e9_4]; exact hl9)
  exact L40 ((znc 2 (zSz nw r) - (0)) + 1) (0) (Nat.lt_succ_self _) (Nat.zero_le _) ls (lv_sub hl [2, 3, 4, 1, 0] rfl)

set_option maxHeartbeats 4000000 in
set_option maxRecDepth 100000 in
theorem c_X6_motif_0a (E : zEnv) {am : Nat → Nat} {nw sv : zS} {an : Bool} {hs : Nat → zS} {ct ln : Nat} {cd : Nat → Int32} {y : Int32} (hok : zOk nw) (h09 : zMl nw = 0) : zRO E yX6_motif wsX6_motif 1 22 [.ref (am 0), .int (y)] (fun H => zMW E am nw sv an hs ct ln cd H) (some (.int (-1))) := by
  refine zRO.ofI (maxL := 2) rfl (Nat.le_of_ble_eq_true rfl) (fun p e s m args below meth c H Q hF hP hret ls hl => ?_)
  have S : CallFix p m c cX6_motif 2 s args wsX6_motif RX6 := hF.1
  have hG := hF.2
  obtain ⟨hx, hb, hml, hown, hts⟩ := id S
  obtain ⟨z, past, kept, buf, rg, td, tm, nb, ⟨h0, h1, h2, h3, h4, h5, h6⟩, hrep, hpa, hke, hbu⟩ := hP
  obtain ⟨r1, rwt, r3, r4, r5, r6, r7⟩ := id hrep
  have hl : lv_has ls 2 [(0, .ref (am 0)), (1, .int (y))] := hl
  have hin6 : ∀ w ∈ u_ws RX6 TX6 11, w ∈ wsX6_motif := by decide +kernel
  refine lv_iload_n hx hb dX6_motif_0 rfl (lv_at hl 1 rfl) ?_
  refine lv_iconst (v := nI (0)) hx hb dX6_motif_1 (by decide) ?_
  refine lv_aload_n hx hb dX6_motif_2 rfl (lv_at hl 0 rfl) ?_
  refine z_get (ref := RX6) (C := RX6) (T := TX6) (N := 11) hx hb hts hin6 hown hG h0 rfl 0 (by decide) (by decide +kernel) rfl rfl dX6_motif_3 ?_
  refine lv_bipush (v := nI (112)) hx hb dX6_motif_6 (by decide) ?_
  refine z_iald (j := 112) hx hb hG h1 ⟨by omega, by omega⟩ dX6_motif_8 ?_
  refine z_top (y := (nI 0)) (by rw [r4, h09]) ?_
  refine lv_iconst (v := nI (1)) hx hb dX6_motif_9 (by decide) ?_
  refine lv_isub hx hb dX6_motif_10 ?_
  refine z_top (y := nI (4294967295)) (by decide) ?_
  refine z_roSX (As := [.int (y), .int (nI (0)), .int (nI (4294967295))]) (rest := []) S hG (c_X6_in E) 3 gX6_motif_X6_in rfl kX6_in.2 ⟨Nat.le_of_ble_eq_true rfl, Nat.le_of_ble_eq_true rfl⟩ ⟨Nat.zero_le _, Nat.zero_le _⟩ (trivial) rfl hl.1 rfl rfl (Nat.le_of_ble_eq_true rfl) dX6_motif_11 ?_
  refine z_beq (tgt := 29) hx hb dX6_motif_14 (by decide) (fun c_1 => ?_) (fun c_1 => by exfalso; rw [zin_m1] at c_1; cases c_1)
  refine lv_iconst (v := (-1)) hx hb dX6_motif_29 (by decide) ?_
  exact hret _ _ _ dX6_motif_30 (rfl)

set_option maxHeartbeats 4000000 in
set_option maxRecDepth 100000 in
theorem c_X6_motif_0b (E : zEnv) {am : Nat → Nat} {nw sv : zS} {an : Bool} {hs : Nat → zS} {ct ln : Nat} {cd : Nat → Int32} {y : Int32} (hok : zOk nw) (h09 : 0 < zMl nw) (hy : zin y 0 (zMl nw - 1) = false) : zRO E yX6_motif wsX6_motif 1 22 [.ref (am 0), .int (y)] (fun H => zMW E am nw sv an hs ct ln cd H) (some (.int (-1))) := by
  refine zRO.ofI (maxL := 2) rfl (Nat.le_of_ble_eq_true rfl) (fun p e s m args below meth c H Q hF hP hret ls hl => ?_)
  have S : CallFix p m c cX6_motif 2 s args wsX6_motif RX6 := hF.1
  have hG := hF.2
  obtain ⟨hx, hb, hml, hown, hts⟩ := id S
  obtain ⟨z, past, kept, buf, rg, td, tm, nb, ⟨h0, h1, h2, h3, h4, h5, h6⟩, hrep, hpa, hke, hbu⟩ := hP
  obtain ⟨r1, rwt, r3, r4, r5, r6, r7⟩ := id hrep
  have hml6 := hok.2.2.2.1
  have hl : lv_has ls 2 [(0, .ref (am 0)), (1, .int (y))] := hl
  have hin6 : ∀ w ∈ u_ws RX6 TX6 11, w ∈ wsX6_motif := by decide +kernel
  refine lv_iload_n hx hb dX6_motif_0 rfl (lv_at hl 1 rfl) ?_
  refine lv_iconst (v := nI (0)) hx hb dX6_motif_1 (by decide) ?_
  refine lv_aload_n hx hb dX6_motif_2 rfl (lv_at hl 0 rfl) ?_
  refine z_get (ref := RX6) (C := RX6) (T := TX6) (N := 11) hx hb hts hin6 hown hG h0 rfl 0 (by decide) (by decide +kernel) rfl rfl dX6_motif_3 ?_
  refine lv_bipush (v := nI (112)) hx hb dX6_motif_6 (by decide) ?_
  refine z_iald (j := 112) hx hb hG h1 ⟨by omega, by omega⟩ dX6_motif_8 ?_
  refine z_top (y := nI (zMl nw)) (r4) ?_
  refine lv_iconst (v := nI (1)) hx hb dX6_motif_9 (by decide) ?_
  refine z_isub hx hb dX6_motif_10 (by omega) ?_
  refine z_roSX (As := [.int (y), .int (nI (0)), .int (nI ((zMl nw) - 1))]) (rest := []) S hG (c_X6_in E) 3 gX6_motif_X6_in rfl kX6_in.2 ⟨Nat.le_of_ble_eq_true rfl, Nat.le_of_ble_eq_true rfl⟩ ⟨Nat.zero_le _, Nat.zero_le _⟩ (trivial) rfl hl.1 rfl rfl (Nat.le_of_ble_eq_true rfl) dX6_motif_11 ?_
  refine z_beq (tgt := 29) hx hb dX6_motif_14 (by decide) (fun c_1 => ?_) (fun c_1 => by exfalso; rw [hy] at c_1; cases c_1)
  refine lv_iconst (v := (-1)) hx hb dX6_motif_29 (by decide) ?_
  exact hret _ _ _ dX6_motif_30 (rfl)

set_option maxHeartbeats 4000000 in
set_option maxRecDepth 100000 in
theorem c_X6_motif_1 (E : zEnv) {am : Nat → Nat} {nw sv : zS} {an : Bool} {hs : Nat → zS} {ct ln : Nat} {cd : Nat → Int32} {j : Nat} (hok : zOk nw) (hj : j < zMl nw) : zRO E yX6_motif wsX6_motif 1 22 [.ref (am 0), .int (nI (j))] (fun H => zMW E am nw sv an hs ct ln cd H) (some (.int (zSg nw j))) := by
  refine zRO.ofI (maxL := 2) rfl (Nat.le_of_ble_eq_true rfl) (fun p e s m args below meth c H Q hF hP hret ls hl => ?_)
  have S : CallFix p m c cX6_motif 2 s args wsX6_motif RX6 := hF.1
  have hG := hF.2
  obtain ⟨hx, hb, hml, hown, hts⟩ := id S
  obtain ⟨z, past, kept, buf, rg, td, tm, nb, ⟨h0, h1, h2, h3, h4, h5, h6⟩, hrep, hpa, hke, hbu⟩ := hP
  obtain ⟨r1, rwt, r3, r4, r5, r6, r7⟩ := id hrep
  have hml6 := hok.2.2.2.1
  have hl : lv_has ls 2 [(0, .ref (am 0)), (1, .int (nI (j)))] := hl
  have hin6 : ∀ w ∈ u_ws RX6 TX6 11, w ∈ wsX6_motif := by decide +kernel
  refine lv_iload_n hx hb dX6_motif_0 rfl (lv_at hl 1 rfl) ?_
  refine lv_iconst (v := nI (0)) hx hb dX6_motif_1 (by decide) ?_
  refine lv_aload_n hx hb dX6_motif_2 rfl (lv_at hl 0 rfl) ?_
  refine z_get (ref := RX6) (C := RX6) (T := TX6) (N := 11) hx hb hts hin6 hown hG h0 rfl 0 (by decide) (by decide +kernel) rfl rfl dX6_motif_3 ?_
  refine lv_bipush (v := nI (112)) hx hb dX6_motif_6 (by decide) ?_
  refine z_iald (j := 112) hx hb hG h1 ⟨by omega, by omega⟩ dX6_motif_8 ?_
  refine z_top (y := nI (zMl nw)) (r4) ?_
  refine lv_iconst (v := nI (1)) hx hb dX6_motif_9 (by decide) ?_
  refine z_isub hx hb dX6_motif_10 (by omega) ?_
  refine z_roSX (As := [.int (nI (j)), .int (nI (0)), .int (nI ((zMl nw) - 1))]) (rest := []) S hG (c_X6_in E) 3 gX6_motif_X6_in rfl kX6_in.2 ⟨Nat.le_of_ble_eq_true rfl, Nat.le_of_ble_eq_true rfl⟩ ⟨Nat.zero_le _, Nat.zero_le _⟩ (trivial) rfl hl.1 rfl rfl (Nat.le_of_ble_eq_true rfl) dX6_motif_11 ?_
  refine z_beq (tgt := 29) hx hb dX6_motif_14 (by decide) (fun c_1 => by exfalso; rw [zin_y (Nat.zero_le _) (by omega) (by omega)] at c_1; cases c_1) (fun c_1 => ?_)
  refine lv_aload_n hx hb dX6_motif_17 rfl (lv_at hl 0 rfl) ?_
  refine z_get (ref := RX6) (C := RX6) (T := TX6) (N := 11) hx hb hts hin6 hown hG h0 rfl 0 (by decide) (by decide +kernel) rfl rfl dX6_motif_18 ?_
  refine lv_bipush (v := nI (113)) hx hb dX6_motif_21 (by decide) ?_
  refine lv_iload_n hx hb dX6_motif_23 rfl (lv_at hl 1 rfl) ?_
  refine z_iadd hx hb dX6_motif_24 ?_
  refine z_iald (j := 113 + j) hx hb hG h1 ⟨by omega, by omega⟩ dX6_motif_25 ?_
  refine z_top (y := (zSg nw j)) (r5 j hj) ?_
  refine lv_goto (tgt := 30) hx hb dX6_motif_26 (by decide) ?_
  exact hret _ _ _ dX6_motif_30 (rfl)

set_option maxHeartbeats 4000000 in
set_option maxRecDepth 100000 in
theorem c_X6_motifAt_0 (E : zEnv) {am : Nat → Nat} {nw sv : zS} {an : Bool} {hs : Nat → zS} {ct ln : Nat} {cd : Nat → Int32} {x : Int32} (hok : zOk nw) (hq : zfnd (zSz nw) x = none) : zRO E yX6_motifAt wsX6_motifAt 4 90 [.ref (am 0), .int (x)] (fun H => zMW E am nw sv an hs ct ln cd H) (some (.int (-1))) := by
  refine zRO.ofI (maxL := 2) rfl (Nat.le_of_ble_eq_true rfl) (fun p e s m args below meth c H Q hF hP hret ls hl => ?_)
  have S : CallFix p m c cX6_motifAt 2 s args wsX6_motifAt RX6 := hF.1
  have hG := hF.2
  obtain ⟨hx, hb, hml, hown, hts⟩ := id S
  obtain ⟨z, past, kept, buf, rg, td, tm, nb, ⟨h0, h1, h2, h3, h4, h5, h6⟩, hrep, hpa, hke, hbu⟩ := hP
  obtain ⟨r1, rwt, r3, r4, r5, r6, r7⟩ := id hrep
  have hl : lv_has ls 2 [(0, .ref (am 0)), (1, .int (x))] := hl
  refine lv_aload_n hx hb dX6_motifAt_0 rfl (lv_at hl 0 rfl) ?_
  refine lv_iload_n hx hb dX6_motifAt_1 rfl (lv_at hl 1 rfl) ?_
  refine z_roV (As := [.int (x)]) (rest := []) (q := (RX6, TX6, 11)) S hG (c_X6_isBracelet_0 E (z := z) (fun t ht => (r3 t ht).1) hok.h16 hq) 1 gX6_motifAt_X6_isBracelet rfl kX6_isBracelet ⟨Nat.le_of_ble_eq_true rfl, Nat.le_of_ble_eq_true rfl⟩ ⟨Nat.zero_le _, Nat.zero_le _⟩ (⟨h0, h1⟩) rfl h0 rfl hl.1 rfl rfl (Nat.le_of_ble_eq_true rfl) dX6_motifAt_2 ?_
  refine z_feq (tgt := 16) hx hb dX6_motifAt_5 (by decide) (by omega) (fun c_1 => ?_) (fun c_1 => by exfalso; omega)
  refine lv_iconst (v := (-1)) hx hb dX6_motifAt_16 (by decide) ?_
  exact hret _ _ _ dX6_motifAt_17 (rfl)

set_option maxHeartbeats 4000000 in
set_option maxRecDepth 100000 in
theorem c_X6_motifAt_1 (E : zEnv) {am : Nat → Nat} {nw sv : zS} {an : Bool} {hs : Nat → zS} {ct ln : Nat} {cd : Nat → Int32} {r : Nat} (hok : zOk nw) (hr : r < 6) (hr0 : zSz nw r ≠ 0) : zRO E yX6_motifAt wsX6_motifAt 4 90 [.ref (am 0), .int (nI (r))] (fun H => zMW E am nw sv an hs ct ln cd H) (some (.int (zset (zmt (zMl nw) (zSg nw) (zSz nw r) (zKd nw r)) (zSz nw r)))) := by
  refine zRO.ofI (maxL := 2) rfl (Nat.le_of_ble_eq_true rfl) (fun p e s m args below meth c H Q hF hP hret ls hl => ?_)
  have S : CallFix p m c cX6_motifAt 2 s args wsX6_motifAt RX6 := hF.1
  have hG := hF.2
  obtain ⟨hx, hb, hml, hown, hts⟩ := id S
  obtain ⟨z, past, kept, buf, rg, td, tm, nb, ⟨h0, h1, h2, h3, h4, h5, h6⟩, hrep, hpa, hke, hbu⟩ := hP
  obtain ⟨r1, rwt, r3, r4, r5, r6, r7⟩ := id hrep
  have hn := hok.sz hr hr0
  have hml6 := hok.2.2.2.1
  have hl : lv_has ls 2 [(0, .ref (am 0)), (1, .int (nI (r)))] := hl
  refine lv_aload_n hx hb dX6_motifAt_0 rfl (lv_at hl 0 rfl) ?_
  refine lv_iload_n hx hb dX6_motifAt_1 rfl (lv_at hl 1 rfl) ?_
  refine z_roV (As := [.int (nI (r))]) (rest := []) (q := (RX6, TX6, 11)) S hG (c_X6_isBracelet_1 E (z := z) hr (hok.sz hr hr0) (r3 r hr).1) 1 gX6_motifAt_X6_isBracelet rfl kX6_isBracelet ⟨Nat.le_of_ble_eq_true rfl, Nat.le_of_ble_eq_true rfl⟩ ⟨Nat.zero_le _, Nat.zero_le _⟩ (⟨h0, h1⟩) rfl h0 rfl hl.1 rfl rfl (Nat.le_of_ble_eq_true rfl) dX6_motifAt_2 ?_
  refine z_feq (tgt := 16) hx hb dX6_motifAt_5 (by decide) (by omega) (fun c_1 => by exfalso; omega) (fun c_1 => ?_)
  refine lv_aload_n hx hb dX6_motifAt_8 rfl (lv_at hl 0 rfl) ?_
  refine lv_iload_n hx hb dX6_motifAt_9 rfl (lv_at hl 1 rfl) ?_
  refine z_roV (As := [.int (nI (r))]) (rest := []) (q := (RX6, TX6, 11)) S hG (c_X6_places E (z := z) (i := r) (n := (zSz nw r)) (f := (zKd nw r)) (ml := zMl nw) (sg := zSg nw) hr hn (r3 r hr) ⟨r4, hml6⟩ r5) 1 gX6_motifAt_X6_places rfl kX6_places ⟨Nat.le_of_ble_eq_true rfl, Nat.le_of_ble_eq_true rfl⟩ ⟨Nat.zero_le _, Nat.zero_le _⟩ (⟨h0, h1⟩) rfl h0 rfl hl.1 rfl rfl (Nat.le_of_ble_eq_true rfl) dX6_motifAt_10 ?_
  refine lv_goto (tgt := 17) hx hb dX6_motifAt_13 (by decide) ?_
  exact hret _ _ _ dX6_motifAt_17 (rfl)

set_option maxHeartbeats 4000000 in
set_option maxRecDepth 100000 in
theorem c_X6_staysAt_0 (E : zEnv) {am : Nat → Nat} {nw sv : zS} {an : Bool} {hs : Nat → zS} {ct ln : Nat} {cd : Nat → Int32} {x : Int32} (hok : zOk nw) (hq : zfnd (zSz nw) x = none) : zRO E yX6_staysAt wsX6_staysAt 4 90 [.ref (am 0), .int (x)] (fun H => zMW E am nw sv an hs ct ln cd H) (some (.int (-1))) := by
  refine zRO.ofI (maxL := 7) rfl (Nat.le_of_ble_eq_true rfl) (fun p e s m args below meth c H Q hF hP hret ls hl => ?_)
  have S : CallFix p m c cX6_staysAt 7 s args wsX6_staysAt RX6 := hF.1
  have hG := hF.2
  obtain ⟨hx, hb, hml, hown, hts⟩ := id S
  obtain ⟨z, past, kept, buf, rg, td, tm, nb, ⟨h0, h1, h2, h3, h4, h5, h6⟩, hrep, hpa, hke, hbu⟩ := hP
  obtain ⟨r1, rwt, r3, r4, r5, r6, r7⟩ := id hrep
  have hl : lv_has ls 7 [(0, .ref (am 0)), (1, .int (x))] := hl
  refine lv_aload_n hx hb dX6_staysAt_0 rfl (lv_at hl 0 rfl) ?_
  refine lv_iload_n hx hb dX6_staysAt_1 rfl (lv_at hl 1 rfl) ?_
  refine z_roV (As := [.int (x)]) (rest := []) (q := (RX6, TX6, 11)) S hG (c_X6_isBracelet_0 E (z := z) (fun t ht => (r3 t ht).1) hok.h16 hq) 1 gX6_staysAt_X6_isBracelet rfl kX6_isBracelet ⟨Nat.le_of_ble_eq_true rfl, Nat.le_of_ble_eq_true rfl⟩ ⟨Nat.zero_le _, Nat.zero_le _⟩ (⟨h0, h1⟩) rfl h0 rfl hl.1 rfl rfl (Nat.le_of_ble_eq_true rfl) dX6_staysAt_2 ?_
  refine z_fne (tgt := 10) hx hb dX6_staysAt_5 (by decide) (by omega) (fun c_1 => by exfalso; omega) (fun c_1 => ?_)
  refine lv_iconst (v := (-1)) hx hb dX6_staysAt_8 (by decide) ?_
  exact hret _ _ _ dX6_staysAt_9 (rfl)

set_option maxHeartbeats 4000000 in
set_option maxRecDepth 100000 in
theorem c_X6_staysAt_1 (E : zEnv) {am : Nat → Nat} {nw sv : zS} {an : Bool} {hs : Nat → zS} {ct ln : Nat} {cd : Nat → Int32} {r : Nat} (hok : zOk nw) (hr : r < 6) (hr0 : zSz nw r ≠ 0) : zRO E yX6_staysAt wsX6_staysAt 4 90 [.ref (am 0), .int (nI (r))] (fun H => zMW E am nw sv an hs ct ln cd H) (some (.int (zset (fun s9 => zsta (zset (zmt (zMl nw) (zSg nw) (zSz nw r) (zKd nw r)) (zSz nw r)) (zSz nw r) s9 4) (zSz nw r)))) := by
  refine zRO.ofI (maxL := 7) rfl (Nat.le_of_ble_eq_true rfl) (fun p e s m args below meth c H Q hF hP hret ls hl => ?_)
  have S : CallFix p m c cX6_staysAt 7 s args wsX6_staysAt RX6 := hF.1
  have hG := hF.2
  obtain ⟨hx, hb, hml, hown, hts⟩ := id S
  obtain ⟨z, past, kept, buf, rg, td, tm, nb, ⟨h0, h1, h2, h3, h4, h5, h6⟩, hrep, hpa, hke, hbu⟩ := hP
  obtain ⟨r1, rwt, r3, r4, r5, r6, r7⟩ := id hrep
  have hn := hok.sz hr hr0
  have hml6 := hok.2.2.2.1
  have hl : lv_has ls 7 [(0, .ref (am 0)), (1, .int (nI (r)))] := hl
  refine lv_aload_n hx hb dX6_staysAt_0 rfl (lv_at hl 0 rfl) ?_
  refine lv_iload_n hx hb dX6_staysAt_1 rfl (lv_at hl 1 rfl) ?_
  refine z_roV (As := [.int (nI (r))]) (rest := []) (q := (RX6, TX6, 11)) S hG (c_X6_isBracelet_1 E (z := z) hr (hok.sz hr hr0) (r3 r hr).1) 1 gX6_staysAt_X6_isBracelet rfl kX6_isBracelet ⟨Nat.le_of_ble_eq_true rfl, Nat.le_of_ble_eq_true rfl⟩ ⟨Nat.zero_le _, Nat.zero_le _⟩ (⟨h0, h1⟩) rfl h0 rfl hl.1 rfl rfl (Nat.le_of_ble_eq_true rfl) dX6_staysAt_2 ?_
  refine z_fne (tgt := 10) hx hb dX6_staysAt_5 (by decide) (by omega) (fun c_1 => ?_) (fun c_1 => by exfalso; omega)
  refine lv_aload_n hx hb dX6_staysAt_10 rfl (lv_at hl 0 rfl) ?_
  refine lv_iload_n hx hb dX6_staysAt_11 rfl (lv_at hl 1 rfl) ?_
  refine z_roV (As := [.int (nI (r))]) (rest := []) (q := (RX6, TX6, 11)) S hG (c_X6_places E (z := z) (i := r) (n := (zSz nw r)) (f := (zKd nw r)) (ml := zMl nw) (sg := zSg nw) hr hn (r3 r hr) ⟨r4, hml6⟩ r5) 1 gX6_staysAt_X6_places rfl kX6_places ⟨Nat.le_of_ble_eq_true rfl, Nat.le_of_ble_eq_true rfl⟩ ⟨Nat.zero_le _, Nat.zero_le _⟩ (⟨h0, h1⟩) rfl h0 rfl hl.1 rfl rfl (Nat.le_of_ble_eq_true rfl) dX6_staysAt_12 ?_
  refine lv_istore_n (lv' := [(2, .int (zset (zmt (zMl nw) (zSg nw) (zSz nw r) (zKd nw r)) (zSz nw r))), (0, .ref (am 0)), (1, .int (nI (r)))]) hx hb dX6_staysAt_15 rfl hl (by decide) rfl (fun ls hl => ?_)
  refine lv_iconst (v := nI (0)) hx hb dX6_staysAt_16 (by decide) ?_
  refine lv_istore_n (lv' := [(3, .int (nI (0))), (2, .int (zset (zmt (zMl nw) (zSg nw) (zSz nw r) (zKd nw r)) (zSz nw r))), (0, .ref (am 0)), (1, .int (nI (r)))]) hx hb dX6_staysAt_17 rfl hl (by decide) rfl (fun ls hl => ?_)
  refine lv_iconst (v := nI (0)) hx hb dX6_staysAt_18 (by decide) ?_
  refine lv_istore (lv' := [(4, .int (nI (0))), (3, .int (nI (0))), (2, .int (zset (zmt (zMl nw) (zSg nw) (zSz nw r) (zKd nw r)) (zSz nw r))), (0, .ref (am 0)), (1, .int (nI (r)))]) hx hb dX6_staysAt_19 hl (by decide) rfl (fun ls hl => ?_)
  have L21 : ∀ (dd : Nat) (i : Nat), (zSz nw r) - i < dd → (i ≤ (zSz nw r)) → ∀ (ls : Array Slot), lv_has ls 7 [(0, .ref (am 0)), (1, .int (nI (r))), (2, .int (zset (zmt (zMl nw) (zSg nw) (zSz nw r) (zKd nw r)) (zSz nw r))), (3, .int (zset (fun s9 => zsta (zset (zmt (zMl nw) (zSg nw) (zSz nw r) (zKd nw r)) (zSz nw r)) (zSz nw r) s9 4) i)), (4, .int (nI (i)))] → W p (zl E) e (zRm 4 90) s m args below meth c H [] 0 0 Q (F0 m 21 ls []) := by
    intro dd
    induction dd with
    | zero => intro i hdd; exact absurd hdd (Nat.not_lt_zero _)
    | succ dd ih21 =>
      intro i hdd21 hi ls hl
      refine lv_iload hx hb dX6_staysAt_21 (lv_at hl 4 rfl) ?_
      refine lv_aload_n hx hb dX6_staysAt_23 rfl (lv_at hl 0 rfl) ?_
      refine lv_iload_n hx hb dX6_staysAt_24 rfl (lv_at hl 1 rfl) ?_
      refine z_roV (As := [.int (nI (r))]) (rest := [.int (nI (i))]) (q := (RX6, TX6, 11)) S hG (c_X6_slots E (z := z) (i := r) (n := (zSz nw r)) hr (r3 r hr).1) 1 gX6_staysAt_X6_slots rfl kX6_slots ⟨Nat.le_of_ble_eq_true rfl, Nat.le_of_ble_eq_true rfl⟩ ⟨Nat.zero_le _, Nat.zero_le _⟩ (⟨h0, h1⟩) rfl h0 rfl hl.1 rfl rfl (Nat.le_of_ble_eq_true rfl) dX6_staysAt_25 ?_
      refine z_cge (tgt := 110) hx hb dX6_staysAt_28 (by decide) ⟨by omega, by omega⟩ (fun c_2 => ?_) (fun c_2 => ?_)
      · refine lv_iload_n hx hb dX6_staysAt_110 rfl (lv_at hl 3 rfl) ?_
        exact hret _ _ _ dX6_staysAt_111 (by rw [show i = (zSz nw r) by omega])
      · refine lv_iconst (v := nI (1)) hx hb dX6_staysAt_31 (by decide) ?_
        refine lv_istore (lv' := [(5, .int (nI (1))), (0, .ref (am 0)), (1, .int (nI (r))), (2, .int (zset (zmt (zMl nw) (zSg nw) (zSz nw r) (zKd nw r)) (zSz nw r))), (3, .int (zset (fun s9 => zsta (zset (zmt (zMl nw) (zSg nw) (zSz nw r) (zKd nw r)) (zSz nw r)) (zSz nw r) s9 4) i)), (4, .int (nI (i)))]) hx hb dX6_staysAt_32 hl (by decide) rfl (fun ls hl => ?_)
        refine lv_iconst (v := nI (0)) hx hb dX6_staysAt_34 (by decide) ?_
        refine lv_istore (lv' := [(6, .int (nI (0))), (5, .int (nI (1))), (0, .ref (am 0)), (1, .int (nI (r))), (2, .int (zset (zmt (zMl nw) (zSg nw) (zSz nw r) (zKd nw r)) (zSz nw r))), (3, .int (zset (fun s9 => zsta (zset (zmt (zMl nw) (zSg nw) (zSz nw r) (zKd nw r)) (zSz nw r)) (zSz nw r) s9 4) i)), (4, .int (nI (i)))]) hx hb dX6_staysAt_35 hl (by decide) rfl (fun ls hl => ?_)
        have L37 : ∀ (dd : Nat) (q : Nat), 4 - q < dd → (q ≤ 4) → ∀ (ls : Array Slot), lv_has ls 7 [(0, .ref (am 0)), (1, .int (nI (r))), (2, .int (zset (zmt (zMl nw) (zSg nw) (zSz nw r) (zKd nw r)) (zSz nw r))), (3, .int (zset (fun s9 => zsta (zset (zmt (zMl nw) (zSg nw) (zSz nw r) (zKd nw r)) (zSz nw r)) (zSz nw r) s9 4) i)), (4, .int (nI (i))), (5, .int (zb (zsta (zset (zmt (zMl nw) (zSg nw) (zSz nw r) (zKd nw r)) (zSz nw r)) (zSz nw r) i q))), (6, .int (nI (q)))] → W p (zl E) e (zRm 4 90) s m args below meth c H [] 0 0 Q (F0 m 37 ls []) := by
          intro dd
          induction dd with
          | zero => intro q hdd; exact absurd hdd (Nat.not_lt_zero _)
          | succ dd ih37 =>
            intro q hdd37 hq4 ls hl
            refine lv_iload hx hb dX6_staysAt_37 (lv_at hl 6 rfl) ?_
            refine lv_iconst (v := nI (4)) hx hb dX6_staysAt_39 (by decide) ?_
            refine z_cge (tgt := 88) hx hb dX6_staysAt_40 (by decide) ⟨by omega, by omega⟩ (fun c_3 => ?_) (fun c_3 => ?_)
            · refine lv_iload_n hx hb dX6_staysAt_88 rfl (lv_at hl 3 rfl) ?_
              refine lv_iload hx hb dX6_staysAt_89 (lv_at hl 5 rfl) ?_
              refine z_beq (tgt := 101) hx hb dX6_staysAt_91 (by decide) (fun c_4 => ?_) (fun c_4 => ?_)
              · refine lv_iconst (v := nI (0)) hx hb dX6_staysAt_101 (by decide) ?_
                refine lv_ior hx hb dX6_staysAt_102 ?_
                refine lv_istore_n (lv' := [(3, .int ((zset (fun s9 => zsta (zset (zmt (zMl nw) (zSg nw) (zSz nw r) (zKd nw r)) (zSz nw r)) (zSz nw r) s9 4) i) ||| nI (0))), (0, .ref (am 0)), (1, .int (nI (r))), (2, .int (zset (zmt (zMl nw) (zSg nw) (zSz nw r) (zKd nw r)) (zSz nw r))), (4, .int (nI (i))), (5, .int (zb (zsta (zset (zmt (zMl nw) (zSg nw) (zSz nw r) (zKd nw r)) (zSz nw r)) (zSz nw r) i q))), (6, .int (nI (q)))]) hx hb dX6_staysAt_103 rfl hl (by decide) rfl (fun ls hl => ?_)
                refine lv_iinc (v := nI (i + 1)) (lv' := [(4, .int (nI (i + 1))), (3, .int ((zset (fun s9 => zsta (zset (zmt (zMl nw) (zSg nw) (zSz nw r) (zKd nw r)) (zSz nw r)) (zSz nw r) s9 4) i) ||| nI (0))), (0, .ref (am 0)), (1, .int (nI (r))), (2, .int (zset (zmt (zMl nw) (zSg nw) (zSz nw r) (zKd nw r)) (zSz nw r))), (5, .int (zb (zsta (zset (zmt (zMl nw) (zSg nw) (zSz nw r) (zKd nw r)) (zSz nw r)) (zSz nw r) i q))), (6, .int (nI (q)))]) hx hb dX6_staysAt_104 hl (k := 4) rfl (z_inc1 _) (by decide) rfl (fun ls hl => ?_)
                refine lv_goto (tgt := 21) hx hb dX6_staysAt_107 (by decide) ?_
                have hl9 := lv_sub hl [2, 3, 4, 1, 0] (l' := [(0, .ref (am 0)), (1, .int (nI (r))), (2, .int (zset (zmt (zMl nw) (zSg nw) (zSz nw r) (zKd nw r)) (zSz nw r))), (3, .int ((zset (fun s9 => zsta (zset (zmt (zMl nw) (zSg nw) (zSz nw r) (zKd nw r)) (zSz nw r)) (zSz nw r) s9 4) i) ||| nI (0))), (4, .int (nI (i + 1)))]) rfl
                have e9_3 : ((zset (fun s9 => zsta (zset (zmt (zMl nw) (zSg nw) (zSz nw r) (zKd nw r)) (zSz nw r)) (zSz nw r) s9 4) i) ||| nI (0)) = (zset (fun s9 => zsta (zset (zmt (zMl nw) (zSg nw) (zSz nw r) (zKd nw r)) (zSz nw r)) (zSz nw r) s9 4) (i + 1)) := by rw [show q = 4 by omega] at c_4; first | exact zset_z (p := (fun s9 => zsta (zset (zmt (zMl nw) (zSg nw) (zSz nw r) (zKd nw r)) (zSz nw r)) (zSz nw r) s9 4)) c_4 | exact zset_t (p := (fun s9 => zsta (zset (zmt (zMl nw) (zSg nw) (zSz nw r) (zKd nw r)) (zSz nw r)) (zSz nw r) s9 4)) c_4
                have e9_4 : (i + 1) = ((i + 1)) := by omega
                exact ih21 (i + 1) (by omega) (by omega) ls (by rw [← e9_3, ← e9_4]; exact hl9)
              · refine lv_iconst (v := nI (1)) hx hb dX6_staysAt_94 (by decide) ?_
                refine lv_iload hx hb dX6_staysAt_95 (lv_at hl 4 rfl) ?_
                refine lv_ishl hx hb dX6_staysAt_97 ?_
                refine lv_goto (tgt := 102) hx hb dX6_staysAt_98 (by decide) ?_
                refine lv_ior hx hb dX6_staysAt_102 ?_
                refine lv_istore_n (lv' := [(3, .int ((zset (fun s9 => zsta (zset (zmt (zMl nw) (zSg nw) (zSz nw r) (zKd nw r)) (zSz nw r)) (zSz nw r) s9 4) i) ||| (nI (1) <<< (nI (i) &&& 31)))), (0, .ref (am 0)), (1, .int (nI (r))), (2, .int (zset (zmt (zMl nw) (zSg nw) (zSz nw r) (zKd nw r)) (zSz nw r))), (4, .int (nI (i))), (5, .int (zb (zsta (zset (zmt (zMl nw) (zSg nw) (zSz nw r) (zKd nw r)) (zSz nw r)) (zSz nw r) i q))), (6, .int (nI (q)))]) hx hb dX6_staysAt_103 rfl hl (by decide) rfl (fun ls hl => ?_)
                refine lv_iinc (v := nI (i + 1)) (lv' := [(4, .int (nI (i + 1))), (3, .int ((zset (fun s9 => zsta (zset (zmt (zMl nw) (zSg nw) (zSz nw r) (zKd nw r)) (zSz nw r)) (zSz nw r) s9 4) i) ||| (nI (1) <<< (nI (i) &&& 31)))), (0, .ref (am 0)), (1, .int (nI (r))), (2, .int (zset (zmt (zMl nw) (zSg nw) (zSz nw r) (zKd nw r)) (zSz nw r))), (5, .int (zb (zsta (zset (zmt (zMl nw) (zSg nw) (zSz nw r) (zKd nw r)) (zSz nw r)) (zSz nw r) i q))), (6, .int (nI (q)))]) hx hb dX6_staysAt_104 hl (k := 4) rfl (z_inc1 _) (by decide) rfl (fun ls hl => ?_)
                refine lv_goto (tgt := 21) hx hb dX6_staysAt_107 (by decide) ?_
                have hl9 := lv_sub hl [2, 3, 4, 1, 0] (l' := [(0, .ref (am 0)), (1, .int (nI (r))), (2, .int (zset (zmt (zMl nw) (zSg nw) (zSz nw r) (zKd nw r)) (zSz nw r))), (3, .int ((zset (fun s9 => zsta (zset (zmt (zMl nw) (zSg nw) (zSz nw r) (zKd nw r)) (zSz nw r)) (zSz nw r) s9 4) i) ||| (nI (1) <<< (nI (i) &&& 31)))), (4, .int (nI (i + 1)))]) rfl
                have e9_3 : ((zset (fun s9 => zsta (zset (zmt (zMl nw) (zSg nw) (zSz nw r) (zKd nw r)) (zSz nw r)) (zSz nw r) s9 4) i) ||| (nI (1) <<< (nI (i) &&& 31))) = (zset (fun s9 => zsta (zset (zmt (zMl nw) (zSg nw) (zSz nw r) (zKd nw r)) (zSz nw r)) (zSz nw r) s9 4) (i + 1)) := by rw [show q = 4 by omega] at c_4; first | exact zset_z (p := (fun s9 => zsta (zset (zmt (zMl nw) (zSg nw) (zSz nw r) (zKd nw r)) (zSz nw r)) (zSz nw r) s9 4)) c_4 | exact zset_t (p := (fun s9 => zsta (zset (zmt (zMl nw) (zSg nw) (zSz nw r) (zKd nw r)) (zSz nw r)) (zSz nw r) s9 4)) c_4
                have e9_4 : (i + 1) = ((i + 1)) := by omega
                exact ih21 (i + 1) (by omega) (by omega) ls (by rw [← e9_3, ← e9_4]; exact hl9)
            · refine lv_iload hx hb dX6_staysAt_43 (lv_at hl 5 rfl) ?_
              refine z_beq (tgt := 79) hx hb dX6_staysAt_45 (by decide) (fun c_5 => ?_) (fun c_5 => ?_)
              · refine lv_iconst (v := nI (0)) hx hb dX6_staysAt_79 (by decide) ?_
                refine lv_istore (lv' := [(5, .int (nI (0))), (0, .ref (am 0)), (1, .int (nI (r))), (2, .int (zset (zmt (zMl nw) (zSg nw) (zSz nw r) (zKd nw r)) (zSz nw r))), (3, .int (zset (fun s9 => zsta (zset (zmt (zMl nw) (zSg nw) (zSz nw r) (zKd nw r)) (zSz nw r)) (zSz nw r) s9 4) i)), (4, .int (nI (i))), (6, .int (nI (q)))]) hx hb dX6_staysAt_80 hl (by decide) rfl (fun ls hl => ?_)
                refine lv_iinc (v := nI (q + 1)) (lv' := [(6, .int (nI (q + 1))), (5, .int (nI (0))), (0, .ref (am 0)), (1, .int (nI (r))), (2, .int (zset (zmt (zMl nw) (zSg nw) (zSz nw r) (zKd nw r)) (zSz nw r))), (3, .int (zset (fun s9 => zsta (zset (zmt (zMl nw) (zSg nw) (zSz nw r) (zKd nw r)) (zSz nw r)) (zSz nw r) s9 4) i)), (4, .int (nI (i)))]) hx hb dX6_staysAt_82 hl (k := 6) rfl (z_inc1 _) (by decide) rfl (fun ls hl => ?_)
                refine lv_goto (tgt := 37) hx hb dX6_staysAt_85 (by decide) ?_
                have hl9 := lv_sub hl [2, 3, 4, 5, 6, 1, 0] (l' := [(0, .ref (am 0)), (1, .int (nI (r))), (2, .int (zset (zmt (zMl nw) (zSg nw) (zSz nw r) (zKd nw r)) (zSz nw r))), (3, .int (zset (fun s9 => zsta (zset (zmt (zMl nw) (zSg nw) (zSz nw r) (zKd nw r)) (zSz nw r)) (zSz nw r) s9 4) i)), (4, .int (nI (i))), (5, .int (nI (0))), (6, .int (nI (q + 1)))]) rfl
                have e9_5 : (nI (0)) = (zb (zsta (zset (zmt (zMl nw) (zSg nw) (zSz nw r) (zKd nw r)) (zSz nw r)) (zSz nw r) i (q + 1))) := by first | exact zb_f (zall_f1 (p := (fun q9 => decide ((zset (zmt (zMl nw) (zSg nw) (zSz nw r) (zKd nw r)) (zSz nw r)) >>> (nI ((i + q9 * (zSz nw r) / 4) % (zSz nw r)) &&& 31) &&& nI 1 = nI 1))) c_5) | exact zb_f (zall_f2 (p := (fun q9 => decide ((zset (zmt (zMl nw) (zSg nw) (zSz nw r) (zKd nw r)) (zSz nw r)) >>> (nI ((i + q9 * (zSz nw r) / 4) % (zSz nw r)) &&& 31) &&& nI 1 = nI 1))) (decide_eq_false c_5))
                have e9_6 : (q + 1) = ((q + 1)) := by omega
                exact ih37 (q + 1) (by omega) (by omega) ls (by rw [← e9_5, ← e9_6]; exact hl9)
              · refine lv_iload_n hx hb dX6_staysAt_48 rfl (lv_at hl 2 rfl) ?_
                refine lv_iload hx hb dX6_staysAt_49 (lv_at hl 4 rfl) ?_
                refine lv_iload hx hb dX6_staysAt_51 (lv_at hl 6 rfl) ?_
                refine lv_aload_n hx hb dX6_staysAt_53 rfl (lv_at hl 0 rfl) ?_
                refine lv_iload_n hx hb dX6_staysAt_54 rfl (lv_at hl 1 rfl) ?_
                refine z_roV (As := [.int (nI (r))]) (rest := [.int (nI (q)), .int (nI (i)), .int (zset (zmt (zMl nw) (zSg nw) (zSz nw r) (zKd nw r)) (zSz nw r))]) (q := (RX6, TX6, 11)) S hG (c_X6_slots E (z := z) (i := r) (n := (zSz nw r)) hr (r3 r hr).1) 1 gX6_staysAt_X6_slots rfl kX6_slots ⟨Nat.le_of_ble_eq_true rfl, Nat.le_of_ble_eq_true rfl⟩ ⟨Nat.zero_le _, Nat.zero_le _⟩ (⟨h0, h1⟩) rfl h0 rfl hl.1 rfl rfl (Nat.le_of_ble_eq_true rfl) dX6_staysAt_55 ?_
                have hb9 : q * (zSz nw r) ≤ 3 * (zSz nw r) := Nat.mul_le_mul_right _ (by omega)
                refine z_imul hx hb dX6_staysAt_58 ?_
                refine lv_iconst (v := nI (4)) hx hb dX6_staysAt_59 (by decide) ?_
                refine z_idiv hx hb dX6_staysAt_60 ⟨by omega, by omega, by omega⟩ ?_
                refine z_iadd hx hb dX6_staysAt_61 ?_
                refine lv_aload_n hx hb dX6_staysAt_62 rfl (lv_at hl 0 rfl) ?_
                refine lv_iload_n hx hb dX6_staysAt_63 rfl (lv_at hl 1 rfl) ?_
                refine z_roV (As := [.int (nI (r))]) (rest := [.int (nI (i + ((q * (zSz nw r)) / 4))), .int (zset (zmt (zMl nw) (zSg nw) (zSz nw r) (zKd nw r)) (zSz nw r))]) (q := (RX6, TX6, 11)) S hG (c_X6_slots E (z := z) (i := r) (n := (zSz nw r)) hr (r3 r hr).1) 1 gX6_staysAt_X6_slots rfl kX6_slots ⟨Nat.le_of_ble_eq_true rfl, Nat.le_of_ble_eq_true rfl⟩ ⟨Nat.zero_le _, Nat.zero_le _⟩ (⟨h0, h1⟩) rfl h0 rfl hl.1 rfl rfl (Nat.le_of_ble_eq_true rfl) dX6_staysAt_64 ?_
                refine z_irem hx hb dX6_staysAt_67 ⟨by omega, by omega, by omega⟩ ?_
                refine lv_ishr hx hb dX6_staysAt_68 ?_
                refine lv_iconst (v := nI (1)) hx hb dX6_staysAt_69 (by decide) ?_
                refine lv_iand hx hb dX6_staysAt_70 ?_
                refine lv_iconst (v := nI (1)) hx hb dX6_staysAt_71 (by decide) ?_
                refine lv_icmp_ne (tgt := 79) hx hb dX6_staysAt_72 (by decide) (fun c_6 => ?_) (fun c_6 => ?_)
                · refine lv_iconst (v := nI (0)) hx hb dX6_staysAt_79 (by decide) ?_
                  refine lv_istore (lv' := [(5, .int (nI (0))), (0, .ref (am 0)), (1, .int (nI (r))), (2, .int (zset (zmt (zMl nw) (zSg nw) (zSz nw r) (zKd nw r)) (zSz nw r))), (3, .int (zset (fun s9 => zsta (zset (zmt (zMl nw) (zSg nw) (zSz nw r) (zKd nw r)) (zSz nw r)) (zSz nw r) s9 4) i)), (4, .int (nI (i))), (6, .int (nI (q)))]) hx hb dX6_staysAt_80 hl (by decide) rfl (fun ls hl => ?_)
                  refine lv_iinc (v := nI (q + 1)) (lv' := [(6, .int (nI (q + 1))), (5, .int (nI (0))), (0, .ref (am 0)), (1, .int (nI (r))), (2, .int (zset (zmt (zMl nw) (zSg nw) (zSz nw r) (zKd nw r)) (zSz nw r))), (3, .int (zset (fun s9 => zsta (zset (zmt (zMl nw) (zSg nw) (zSz nw r) (zKd nw r)) (zSz nw r)) (zSz nw r) s9 4) i)), (4, .int (nI (i)))]) hx hb dX6_staysAt_82 hl (k := 6) rfl (z_inc1 _) (by decide) rfl (fun ls hl => ?_)
                  refine lv_goto (tgt := 37) hx hb dX6_staysAt_85 (by decide) ?_
                  have hl9 := lv_sub hl [2, 3, 4, 5, 6, 1, 0] (l' := [(0, .ref (am 0)), (1, .int (nI (r))), (2, .int (zset (zmt (zMl nw) (zSg nw) (zSz nw r) (zKd nw r)) (zSz nw r))), (3, .int (zset (fun s9 => zsta (zset (zmt (zMl nw) (zSg nw) (zSz nw r) (zKd nw r)) (zSz nw r)) (zSz nw r) s9 4) i)), (4, .int (nI (i))), (5, .int (nI (0))), (6, .int (nI (q + 1)))]) rfl
                  have e9_5 : (nI (0)) = (zb (zsta (zset (zmt (zMl nw) (zSg nw) (zSz nw r) (zKd nw r)) (zSz nw r)) (zSz nw r) i (q + 1))) := by first | exact zb_f (zall_f1 (p := (fun q9 => decide ((zset (zmt (zMl nw) (zSg nw) (zSz nw r) (zKd nw r)) (zSz nw r)) >>> (nI ((i + q9 * (zSz nw r) / 4) % (zSz nw r)) &&& 31) &&& nI 1 = nI 1))) c_6) | exact zb_f (zall_f2 (p := (fun q9 => decide ((zset (zmt (zMl nw) (zSg nw) (zSz nw r) (zKd nw r)) (zSz nw r)) >>> (nI ((i + q9 * (zSz nw r) / 4) % (zSz nw r)) &&& 31) &&& nI 1 = nI 1))) (decide_eq_false c_6))
                  have e9_6 : (q + 1) = ((q + 1)) := by omega
                  exact ih37 (q + 1) (by omega) (by omega) ls (by rw [← e9_5, ← e9_6]; exact hl9)
                · refine lv_iconst (v := nI (1)) hx hb dX6_staysAt_75 (by decide) ?_
                  refine lv_goto (tgt := 80) hx hb dX6_staysAt_76 (by decide) ?_
                  refine lv_istore (lv' := [(5, .int (nI (1))), (0, .ref (am 0)), (1, .int (nI (r))), (2, .int (zset (zmt (zMl nw) (zSg nw) (zSz nw r) (zKd nw r)) (zSz nw r))), (3, .int (zset (fun s9 => zsta (zset (zmt (zMl nw) (zSg nw) (zSz nw r) (zKd nw r)) (zSz nw r)) (zSz nw r) s9 4) i)), (4, .int (nI (i))), (6, .int (nI (q)))]) hx hb dX6_staysAt_80 hl (by decide) rfl (fun ls hl => ?_)
                  refine lv_iinc (v := nI (q + 1)) (lv' := [(6, .int (nI (q + 1))), (5, .int (nI (1))), (0, .ref (am 0)), (1, .int (nI (r))), (2, .int (zset (zmt (zMl nw) (zSg nw) (zSz nw r) (zKd nw r)) (zSz nw r))), (3, .int (zset (fun s9 => zsta (zset (zmt (zMl nw) (zSg nw) (zSz nw r) (zKd nw r)) (zSz nw r)) (zSz nw r) s9 4) i)), (4, .int (nI (i)))]) hx hb dX6_staysAt_82 hl (k := 6) rfl (z_inc1 _) (by decide) rfl (fun ls hl => ?_)
                  refine lv_goto (tgt := 37) hx hb dX6_staysAt_85 (by decide) ?_
                  have hl9 := lv_sub hl [2, 3, 4, 5, 6, 1, 0] (l' := [(0, .ref (am 0)), (1, .int (nI (r))), (2, .int (zset (zmt (zMl nw) (zSg nw) (zSz nw r) (zKd nw r)) (zSz nw r))), (3, .int (zset (fun s9 => zsta (zset (zmt (zMl nw) (zSg nw) (zSz nw r) (zKd nw r)) (zSz nw r)) (zSz nw r) s9 4) i)), (4, .int (nI (i))), (5, .int (nI (1))), (6, .int (nI (q + 1)))]) rfl
                  have e9_5 : (nI (1)) = (zb (zsta (zset (zmt (zMl nw) (zSg nw) (zSz nw r) (zKd nw r)) (zSz nw r)) (zSz nw r) i (q + 1))) := zb_t (zall_t (p := (fun q9 => decide ((zset (zmt (zMl nw) (zSg nw) (zSz nw r) (zKd nw r)) (zSz nw r)) >>> (nI ((i + q9 * (zSz nw r) / 4) % (zSz nw r)) &&& 31) &&& nI 1 = nI 1))) c_5 (decide_eq_true c_6))
                  have e9_6 : (q + 1) = ((q + 1)) := by omega
                  exact ih37 (q + 1) (by omega) (by omega) ls (by rw [← e9_5, ← e9_6]; exact hl9)
        exact L37 ((4 - (0)) + 1) (0) (Nat.lt_succ_self _) (Nat.zero_le _) ls (lv_sub hl [2, 3, 4, 5, 6, 1, 0] rfl)
  exact L21 (((zSz nw r) - (0)) + 1) (0) (Nat.lt_succ_self _) (Nat.zero_le _) ls (lv_sub hl [3, 4, 2, 1, 0] rfl)
