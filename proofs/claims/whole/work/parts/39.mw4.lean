set_option maxHeartbeats 4000000 in
set_option maxRecDepth 100000 in
theorem c_X6_setMotif_0 (E : zEnv) {am : Nat → Nat} {nw sv : zS} {an : Bool} {hs : Nat → zS} {ct ln : Nat} {cd : Nat → Int32} {x y w : Int32} (hok : zOk nw) (hinj : zInM am) (hct : ct ≤ 5) (hq : zfnd (zSz nw) x = none) : zWR E yX6_setMotif wsX6_setMotif 5 119 [.ref (am 0), .int (x), .int (y), .int (w)] (fun H => zMW E am nw sv an hs ct ln cd H) (some (.int (-1))) (fun H => zMW E am nw sv an hs ct ln cd H) (zAM am) := by
  refine zWR.ofI (maxL := 6) rfl (Nat.le_of_ble_eq_true rfl) (fun p e s m args below meth c H Q hF hP hret ls hl => ?_)
  have S : CallFix p m c cX6_setMotif 6 s args wsX6_setMotif RX6 := hF.1
  have hG := hF.2
  obtain ⟨hx, hb, hml, hown, hts⟩ := id S
  have hS : va_S (zAM am) H H [] := va_S.rf
  obtain ⟨locs, hlocs⟩ : ∃ x : List Loc, x = [] := ⟨_, rfl⟩
  rw [← hlocs] at hS ⊢
  have hz : H.size = H.size := rfl
  obtain ⟨z, past, kept, buf, rg, td, tm, nb, ⟨h0, h1, h2, h3, h4, h5, h6⟩, hrep, hpa, hke, hbu⟩ := hP
  obtain ⟨r1, rwt, r3, r4, r5, r6, r7⟩ := id hrep
  have hl : lv_has ls 6 [(0, .ref (am 0)), (1, .int (x)), (2, .int (y)), (3, .int (w))] := hl
  have hin6 : ∀ w ∈ u_ws RX6 TX6 11, w ∈ wsX6_setMotif := by decide +kernel
  refine lv_aload_n hx hb dX6_setMotif_0 rfl (lv_at hl 0 rfl) ?_
  refine lv_iload_n hx hb dX6_setMotif_1 rfl (lv_at hl 1 rfl) ?_
  refine lv_iload_n hx hb dX6_setMotif_2 rfl (lv_at hl 2 rfl) ?_
  refine z_roV (As := [.int (x), .int (y)]) (rest := []) (q := (RX6, TX6, 11)) S hG (c_X6_isSlot_0 E (z := z) (fun t ht => (r3 t ht).1) hok.h16 hq) 2 gX6_setMotif_X6_isSlot rfl kX6_isSlot ⟨Nat.le_of_ble_eq_true rfl, Nat.le_of_ble_eq_true rfl⟩ ⟨Nat.zero_le _, Nat.zero_le _⟩ (⟨h0, h1⟩) rfl h0 rfl hl.1 rfl rfl (Nat.le_of_ble_eq_true rfl) dX6_setMotif_3 ?_
  refine z_fne (tgt := 11) hx hb dX6_setMotif_6 (by decide) (by omega) (fun c_1 => by exfalso; omega) (fun c_1 => ?_)
  refine lv_iconst (v := (-1)) hx hb dX6_setMotif_9 (by decide) ?_
  exact hret _ _ _ _ _ hS (hz) dX6_setMotif_10 (rfl) (⟨_, _, _, _, _, _, _, _, ⟨h0, h1, h2, h3, h4, h5, h6⟩, hrep, hpa, hke, hbu⟩)

set_option maxHeartbeats 4000000 in
set_option maxRecDepth 100000 in
theorem c_X6_setMotif_1 (E : zEnv) {am : Nat → Nat} {nw sv : zS} {an : Bool} {hs : Nat → zS} {ct ln : Nat} {cd : Nat → Int32} {r : Nat} {y w : Int32} (hok : zOk nw) (hinj : zInM am) (hct : ct ≤ 5) (hr : r < 6) (hr0 : zSz nw r ≠ 0) (hy : zin y 0 ((zSz nw r) - 1) = false) : zWR E yX6_setMotif wsX6_setMotif 5 119 [.ref (am 0), .int (nI (r)), .int (y), .int (w)] (fun H => zMW E am nw sv an hs ct ln cd H) (some (.int (-1))) (fun H => zMW E am nw sv an hs ct ln cd H) (zAM am) := by
  refine zWR.ofI (maxL := 6) rfl (Nat.le_of_ble_eq_true rfl) (fun p e s m args below meth c H Q hF hP hret ls hl => ?_)
  have S : CallFix p m c cX6_setMotif 6 s args wsX6_setMotif RX6 := hF.1
  have hG := hF.2
  obtain ⟨hx, hb, hml, hown, hts⟩ := id S
  have hS : va_S (zAM am) H H [] := va_S.rf
  obtain ⟨locs, hlocs⟩ : ∃ x : List Loc, x = [] := ⟨_, rfl⟩
  rw [← hlocs] at hS ⊢
  have hz : H.size = H.size := rfl
  obtain ⟨z, past, kept, buf, rg, td, tm, nb, ⟨h0, h1, h2, h3, h4, h5, h6⟩, hrep, hpa, hke, hbu⟩ := hP
  obtain ⟨r1, rwt, r3, r4, r5, r6, r7⟩ := id hrep
  have hn := hok.sz hr hr0
  have hl : lv_has ls 6 [(0, .ref (am 0)), (1, .int (nI (r))), (2, .int (y)), (3, .int (w))] := hl
  have hin6 : ∀ w ∈ u_ws RX6 TX6 11, w ∈ wsX6_setMotif := by decide +kernel
  refine lv_aload_n hx hb dX6_setMotif_0 rfl (lv_at hl 0 rfl) ?_
  refine lv_iload_n hx hb dX6_setMotif_1 rfl (lv_at hl 1 rfl) ?_
  refine lv_iload_n hx hb dX6_setMotif_2 rfl (lv_at hl 2 rfl) ?_
  refine z_roV (As := [.int (nI (r)), .int (y)]) (rest := []) (q := (RX6, TX6, 11)) S hG (c_X6_isSlot_1 E (z := z) (y := y) hr hn (r3 r hr).1) 2 gX6_setMotif_X6_isSlot rfl kX6_isSlot ⟨Nat.le_of_ble_eq_true rfl, Nat.le_of_ble_eq_true rfl⟩ ⟨Nat.zero_le _, Nat.zero_le _⟩ (⟨h0, h1⟩) rfl h0 rfl hl.1 rfl rfl (Nat.le_of_ble_eq_true rfl) dX6_setMotif_3 ?_
  refine z_bne (tgt := 11) hx hb dX6_setMotif_6 (by decide) (fun c_1 => by exfalso; rw [hy] at c_1; cases c_1) (fun c_1 => ?_)
  refine lv_iconst (v := (-1)) hx hb dX6_setMotif_9 (by decide) ?_
  exact hret _ _ _ _ _ hS (hz) dX6_setMotif_10 (rfl) (⟨_, _, _, _, _, _, _, _, ⟨h0, h1, h2, h3, h4, h5, h6⟩, hrep, hpa, hke, hbu⟩)

set_option maxHeartbeats 4000000 in
set_option maxRecDepth 100000 in
theorem c_X6_setMotif_2a (E : zEnv) {am : Nat → Nat} {nw sv : zS} {an : Bool} {hs : Nat → zS} {ct ln : Nat} {cd : Nat → Int32} {r j : Nat} {w : Int32} (hok : zOk nw) (hinj : zInM am) (hct : ct ≤ 5) (hr : r < 6) (hr0 : zSz nw r ≠ 0) (hj : j < (zSz nw r)) (hw : zin w 1 6 = false) : zWR E yX6_setMotif wsX6_setMotif 5 119 [.ref (am 0), .int (nI (r)), .int (nI (j)), .int (w)] (fun H => zMW E am nw sv an hs ct ln cd H) (some (.int (-2))) (fun H => zMW E am nw sv an hs ct ln cd H) (zAM am) := by
  refine zWR.ofI (maxL := 6) rfl (Nat.le_of_ble_eq_true rfl) (fun p e s m args below meth c H Q hF hP hret ls hl => ?_)
  have S : CallFix p m c cX6_setMotif 6 s args wsX6_setMotif RX6 := hF.1
  have hG := hF.2
  obtain ⟨hx, hb, hml, hown, hts⟩ := id S
  have hS : va_S (zAM am) H H [] := va_S.rf
  obtain ⟨locs, hlocs⟩ : ∃ x : List Loc, x = [] := ⟨_, rfl⟩
  rw [← hlocs] at hS ⊢
  have hz : H.size = H.size := rfl
  obtain ⟨z, past, kept, buf, rg, td, tm, nb, ⟨h0, h1, h2, h3, h4, h5, h6⟩, hrep, hpa, hke, hbu⟩ := hP
  obtain ⟨r1, rwt, r3, r4, r5, r6, r7⟩ := id hrep
  have hn := hok.sz hr hr0
  have hl : lv_has ls 6 [(0, .ref (am 0)), (1, .int (nI (r))), (2, .int (nI (j))), (3, .int (w))] := hl
  have hin6 : ∀ w ∈ u_ws RX6 TX6 11, w ∈ wsX6_setMotif := by decide +kernel
  refine lv_aload_n hx hb dX6_setMotif_0 rfl (lv_at hl 0 rfl) ?_
  refine lv_iload_n hx hb dX6_setMotif_1 rfl (lv_at hl 1 rfl) ?_
  refine lv_iload_n hx hb dX6_setMotif_2 rfl (lv_at hl 2 rfl) ?_
  refine z_roV (As := [.int (nI (r)), .int (nI (j))]) (rest := []) (q := (RX6, TX6, 11)) S hG (c_X6_isSlot_1 E (z := z) (y := (nI j)) hr hn (r3 r hr).1) 2 gX6_setMotif_X6_isSlot rfl kX6_isSlot ⟨Nat.le_of_ble_eq_true rfl, Nat.le_of_ble_eq_true rfl⟩ ⟨Nat.zero_le _, Nat.zero_le _⟩ (⟨h0, h1⟩) rfl h0 rfl hl.1 rfl rfl (Nat.le_of_ble_eq_true rfl) dX6_setMotif_3 ?_
  refine z_bne (tgt := 11) hx hb dX6_setMotif_6 (by decide) (fun c_1 => ?_) (fun c_1 => by exfalso; rw [zin_y (Nat.zero_le _) (by omega) (by omega)] at c_1; cases c_1)
  refine lv_iload_n hx hb dX6_setMotif_11 rfl (lv_at hl 3 rfl) ?_
  refine lv_iconst (v := nI (1)) hx hb dX6_setMotif_12 (by decide) ?_
  refine lv_bipush (v := nI (6)) hx hb dX6_setMotif_13 (by decide) ?_
  refine z_roSX (As := [.int (w), .int (nI (1)), .int (nI (6))]) (rest := []) S hG (c_X6_in E) 3 gX6_setMotif_X6_in rfl kX6_in.2 ⟨Nat.le_of_ble_eq_true rfl, Nat.le_of_ble_eq_true rfl⟩ ⟨Nat.zero_le _, Nat.zero_le _⟩ (trivial) rfl hl.1 rfl rfl (Nat.le_of_ble_eq_true rfl) dX6_setMotif_15 ?_
  refine z_beq (tgt := 30) hx hb dX6_setMotif_18 (by decide) (fun c_2 => ?_) (fun c_2 => by exfalso; rw [hw] at c_2; cases c_2)
  refine lv_bipush (v := (-2)) hx hb dX6_setMotif_30 (by decide) ?_
  exact hret _ _ _ _ _ hS (hz) dX6_setMotif_32 (rfl) (⟨_, _, _, _, _, _, _, _, ⟨h0, h1, h2, h3, h4, h5, h6⟩, hrep, hpa, hke, hbu⟩)

set_option maxHeartbeats 4000000 in
set_option maxRecDepth 100000 in
theorem c_X6_setMotif_2b (E : zEnv) {am : Nat → Nat} {nw sv : zS} {an : Bool} {hs : Nat → zS} {ct ln : Nat} {cd : Nat → Int32} {r j w : Nat} (hok : zOk nw) (hinj : zInM am) (hct : ct ≤ 5) (hr : r < 6) (hr0 : zSz nw r ≠ 0) (hj : j < (zSz nw r)) (hw : 1 ≤ w ∧ w ≤ 6) (hw9 : (zSz nw r) < w) : zWR E yX6_setMotif wsX6_setMotif 5 119 [.ref (am 0), .int (nI (r)), .int (nI (j)), .int (nI (w))] (fun H => zMW E am nw sv an hs ct ln cd H) (some (.int (-2))) (fun H => zMW E am nw sv an hs ct ln cd H) (zAM am) := by
  refine zWR.ofI (maxL := 6) rfl (Nat.le_of_ble_eq_true rfl) (fun p e s m args below meth c H Q hF hP hret ls hl => ?_)
  have S : CallFix p m c cX6_setMotif 6 s args wsX6_setMotif RX6 := hF.1
  have hG := hF.2
  obtain ⟨hx, hb, hml, hown, hts⟩ := id S
  have hS : va_S (zAM am) H H [] := va_S.rf
  obtain ⟨locs, hlocs⟩ : ∃ x : List Loc, x = [] := ⟨_, rfl⟩
  rw [← hlocs] at hS ⊢
  have hz : H.size = H.size := rfl
  obtain ⟨z, past, kept, buf, rg, td, tm, nb, ⟨h0, h1, h2, h3, h4, h5, h6⟩, hrep, hpa, hke, hbu⟩ := hP
  obtain ⟨r1, rwt, r3, r4, r5, r6, r7⟩ := id hrep
  have hn := hok.sz hr hr0
  have hl : lv_has ls 6 [(0, .ref (am 0)), (1, .int (nI (r))), (2, .int (nI (j))), (3, .int (nI (w)))] := hl
  have hin6 : ∀ w ∈ u_ws RX6 TX6 11, w ∈ wsX6_setMotif := by decide +kernel
  refine lv_aload_n hx hb dX6_setMotif_0 rfl (lv_at hl 0 rfl) ?_
  refine lv_iload_n hx hb dX6_setMotif_1 rfl (lv_at hl 1 rfl) ?_
  refine lv_iload_n hx hb dX6_setMotif_2 rfl (lv_at hl 2 rfl) ?_
  refine z_roV (As := [.int (nI (r)), .int (nI (j))]) (rest := []) (q := (RX6, TX6, 11)) S hG (c_X6_isSlot_1 E (z := z) (y := (nI j)) hr hn (r3 r hr).1) 2 gX6_setMotif_X6_isSlot rfl kX6_isSlot ⟨Nat.le_of_ble_eq_true rfl, Nat.le_of_ble_eq_true rfl⟩ ⟨Nat.zero_le _, Nat.zero_le _⟩ (⟨h0, h1⟩) rfl h0 rfl hl.1 rfl rfl (Nat.le_of_ble_eq_true rfl) dX6_setMotif_3 ?_
  refine z_bne (tgt := 11) hx hb dX6_setMotif_6 (by decide) (fun c_1 => ?_) (fun c_1 => by exfalso; rw [zin_y (Nat.zero_le _) (by omega) (by omega)] at c_1; cases c_1)
  refine lv_iload_n hx hb dX6_setMotif_11 rfl (lv_at hl 3 rfl) ?_
  refine lv_iconst (v := nI (1)) hx hb dX6_setMotif_12 (by decide) ?_
  refine lv_bipush (v := nI (6)) hx hb dX6_setMotif_13 (by decide) ?_
  refine z_roSX (As := [.int (nI (w)), .int (nI (1)), .int (nI (6))]) (rest := []) S hG (c_X6_in E) 3 gX6_setMotif_X6_in rfl kX6_in.2 ⟨Nat.le_of_ble_eq_true rfl, Nat.le_of_ble_eq_true rfl⟩ ⟨Nat.zero_le _, Nat.zero_le _⟩ (trivial) rfl hl.1 rfl rfl (Nat.le_of_ble_eq_true rfl) dX6_setMotif_15 ?_
  refine z_beq (tgt := 30) hx hb dX6_setMotif_18 (by decide) (fun c_2 => by exfalso; rw [zin_y hw.1 hw.2 (by decide)] at c_2; cases c_2) (fun c_2 => ?_)
  refine lv_iload_n hx hb dX6_setMotif_21 rfl (lv_at hl 3 rfl) ?_
  refine lv_aload_n hx hb dX6_setMotif_22 rfl (lv_at hl 0 rfl) ?_
  refine lv_iload_n hx hb dX6_setMotif_23 rfl (lv_at hl 1 rfl) ?_
  refine z_roV (As := [.int (nI (r))]) (rest := [.int (nI (w))]) (q := (RX6, TX6, 11)) S hG (c_X6_slots E (z := z) (i := r) (n := (zSz nw r)) hr (r3 r hr).1) 1 gX6_setMotif_X6_slots rfl kX6_slots ⟨Nat.le_of_ble_eq_true rfl, Nat.le_of_ble_eq_true rfl⟩ ⟨Nat.zero_le _, Nat.zero_le _⟩ (⟨h0, h1⟩) rfl h0 rfl hl.1 rfl rfl (Nat.le_of_ble_eq_true rfl) dX6_setMotif_24 ?_
  refine z_cle (tgt := 33) hx hb dX6_setMotif_27 (by decide) ⟨by omega, by omega⟩ (fun c_3 => by exfalso; omega) (fun c_3 => ?_)
  refine lv_bipush (v := (-2)) hx hb dX6_setMotif_30 (by decide) ?_
  exact hret _ _ _ _ _ hS (hz) dX6_setMotif_32 (rfl) (⟨_, _, _, _, _, _, _, _, ⟨h0, h1, h2, h3, h4, h5, h6⟩, hrep, hpa, hke, hbu⟩)

set_option maxHeartbeats 4000000 in
set_option maxRecDepth 100000 in
theorem c_X6_setMotif_3 (E : zEnv) {am : Nat → Nat} {nw sv : zS} {an : Bool} {hs : Nat → zS} {ct ln : Nat} {cd : Nat → Int32} {r j w : Nat} (hok : zOk nw) (hinj : zInM am) (hct : ct ≤ 5) (hr : r < 6) (hr0 : zSz nw r ≠ 0) (hj : j < (zSz nw r)) (hw : 1 ≤ w ∧ w ≤ 6 ∧ w ≤ (zSz nw r)) : zWR E yX6_setMotif wsX6_setMotif 5 119 [.ref (am 0), .int (nI (r)), .int (nI (j)), .int (nI (w))] (fun H => zMW E am nw sv an hs ct ln cd H) (some (.int (zjb (zset (zmt w (zpm (fun u => zimg (zSz nw r) (zKd nw r) (zls (zSz nw r) (zKd nw r) 1) ((j + u) % (zSz nw r))) (zSg nw) w) (zSz nw r) (zKd nw r)) (zSz nw r))))) (fun H => zMW E am (zsMo nw w (zpm (fun u => zimg (zSz nw r) (zKd nw r) (zls (zSz nw r) (zKd nw r) 1) ((j + u) % (zSz nw r))) (zSg nw) w)) sv an (zrH hs ct nw) (zrC ct) ln cd H) (zAM am) := by
  refine zWR.ofI (maxL := 6) rfl (Nat.le_of_ble_eq_true rfl) (fun p e s m args below meth c H Q hF hP hret ls hl => ?_)
  have S : CallFix p m c cX6_setMotif 6 s args wsX6_setMotif RX6 := hF.1
  have hG := hF.2
  obtain ⟨hx, hb, hml, hown, hts⟩ := id S
  have hS : va_S (zAM am) H H [] := va_S.rf
  obtain ⟨locs, hlocs⟩ : ∃ x : List Loc, x = [] := ⟨_, rfl⟩
  rw [← hlocs] at hS ⊢
  have hz : H.size = H.size := rfl
  obtain ⟨z, past, kept, buf, rg, td, tm, nb, ⟨h0, h1, h2, h3, h4, h5, h6⟩, hrep, hpa, hke, hbu⟩ := hP
  obtain ⟨r1, rwt, r3, r4, r5, r6, r7⟩ := id hrep
  have hn := hok.sz hr hr0
  have hm4 := hok.m4 hr
  have hl : lv_has ls 6 [(0, .ref (am 0)), (1, .int (nI (r))), (2, .int (nI (j))), (3, .int (nI (w)))] := hl
  have hin6 : ∀ w ∈ u_ws RX6 TX6 11, w ∈ wsX6_setMotif := by decide +kernel
  refine lv_aload_n hx hb dX6_setMotif_0 rfl (lv_at hl 0 rfl) ?_
  refine lv_iload_n hx hb dX6_setMotif_1 rfl (lv_at hl 1 rfl) ?_
  refine lv_iload_n hx hb dX6_setMotif_2 rfl (lv_at hl 2 rfl) ?_
  refine z_roV (As := [.int (nI (r)), .int (nI (j))]) (rest := []) (q := (RX6, TX6, 11)) S hG (c_X6_isSlot_1 E (z := z) (y := (nI j)) hr hn (r3 r hr).1) 2 gX6_setMotif_X6_isSlot rfl kX6_isSlot ⟨Nat.le_of_ble_eq_true rfl, Nat.le_of_ble_eq_true rfl⟩ ⟨Nat.zero_le _, Nat.zero_le _⟩ (⟨h0, h1⟩) rfl h0 rfl hl.1 rfl rfl (Nat.le_of_ble_eq_true rfl) dX6_setMotif_3 ?_
  refine z_bne (tgt := 11) hx hb dX6_setMotif_6 (by decide) (fun c_1 => ?_) (fun c_1 => by exfalso; rw [zin_y (Nat.zero_le _) (by omega) (by omega)] at c_1; cases c_1)
  refine lv_iload_n hx hb dX6_setMotif_11 rfl (lv_at hl 3 rfl) ?_
  refine lv_iconst (v := nI (1)) hx hb dX6_setMotif_12 (by decide) ?_
  refine lv_bipush (v := nI (6)) hx hb dX6_setMotif_13 (by decide) ?_
  refine z_roSX (As := [.int (nI (w)), .int (nI (1)), .int (nI (6))]) (rest := []) S hG (c_X6_in E) 3 gX6_setMotif_X6_in rfl kX6_in.2 ⟨Nat.le_of_ble_eq_true rfl, Nat.le_of_ble_eq_true rfl⟩ ⟨Nat.zero_le _, Nat.zero_le _⟩ (trivial) rfl hl.1 rfl rfl (Nat.le_of_ble_eq_true rfl) dX6_setMotif_15 ?_
  refine z_beq (tgt := 30) hx hb dX6_setMotif_18 (by decide) (fun c_2 => by exfalso; rw [zin_y hw.1 hw.2.1 (by decide)] at c_2; cases c_2) (fun c_2 => ?_)
  refine lv_iload_n hx hb dX6_setMotif_21 rfl (lv_at hl 3 rfl) ?_
  refine lv_aload_n hx hb dX6_setMotif_22 rfl (lv_at hl 0 rfl) ?_
  refine lv_iload_n hx hb dX6_setMotif_23 rfl (lv_at hl 1 rfl) ?_
  refine z_roV (As := [.int (nI (r))]) (rest := [.int (nI (w))]) (q := (RX6, TX6, 11)) S hG (c_X6_slots E (z := z) (i := r) (n := (zSz nw r)) hr (r3 r hr).1) 1 gX6_setMotif_X6_slots rfl kX6_slots ⟨Nat.le_of_ble_eq_true rfl, Nat.le_of_ble_eq_true rfl⟩ ⟨Nat.zero_le _, Nat.zero_le _⟩ (⟨h0, h1⟩) rfl h0 rfl hl.1 rfl rfl (Nat.le_of_ble_eq_true rfl) dX6_setMotif_24 ?_
  refine z_cle (tgt := 33) hx hb dX6_setMotif_27 (by decide) ⟨by omega, by omega⟩ (fun c_3 => ?_) (fun c_3 => by exfalso; omega)
  refine lv_aload_n hx hb dX6_setMotif_33 rfl (lv_at hl 0 rfl) ?_
  refine z_wrV (As := []) (rest := []) (q := (RX6, TX6, 11)) S hG (c_X6_record E hinj hct hok hrep hpa) 0 gX6_setMotif_X6_record rfl kX6_record ⟨Nat.le_of_ble_eq_true rfl, Nat.le_of_ble_eq_true rfl⟩ ⟨Nat.zero_le _, Nat.zero_le _⟩ (⟨h0, h1, h2, h3, h4, h5, h6⟩) rfl h0 rfl hl.1 rfl rfl (Nat.le_of_ble_eq_true rfl) dX6_setMotif_34 hS (fun _ h => h) (fun Hn locs h_5 q_4 o_6 hS => ?_)
  have hz : Hn.size = H.size := q_4.trans hz
  obtain ⟨past, ⟨h0, h1, h2, h3, h4, h5, h6⟩, hpa⟩ := h_5
  refine lv_aload_n hx hb dX6_setMotif_37 rfl (lv_at hl 0 rfl) ?_
  refine lv_iload_n hx hb dX6_setMotif_38 rfl (lv_at hl 1 rfl) ?_
  refine lv_iconst (v := nI (1)) hx hb dX6_setMotif_39 (by decide) ?_
  refine z_roV (As := [.int (nI (r)), .int (nI (1))]) (rest := []) (q := (RX6, TX6, 11)) S hG (c_X6_leastChange E (z := z) (i := r) (n := (zSz nw r)) (f := (zKd nw r)) (lv := 1) hr hn (r3 r hr) (by decide) hm4 (fun s hs => hok.2.1 r hr s hs)) 2 gX6_setMotif_X6_leastChange rfl kX6_leastChange ⟨Nat.le_of_ble_eq_true rfl, Nat.le_of_ble_eq_true rfl⟩ ⟨Nat.zero_le _, Nat.zero_le _⟩ (⟨h0, h1⟩) rfl h0 rfl hl.1 rfl rfl (Nat.le_of_ble_eq_true rfl) dX6_setMotif_40 ?_
  refine lv_istore (lv' := [(4, .int (nI (zli (zSz nw r) (zKd nw r) 1 (znc 1 (zSz nw r))))), (0, .ref (am 0)), (1, .int (nI (r))), (2, .int (nI (j))), (3, .int (nI (w)))]) hx hb dX6_setMotif_43 hl (by decide) rfl (fun ls hl => ?_)
  refine lv_iconst (v := nI (0)) hx hb dX6_setMotif_45 (by decide) ?_
  refine lv_istore (lv' := [(5, .int (nI (0))), (4, .int (nI (zli (zSz nw r) (zKd nw r) 1 (znc 1 (zSz nw r))))), (0, .ref (am 0)), (1, .int (nI (r))), (2, .int (nI (j))), (3, .int (nI (w)))]) hx hb dX6_setMotif_46 hl (by decide) rfl (fun ls hl => ?_)
  have L48 : ∀ (dd : Nat) (u : Nat), w - u < dd → (u ≤ w) → ∀ (Hn : Heap) (locs : List Loc) (hS : va_S (zAM am) H Hn locs) (hz : Hn.size = H.size) (hX : zMX E am (zsw z (fun u9 => zimg (zSz nw r) (zKd nw r) (zls (zSz nw r) (zKd nw r) 1) ((j + u9) % (zSz nw r))) u) past (zrC ct) kept an buf ln rg td tm nb Hn) (ls : Array Slot), lv_has ls 6 [(0, .ref (am 0)), (1, .int (nI (r))), (2, .int (nI (j))), (3, .int (nI (w))), (4, .int (nI (zli (zSz nw r) (zKd nw r) 1 (znc 1 (zSz nw r))))), (5, .int (nI (u)))] → W p (zl E) e (zRm 5 119) s m args below meth c Hn locs 0 0 Q (F0 m 48 ls []) := by
    intro dd
    induction dd with
    | zero => intro u hdd; exact absurd hdd (Nat.not_lt_zero _)
    | succ dd ih48 =>
      intro u hdd48 hu Hn locs hS hz hX ls hl
      obtain ⟨h0, h1, h2, h3, h4, h5, h6⟩ := hX
      refine lv_iload hx hb dX6_setMotif_48 (lv_at hl 5 rfl) ?_
      refine lv_iload_n hx hb dX6_setMotif_50 rfl (lv_at hl 3 rfl) ?_
      refine z_cge (tgt := 88) hx hb dX6_setMotif_51 (by decide) ⟨by omega, by omega⟩ (fun c_7 => ?_) (fun c_7 => ?_)
      · obtain rfl : w = u := by omega
        refine lv_aload_n hx hb dX6_setMotif_88 rfl (lv_at hl 0 rfl) ?_
        refine z_get (ref := RX6) (C := RX6) (T := TX6) (N := 11) hx hb hts hin6 hown hG h0 rfl 0 (by decide) (by decide +kernel) rfl rfl dX6_setMotif_89 ?_
        refine lv_bipush (v := nI (112)) hx hb dX6_setMotif_92 (by decide) ?_
        refine lv_iload_n hx hb dX6_setMotif_94 rfl (lv_at hl 3 rfl) ?_
        refine z_iast (j := 112) hx hb hG h1 ⟨by omega, by omega⟩ hS (⟨1, by decide, rfl⟩) dX6_setMotif_95 (fun Hn locs h_8 o_9 hS => ?_)
        have k_10 := va_at.kept h0 (o_9.2 _ (hinj.ne (by decide) (by decide) (by decide)))
        have k_11 := va_at.kept h2 (o_9.2 _ (hinj.ne (by decide) (by decide) (by decide)))
        have k_12 := va_at.kept h3 (o_9.2 _ (hinj.ne (by decide) (by decide) (by decide)))
        have k_13 := va_at.kept h4 (o_9.2 _ (hinj.ne (by decide) (by decide) (by decide)))
        have k_14 := va_at.kept h5 (o_9.2 _ (hinj.ne (by decide) (by decide) (by decide)))
        have k_15 := va_at.kept h6 (o_9.2 _ (hinj.ne (by decide) (by decide) (by decide)))
        have hz : Hn.size = H.size := o_9.1.trans hz
        refine lv_aload_n hx hb dX6_setMotif_96 rfl (lv_at hl 0 rfl) ?_
        refine lv_iload_n hx hb dX6_setMotif_97 rfl (lv_at hl 1 rfl) ?_
        refine z_roV (As := [.int (nI (r))]) (rest := []) (q := (RX6, TX6, 11)) S hG (c_X6_places E (z := (upd (zsw z (fun u9 => zimg (zSz nw r) (zKd nw r) (zls (zSz nw r) (zKd nw r) 1) ((j + u9) % (zSz nw r))) w) 112 (nI w))) (i := r) (n := (zSz nw r)) (f := (zKd nw r)) (ml := w) (sg := (zpm (fun u9 => zimg (zSz nw r) (zKd nw r) (zls (zSz nw r) (zKd nw r) 1) ((j + u9) % (zSz nw r))) (zSg nw) w)) hr hn (zmr_o hr hn.2 (fun k a b => by rw [zup_o (by omega), zsw_o (by omega)]) (r3 r hr)) ⟨zup_s, hw.2.1⟩ (fun t ht => by rw [zup_o (by omega)]; unfold zsw zpm; rw [if_pos (by omega), if_pos ht, show 113 + t - 113 = t by omega])) 1 gX6_setMotif_X6_places rfl kX6_places ⟨Nat.le_of_ble_eq_true rfl, Nat.le_of_ble_eq_true rfl⟩ ⟨Nat.zero_le _, Nat.zero_le _⟩ (⟨k_10, h_8⟩) rfl k_10 rfl hl.1 rfl rfl (Nat.le_of_ble_eq_true rfl) dX6_setMotif_98 ?_
        refine z_roSX (As := [.int (zset (zmt w (zpm (fun u9 => zimg (zSz nw r) (zKd nw r) (zls (zSz nw r) (zKd nw r) 1) ((j + u9) % (zSz nw r))) (zSg nw) w) (zSz nw r) (zKd nw r)) (zSz nw r))]) (rest := []) S hG (c_X6_bits E) 1 gX6_setMotif_X6_bits rfl kX6_bits.2 ⟨Nat.le_of_ble_eq_true rfl, Nat.le_of_ble_eq_true rfl⟩ ⟨Nat.zero_le _, Nat.zero_le _⟩ (trivial) rfl hl.1 rfl rfl (Nat.le_of_ble_eq_true rfl) dX6_setMotif_101 ?_
        refine z_top (y := (zjb (zset (zmt w (zpm (fun u9 => zimg (zSz nw r) (zKd nw r) (zls (zSz nw r) (zKd nw r) 1) ((j + u9) % (zSz nw r))) (zSg nw) w) (zSz nw r) (zKd nw r)) (zSz nw r)))) ((zjb_bc _ hn.2).symm) ?_
        exact hret _ _ _ _ _ hS (hz) dX6_setMotif_104 (rfl) (⟨_, _, _, _, _, _, _, _, ⟨k_10, h_8, k_11, k_12, k_13, k_14, k_15⟩, zRep_mo hok.B (fun k a b => by rw [zup_o (by omega), zsw_o (by omega)]) zup_s (fun t ht => by rw [zup_o (by omega)]; unfold zsw zpm; rw [if_pos (by omega), if_pos ht, show 113 + t - 113 = t by omega]) hrep, hpa, hke, hbu⟩)
      · refine lv_aload_n hx hb dX6_setMotif_54 rfl (lv_at hl 0 rfl) ?_
        refine z_get (ref := RX6) (C := RX6) (T := TX6) (N := 11) hx hb hts hin6 hown hG h0 rfl 0 (by decide) (by decide +kernel) rfl rfl dX6_setMotif_55 ?_
        refine lv_bipush (v := nI (113)) hx hb dX6_setMotif_58 (by decide) ?_
        refine lv_iload hx hb dX6_setMotif_60 (lv_at hl 5 rfl) ?_
        refine z_iadd hx hb dX6_setMotif_62 ?_
        refine lv_aload_n hx hb dX6_setMotif_63 rfl (lv_at hl 0 rfl) ?_
        refine lv_iload_n hx hb dX6_setMotif_64 rfl (lv_at hl 1 rfl) ?_
        refine lv_iconst (v := nI (1)) hx hb dX6_setMotif_65 (by decide) ?_
        refine lv_iload hx hb dX6_setMotif_66 (lv_at hl 4 rfl) ?_
        refine lv_iload_n hx hb dX6_setMotif_68 rfl (lv_at hl 2 rfl) ?_
        refine lv_iload hx hb dX6_setMotif_69 (lv_at hl 5 rfl) ?_
        refine z_iadd hx hb dX6_setMotif_71 ?_
        refine lv_aload_n hx hb dX6_setMotif_72 rfl (lv_at hl 0 rfl) ?_
        refine lv_iload_n hx hb dX6_setMotif_73 rfl (lv_at hl 1 rfl) ?_
        refine z_roV (As := [.int (nI (r))]) (rest := [.int (nI (j + u)), .int (nI (zli (zSz nw r) (zKd nw r) 1 (znc 1 (zSz nw r)))), .int (nI (1)), .int (nI (r)), .ref (am 0), .int (nI (113 + u)), .ref (am 1)]) (q := (RX6, TX6, 11)) S hG (c_X6_slots E (z := (zsw z (fun u9 => zimg (zSz nw r) (zKd nw r) (zls (zSz nw r) (zKd nw r) 1) ((j + u9) % (zSz nw r))) u)) (i := r) (n := (zSz nw r)) hr ((zmr_sw hr hn.2 (r3 r hr)).1)) 1 gX6_setMotif_X6_slots rfl kX6_slots ⟨Nat.le_of_ble_eq_true rfl, Nat.le_of_ble_eq_true rfl⟩ ⟨Nat.zero_le _, Nat.zero_le _⟩ (⟨h0, h1⟩) rfl h0 rfl hl.1 rfl rfl (Nat.le_of_ble_eq_true rfl) dX6_setMotif_74 ?_
        refine z_irem hx hb dX6_setMotif_77 ⟨by omega, by omega, by omega⟩ ?_
        refine z_roV (As := [.int (nI (r)), .int (nI (1)), .int (nI (zli (zSz nw r) (zKd nw r) 1 (znc 1 (zSz nw r)))), .int (nI ((j + u) % (zSz nw r)))]) (rest := [.int (nI (113 + u)), .ref (am 1)]) (q := (RX6, TX6, 11)) S hG (c_X6_behind E (z := (zsw z (fun u9 => zimg (zSz nw r) (zKd nw r) (zls (zSz nw r) (zKd nw r) 1) ((j + u9) % (zSz nw r))) u)) (i := r) (n := (zSz nw r)) (f := (zKd nw r)) (lv := 1) (ch := (zli (zSz nw r) (zKd nw r) 1 (znc 1 (zSz nw r)))) (j := (j + u) % (zSz nw r)) hr hn (zmr_sw hr hn.2 (r3 r hr)) (by decide) hm4 (zlc_lt' hn.1) (Nat.mod_lt _ hn.1)) 4 gX6_setMotif_X6_behind rfl kX6_behind ⟨Nat.le_of_ble_eq_true rfl, Nat.le_of_ble_eq_true rfl⟩ ⟨Nat.zero_le _, Nat.zero_le _⟩ (⟨h0, h1⟩) rfl h0 rfl hl.1 rfl rfl (Nat.le_of_ble_eq_true rfl) dX6_setMotif_78 ?_
        refine z_top (y := (zimg (zSz nw r) (zKd nw r) (zls (zSz nw r) (zKd nw r) 1) ((j + u) % (zSz nw r)))) (rfl) ?_
        refine z_iast (j := 113 + u) hx hb hG h1 ⟨by omega, by omega⟩ hS (⟨1, by decide, rfl⟩) dX6_setMotif_81 (fun Hn locs h_16 o_17 hS => ?_)
        have k_18 := va_at.kept h0 (o_17.2 _ (hinj.ne (by decide) (by decide) (by decide)))
        have k_19 := va_at.kept h2 (o_17.2 _ (hinj.ne (by decide) (by decide) (by decide)))
        have k_20 := va_at.kept h3 (o_17.2 _ (hinj.ne (by decide) (by decide) (by decide)))
        have k_21 := va_at.kept h4 (o_17.2 _ (hinj.ne (by decide) (by decide) (by decide)))
        have k_22 := va_at.kept h5 (o_17.2 _ (hinj.ne (by decide) (by decide) (by decide)))
        have k_23 := va_at.kept h6 (o_17.2 _ (hinj.ne (by decide) (by decide) (by decide)))
        have hz : Hn.size = H.size := o_17.1.trans hz
        refine lv_iinc (v := nI (u + 1)) (lv' := [(5, .int (nI (u + 1))), (0, .ref (am 0)), (1, .int (nI (r))), (2, .int (nI (j))), (3, .int (nI (w))), (4, .int (nI (zli (zSz nw r) (zKd nw r) 1 (znc 1 (zSz nw r)))))]) hx hb dX6_setMotif_82 hl (k := 5) rfl (z_inc1 _) (by decide) rfl (fun ls hl => ?_)
        refine lv_goto (tgt := 48) hx hb dX6_setMotif_85 (by decide) ?_
        have hl9 := lv_sub hl [1, 2, 3, 4, 5, 0] (l' := [(0, .ref (am 0)), (1, .int (nI (r))), (2, .int (nI (j))), (3, .int (nI (w))), (4, .int (nI (zli (zSz nw r) (zKd nw r) 1 (znc 1 (zSz nw r))))), (5, .int (nI (u + 1)))]) rfl
        have e9_5 : (u + 1) = ((u + 1)) := by omega
        exact ih48 (u + 1) (by omega) (by omega) _ _ hS hz (by rw [← zsw_s]; exact ⟨k_18, h_16, k_19, k_20, k_21, k_22, k_23⟩) ls (by rw [← e9_5]; exact hl9)
  exact L48 ((w - (0)) + 1) (0) (Nat.lt_succ_self _) (Nat.zero_le _) _ _ hS hz (by rw [zsw_0]; exact ⟨h0, h1, h2, h3, h4, h5, h6⟩) ls (lv_sub hl [2, 3, 4, 5, 1, 0] rfl)

set_option maxHeartbeats 4000000 in
set_option maxRecDepth 100000 in
theorem c_X6_sign_0a (E : zEnv) {am : Nat → Nat} {nw sv : zS} {an : Bool} {hs : Nat → zS} {ct ln : Nat} {cd : Nat → Int32} {x y : Int32} (hok : zOk nw) (hinj : zInM am) (hct : ct ≤ 5) (hx1 : zin x 0 (zMl nw) = false) : zWR E yX6_sign wsX6_sign 1 22 [.ref (am 0), .int (x), .int (y)] (fun H => zMW E am nw sv an hs ct ln cd H) (some (.int (-1))) (fun H => zMW E am nw sv an hs ct ln cd H) (zAM am) := by
  refine zWR.ofI (maxL := 3) rfl (Nat.le_of_ble_eq_true rfl) (fun p e s m args below meth c H Q hF hP hret ls hl => ?_)
  have S : CallFix p m c cX6_sign 3 s args wsX6_sign RX6 := hF.1
  have hG := hF.2
  obtain ⟨hx, hb, hml, hown, hts⟩ := id S
  have hS : va_S (zAM am) H H [] := va_S.rf
  obtain ⟨locs, hlocs⟩ : ∃ x : List Loc, x = [] := ⟨_, rfl⟩
  rw [← hlocs] at hS ⊢
  have hz : H.size = H.size := rfl
  obtain ⟨z, past, kept, buf, rg, td, tm, nb, ⟨h0, h1, h2, h3, h4, h5, h6⟩, hrep, hpa, hke, hbu⟩ := hP
  obtain ⟨r1, rwt, r3, r4, r5, r6, r7⟩ := id hrep
  have hml6 := hok.2.2.2.1
  have hl : lv_has ls 3 [(0, .ref (am 0)), (1, .int (x)), (2, .int (y))] := hl
  have hin6 : ∀ w ∈ u_ws RX6 TX6 11, w ∈ wsX6_sign := by decide +kernel
  refine lv_iload_n hx hb dX6_sign_0 rfl (lv_at hl 1 rfl) ?_
  refine lv_iconst (v := nI (0)) hx hb dX6_sign_1 (by decide) ?_
  refine lv_aload_n hx hb dX6_sign_2 rfl (lv_at hl 0 rfl) ?_
  refine z_get (ref := RX6) (C := RX6) (T := TX6) (N := 11) hx hb hts hin6 hown hG h0 rfl 0 (by decide) (by decide +kernel) rfl rfl dX6_sign_3 ?_
  refine lv_bipush (v := nI (112)) hx hb dX6_sign_6 (by decide) ?_
  refine z_iald (j := 112) hx hb hG h1 ⟨by omega, by omega⟩ dX6_sign_8 ?_
  refine z_top (y := nI (zMl nw)) (r4) ?_
  refine z_roSX (As := [.int (x), .int (nI (0)), .int (nI (zMl nw))]) (rest := []) S hG (c_X6_in E) 3 gX6_sign_X6_in rfl kX6_in.2 ⟨Nat.le_of_ble_eq_true rfl, Nat.le_of_ble_eq_true rfl⟩ ⟨Nat.zero_le _, Nat.zero_le _⟩ (trivial) rfl hl.1 rfl rfl (Nat.le_of_ble_eq_true rfl) dX6_sign_9 ?_
  refine z_beq (tgt := 21) hx hb dX6_sign_12 (by decide) (fun c_1 => ?_) (fun c_1 => by exfalso; rw [hx1] at c_1; cases c_1)
  refine lv_iconst (v := (-1)) hx hb dX6_sign_21 (by decide) ?_
  exact hret _ _ _ _ _ hS (hz) dX6_sign_22 (rfl) (⟨_, _, _, _, _, _, _, _, ⟨h0, h1, h2, h3, h4, h5, h6⟩, hrep, hpa, hke, hbu⟩)

set_option maxHeartbeats 4000000 in
set_option maxRecDepth 100000 in
theorem c_X6_sign_0b (E : zEnv) {am : Nat → Nat} {nw sv : zS} {an : Bool} {hs : Nat → zS} {ct ln : Nat} {cd : Nat → Int32} {y : Int32} (hok : zOk nw) (hinj : zInM am) (hct : ct ≤ 5)  : zWR E yX6_sign wsX6_sign 1 22 [.ref (am 0), .int (nI (6)), .int (y)] (fun H => zMW E am nw sv an hs ct ln cd H) (some (.int (-1))) (fun H => zMW E am nw sv an hs ct ln cd H) (zAM am) := by
  refine zWR.ofI (maxL := 3) rfl (Nat.le_of_ble_eq_true rfl) (fun p e s m args below meth c H Q hF hP hret ls hl => ?_)
  have S : CallFix p m c cX6_sign 3 s args wsX6_sign RX6 := hF.1
  have hG := hF.2
  obtain ⟨hx, hb, hml, hown, hts⟩ := id S
  have hS : va_S (zAM am) H H [] := va_S.rf
  obtain ⟨locs, hlocs⟩ : ∃ x : List Loc, x = [] := ⟨_, rfl⟩
  rw [← hlocs] at hS ⊢
  have hz : H.size = H.size := rfl
  obtain ⟨z, past, kept, buf, rg, td, tm, nb, ⟨h0, h1, h2, h3, h4, h5, h6⟩, hrep, hpa, hke, hbu⟩ := hP
  obtain ⟨r1, rwt, r3, r4, r5, r6, r7⟩ := id hrep
  have hml6 := hok.2.2.2.1
  have hl : lv_has ls 3 [(0, .ref (am 0)), (1, .int (nI (6))), (2, .int (y))] := hl
  have hin6 : ∀ w ∈ u_ws RX6 TX6 11, w ∈ wsX6_sign := by decide +kernel
  refine lv_iload_n hx hb dX6_sign_0 rfl (lv_at hl 1 rfl) ?_
  refine lv_iconst (v := nI (0)) hx hb dX6_sign_1 (by decide) ?_
  refine lv_aload_n hx hb dX6_sign_2 rfl (lv_at hl 0 rfl) ?_
  refine z_get (ref := RX6) (C := RX6) (T := TX6) (N := 11) hx hb hts hin6 hown hG h0 rfl 0 (by decide) (by decide +kernel) rfl rfl dX6_sign_3 ?_
  refine lv_bipush (v := nI (112)) hx hb dX6_sign_6 (by decide) ?_
  refine z_iald (j := 112) hx hb hG h1 ⟨by omega, by omega⟩ dX6_sign_8 ?_
  refine z_top (y := nI (zMl nw)) (r4) ?_
  refine z_roSX (As := [.int (nI (6)), .int (nI (0)), .int (nI (zMl nw))]) (rest := []) S hG (c_X6_in E) 3 gX6_sign_X6_in rfl kX6_in.2 ⟨Nat.le_of_ble_eq_true rfl, Nat.le_of_ble_eq_true rfl⟩ ⟨Nat.zero_le _, Nat.zero_le _⟩ (trivial) rfl hl.1 rfl rfl (Nat.le_of_ble_eq_true rfl) dX6_sign_9 ?_
  refine z_beq (tgt := 21) hx hb dX6_sign_12 (by decide) (fun c_1 => ?_) (fun c_1 => ?_)
  · refine lv_iconst (v := (-1)) hx hb dX6_sign_21 (by decide) ?_
    exact hret _ _ _ _ _ hS (hz) dX6_sign_22 (rfl) (⟨_, _, _, _, _, _, _, _, ⟨h0, h1, h2, h3, h4, h5, h6⟩, hrep, hpa, hke, hbu⟩)
  · refine lv_iload_n hx hb dX6_sign_15 rfl (lv_at hl 1 rfl) ?_
    refine lv_bipush (v := nI (6)) hx hb dX6_sign_16 (by decide) ?_
    refine z_cne (tgt := 23) hx hb dX6_sign_18 (by decide) ⟨by omega, by omega⟩ (fun c_2 => by exfalso; omega) (fun c_2 => ?_)
    refine lv_iconst (v := (-1)) hx hb dX6_sign_21 (by decide) ?_
    exact hret _ _ _ _ _ hS (hz) dX6_sign_22 (rfl) (⟨_, _, _, _, _, _, _, _, ⟨h0, h1, h2, h3, h4, h5, h6⟩, hrep, hpa, hke, hbu⟩)

set_option maxHeartbeats 4000000 in
set_option maxRecDepth 100000 in
theorem c_X6_sign_1 (E : zEnv) {am : Nat → Nat} {nw sv : zS} {an : Bool} {hs : Nat → zS} {ct ln : Nat} {cd : Nat → Int32} {i : Nat} {y : Int32} (hok : zOk nw) (hinj : zInM am) (hct : ct ≤ 5) (hi6 : i ≤ zMl nw ∧ i < 6) (hy : zin y 0 5 = false) (hy9 : ¬ y = nI 9) : zWR E yX6_sign wsX6_sign 1 22 [.ref (am 0), .int (nI (i)), .int (y)] (fun H => zMW E am nw sv an hs ct ln cd H) (some (.int (-2))) (fun H => zMW E am nw sv an hs ct ln cd H) (zAM am) := by
  refine zWR.ofI (maxL := 3) rfl (Nat.le_of_ble_eq_true rfl) (fun p e s m args below meth c H Q hF hP hret ls hl => ?_)
  have S : CallFix p m c cX6_sign 3 s args wsX6_sign RX6 := hF.1
  have hG := hF.2
  obtain ⟨hx, hb, hml, hown, hts⟩ := id S
  have hS : va_S (zAM am) H H [] := va_S.rf
  obtain ⟨locs, hlocs⟩ : ∃ x : List Loc, x = [] := ⟨_, rfl⟩
  rw [← hlocs] at hS ⊢
  have hz : H.size = H.size := rfl
  obtain ⟨z, past, kept, buf, rg, td, tm, nb, ⟨h0, h1, h2, h3, h4, h5, h6⟩, hrep, hpa, hke, hbu⟩ := hP
  obtain ⟨r1, rwt, r3, r4, r5, r6, r7⟩ := id hrep
  have hml6 := hok.2.2.2.1
  have hl : lv_has ls 3 [(0, .ref (am 0)), (1, .int (nI (i))), (2, .int (y))] := hl
  have hin6 : ∀ w ∈ u_ws RX6 TX6 11, w ∈ wsX6_sign := by decide +kernel
  refine lv_iload_n hx hb dX6_sign_0 rfl (lv_at hl 1 rfl) ?_
  refine lv_iconst (v := nI (0)) hx hb dX6_sign_1 (by decide) ?_
  refine lv_aload_n hx hb dX6_sign_2 rfl (lv_at hl 0 rfl) ?_
  refine z_get (ref := RX6) (C := RX6) (T := TX6) (N := 11) hx hb hts hin6 hown hG h0 rfl 0 (by decide) (by decide +kernel) rfl rfl dX6_sign_3 ?_
  refine lv_bipush (v := nI (112)) hx hb dX6_sign_6 (by decide) ?_
  refine z_iald (j := 112) hx hb hG h1 ⟨by omega, by omega⟩ dX6_sign_8 ?_
  refine z_top (y := nI (zMl nw)) (r4) ?_
  refine z_roSX (As := [.int (nI (i)), .int (nI (0)), .int (nI (zMl nw))]) (rest := []) S hG (c_X6_in E) 3 gX6_sign_X6_in rfl kX6_in.2 ⟨Nat.le_of_ble_eq_true rfl, Nat.le_of_ble_eq_true rfl⟩ ⟨Nat.zero_le _, Nat.zero_le _⟩ (trivial) rfl hl.1 rfl rfl (Nat.le_of_ble_eq_true rfl) dX6_sign_9 ?_
  refine z_beq (tgt := 21) hx hb dX6_sign_12 (by decide) (fun c_1 => by exfalso; rw [zin_y (Nat.zero_le _) (by omega) (by omega)] at c_1; cases c_1) (fun c_1 => ?_)
  refine lv_iload_n hx hb dX6_sign_15 rfl (lv_at hl 1 rfl) ?_
  refine lv_bipush (v := nI (6)) hx hb dX6_sign_16 (by decide) ?_
  refine z_cne (tgt := 23) hx hb dX6_sign_18 (by decide) ⟨by omega, by omega⟩ (fun c_2 => ?_) (fun c_2 => by exfalso; omega)
  refine lv_iload_n hx hb dX6_sign_23 rfl (lv_at hl 2 rfl) ?_
  refine lv_iconst (v := nI (0)) hx hb dX6_sign_24 (by decide) ?_
  refine lv_iconst (v := nI (5)) hx hb dX6_sign_25 (by decide) ?_
  refine z_roSX (As := [.int (y), .int (nI (0)), .int (nI (5))]) (rest := []) S hG (c_X6_in E) 3 gX6_sign_X6_in rfl kX6_in.2 ⟨Nat.le_of_ble_eq_true rfl, Nat.le_of_ble_eq_true rfl⟩ ⟨Nat.zero_le _, Nat.zero_le _⟩ (trivial) rfl hl.1 rfl rfl (Nat.le_of_ble_eq_true rfl) dX6_sign_26 ?_
  refine z_bne (tgt := 41) hx hb dX6_sign_29 (by decide) (fun c_3 => by exfalso; rw [hy] at c_3; cases c_3) (fun c_3 => ?_)
  refine lv_iload_n hx hb dX6_sign_32 rfl (lv_at hl 2 rfl) ?_
  refine lv_bipush (v := nI (9)) hx hb dX6_sign_33 (by decide) ?_
  refine lv_icmp_eq (tgt := 41) hx hb dX6_sign_35 (by decide) (fun c_4 => by exfalso; exact hy9 c_4) (fun c_4 => ?_)
  refine lv_bipush (v := (-2)) hx hb dX6_sign_38 (by decide) ?_
  exact hret _ _ _ _ _ hS (hz) dX6_sign_40 (rfl) (⟨_, _, _, _, _, _, _, _, ⟨h0, h1, h2, h3, h4, h5, h6⟩, hrep, hpa, hke, hbu⟩)

set_option maxHeartbeats 4000000 in
set_option maxRecDepth 100000 in
theorem c_X6_sign_2k (E : zEnv) {am : Nat → Nat} {nw sv : zS} {an : Bool} {hs : Nat → zS} {ct ln : Nat} {cd : Nat → Int32} {i : Nat} {y : Int32} (hok : zOk nw) (hinj : zInM am) (hct : ct ≤ 5) (hi6 : i < zMl nw) (hy : zin y 0 5 = true) : zWR E yX6_sign wsX6_sign 1 22 [.ref (am 0), .int (nI (i)), .int (y)] (fun H => zMW E am nw sv an hs ct ln cd H) (some (.int (nI (zMl nw)))) (fun H => zMW E am (zsMo nw (zMl nw) (upd (zSg nw) i y)) sv an (zrH hs ct nw) (zrC ct) ln cd H) (zAM am) := by
  refine zWR.ofI (maxL := 3) rfl (Nat.le_of_ble_eq_true rfl) (fun p e s m args below meth c H Q hF hP hret ls hl => ?_)
  have S : CallFix p m c cX6_sign 3 s args wsX6_sign RX6 := hF.1
  have hG := hF.2
  obtain ⟨hx, hb, hml, hown, hts⟩ := id S
  have hS : va_S (zAM am) H H [] := va_S.rf
  obtain ⟨locs, hlocs⟩ : ∃ x : List Loc, x = [] := ⟨_, rfl⟩
  rw [← hlocs] at hS ⊢
  have hz : H.size = H.size := rfl
  obtain ⟨z, past, kept, buf, rg, td, tm, nb, ⟨h0, h1, h2, h3, h4, h5, h6⟩, hrep, hpa, hke, hbu⟩ := hP
  obtain ⟨r1, rwt, r3, r4, r5, r6, r7⟩ := id hrep
  have hml6 := hok.2.2.2.1
  have hl : lv_has ls 3 [(0, .ref (am 0)), (1, .int (nI (i))), (2, .int (y))] := hl
  have hin6 : ∀ w ∈ u_ws RX6 TX6 11, w ∈ wsX6_sign := by decide +kernel
  refine lv_iload_n hx hb dX6_sign_0 rfl (lv_at hl 1 rfl) ?_
  refine lv_iconst (v := nI (0)) hx hb dX6_sign_1 (by decide) ?_
  refine lv_aload_n hx hb dX6_sign_2 rfl (lv_at hl 0 rfl) ?_
  refine z_get (ref := RX6) (C := RX6) (T := TX6) (N := 11) hx hb hts hin6 hown hG h0 rfl 0 (by decide) (by decide +kernel) rfl rfl dX6_sign_3 ?_
  refine lv_bipush (v := nI (112)) hx hb dX6_sign_6 (by decide) ?_
  refine z_iald (j := 112) hx hb hG h1 ⟨by omega, by omega⟩ dX6_sign_8 ?_
  refine z_top (y := nI (zMl nw)) (r4) ?_
  refine z_roSX (As := [.int (nI (i)), .int (nI (0)), .int (nI (zMl nw))]) (rest := []) S hG (c_X6_in E) 3 gX6_sign_X6_in rfl kX6_in.2 ⟨Nat.le_of_ble_eq_true rfl, Nat.le_of_ble_eq_true rfl⟩ ⟨Nat.zero_le _, Nat.zero_le _⟩ (trivial) rfl hl.1 rfl rfl (Nat.le_of_ble_eq_true rfl) dX6_sign_9 ?_
  refine z_beq (tgt := 21) hx hb dX6_sign_12 (by decide) (fun c_1 => by exfalso; rw [zin_y (Nat.zero_le _) (by omega) (by omega)] at c_1; cases c_1) (fun c_1 => ?_)
  refine lv_iload_n hx hb dX6_sign_15 rfl (lv_at hl 1 rfl) ?_
  refine lv_bipush (v := nI (6)) hx hb dX6_sign_16 (by decide) ?_
  refine z_cne (tgt := 23) hx hb dX6_sign_18 (by decide) ⟨by omega, by omega⟩ (fun c_2 => ?_) (fun c_2 => by exfalso; omega)
  refine lv_iload_n hx hb dX6_sign_23 rfl (lv_at hl 2 rfl) ?_
  refine lv_iconst (v := nI (0)) hx hb dX6_sign_24 (by decide) ?_
  refine lv_iconst (v := nI (5)) hx hb dX6_sign_25 (by decide) ?_
  refine z_roSX (As := [.int (y), .int (nI (0)), .int (nI (5))]) (rest := []) S hG (c_X6_in E) 3 gX6_sign_X6_in rfl kX6_in.2 ⟨Nat.le_of_ble_eq_true rfl, Nat.le_of_ble_eq_true rfl⟩ ⟨Nat.zero_le _, Nat.zero_le _⟩ (trivial) rfl hl.1 rfl rfl (Nat.le_of_ble_eq_true rfl) dX6_sign_26 ?_
  refine z_bne (tgt := 41) hx hb dX6_sign_29 (by decide) (fun c_3 => ?_) (fun c_3 => by exfalso; rw [hy] at c_3; cases c_3)
  refine lv_aload_n hx hb dX6_sign_41 rfl (lv_at hl 0 rfl) ?_
  refine z_wrV (As := []) (rest := []) (q := (RX6, TX6, 11)) S hG (c_X6_record E hinj hct hok hrep hpa) 0 gX6_sign_X6_record rfl kX6_record ⟨Nat.le_of_ble_eq_true rfl, Nat.le_of_ble_eq_true rfl⟩ ⟨Nat.zero_le _, Nat.zero_le _⟩ (⟨h0, h1, h2, h3, h4, h5, h6⟩) rfl h0 rfl hl.1 rfl rfl (Nat.le_of_ble_eq_true rfl) dX6_sign_42 hS (fun _ h => h) (fun Hn locs h_5 q_4 o_6 hS => ?_)
  have hz : Hn.size = H.size := q_4.trans hz
  obtain ⟨past, ⟨h0, h1, h2, h3, h4, h5, h6⟩, hpa⟩ := h_5
  refine lv_aload_n hx hb dX6_sign_45 rfl (lv_at hl 0 rfl) ?_
  refine z_get (ref := RX6) (C := RX6) (T := TX6) (N := 11) hx hb hts hin6 hown hG h0 rfl 0 (by decide) (by decide +kernel) rfl rfl dX6_sign_46 ?_
  refine lv_bipush (v := nI (113)) hx hb dX6_sign_49 (by decide) ?_
  refine lv_iload_n hx hb dX6_sign_51 rfl (lv_at hl 1 rfl) ?_
  refine z_iadd hx hb dX6_sign_52 ?_
  refine lv_iload_n hx hb dX6_sign_53 rfl (lv_at hl 2 rfl) ?_
  refine z_iast (j := 113 + i) hx hb hG h1 ⟨by omega, by omega⟩ hS (⟨1, by decide, rfl⟩) dX6_sign_54 (fun Hn locs h_7 o_8 hS => ?_)
  have k_9 := va_at.kept h0 (o_8.2 _ (hinj.ne (by decide) (by decide) (by decide)))
  have k_10 := va_at.kept h2 (o_8.2 _ (hinj.ne (by decide) (by decide) (by decide)))
  have k_11 := va_at.kept h3 (o_8.2 _ (hinj.ne (by decide) (by decide) (by decide)))
  have k_12 := va_at.kept h4 (o_8.2 _ (hinj.ne (by decide) (by decide) (by decide)))
  have k_13 := va_at.kept h5 (o_8.2 _ (hinj.ne (by decide) (by decide) (by decide)))
  have k_14 := va_at.kept h6 (o_8.2 _ (hinj.ne (by decide) (by decide) (by decide)))
  have hz : Hn.size = H.size := o_8.1.trans hz
  refine lv_aload_n hx hb dX6_sign_55 rfl (lv_at hl 0 rfl) ?_
  refine z_get (ref := RX6) (C := RX6) (T := TX6) (N := 11) hx hb hts hin6 hown hG k_9 rfl 0 (by decide) (by decide +kernel) rfl rfl dX6_sign_56 ?_
  refine lv_bipush (v := nI (112)) hx hb dX6_sign_59 (by decide) ?_
  refine lv_dup2_11 hx hb dX6_sign_61 rfl rfl ?_
  refine z_iald (j := 112) hx hb hG h_7 ⟨by omega, by omega⟩ dX6_sign_62 ?_
  refine z_top (y := nI (zMl nw)) (by rw [zup_o (by omega)]; exact r4) ?_
  refine lv_iload_n hx hb dX6_sign_63 rfl (lv_at hl 1 rfl) ?_
  refine lv_aload_n hx hb dX6_sign_64 rfl (lv_at hl 0 rfl) ?_
  refine z_get (ref := RX6) (C := RX6) (T := TX6) (N := 11) hx hb hts hin6 hown hG k_9 rfl 0 (by decide) (by decide +kernel) rfl rfl dX6_sign_65 ?_
  refine lv_bipush (v := nI (112)) hx hb dX6_sign_68 (by decide) ?_
  refine z_iald (j := 112) hx hb hG h_7 ⟨by omega, by omega⟩ dX6_sign_70 ?_
  refine z_top (y := nI (zMl nw)) (by rw [zup_o (by omega)]; exact r4) ?_
  refine z_cne (tgt := 78) hx hb dX6_sign_71 (by decide) ⟨by omega, by omega⟩ (fun c_15 => ?_) (fun c_15 => by exfalso; omega)
  refine lv_iconst (v := nI (0)) hx hb dX6_sign_78 (by decide) ?_
  refine z_iadd hx hb dX6_sign_79 ?_
  refine z_iast (j := 112) hx hb hG h_7 ⟨by omega, by omega⟩ hS (⟨1, by decide, rfl⟩) dX6_sign_80 (fun Hn locs h_16 o_17 hS => ?_)
  have k_18 := va_at.kept k_9 (o_17.2 _ (hinj.ne (by decide) (by decide) (by decide)))
  have k_19 := va_at.kept k_10 (o_17.2 _ (hinj.ne (by decide) (by decide) (by decide)))
  have k_20 := va_at.kept k_11 (o_17.2 _ (hinj.ne (by decide) (by decide) (by decide)))
  have k_21 := va_at.kept k_12 (o_17.2 _ (hinj.ne (by decide) (by decide) (by decide)))
  have k_22 := va_at.kept k_13 (o_17.2 _ (hinj.ne (by decide) (by decide) (by decide)))
  have k_23 := va_at.kept k_14 (o_17.2 _ (hinj.ne (by decide) (by decide) (by decide)))
  have hz : Hn.size = H.size := o_17.1.trans hz
  refine lv_aload_n hx hb dX6_sign_81 rfl (lv_at hl 0 rfl) ?_
  refine z_get (ref := RX6) (C := RX6) (T := TX6) (N := 11) hx hb hts hin6 hown hG k_18 rfl 0 (by decide) (by decide +kernel) rfl rfl dX6_sign_82 ?_
  refine lv_bipush (v := nI (112)) hx hb dX6_sign_85 (by decide) ?_
  refine z_iald (j := 112) hx hb hG h_16 ⟨by omega, by omega⟩ dX6_sign_87 ?_
  refine z_top (y := nI (zMl nw + 0)) (zup_s) ?_
  exact hret _ _ _ _ _ hS (hz) dX6_sign_88 (rfl) (⟨_, _, _, _, _, _, _, _, ⟨k_18, h_16, k_19, k_20, k_21, k_22, k_23⟩, zRep_mo hok.B (fun k9 a b => by rw [zup_o (by omega), zup_o (by omega)]) zup_s (fun t ht => by rw [zup_o (by omega)]; show (if 113 + t = 113 + i then y else z (113 + t)) = (if t = i then y else zSg nw t); by_cases q : t = i; rw [if_pos (by omega), if_pos q]; rw [if_neg (by omega), if_neg q]; exact r5 t ht) hrep, hpa, hke, hbu⟩)

set_option maxHeartbeats 4000000 in
set_option maxRecDepth 100000 in
theorem c_X6_sign_3k (E : zEnv) {am : Nat → Nat} {nw sv : zS} {an : Bool} {hs : Nat → zS} {ct ln : Nat} {cd : Nat → Int32} {i : Nat} {y : Int32} (hok : zOk nw) (hinj : zInM am) (hct : ct ≤ 5) (hi6 : i = zMl nw ∧ i < 6) (hy : zin y 0 5 = true) : zWR E yX6_sign wsX6_sign 1 22 [.ref (am 0), .int (nI (i)), .int (y)] (fun H => zMW E am nw sv an hs ct ln cd H) (some (.int (nI (zMl nw + 1)))) (fun H => zMW E am (zsMo nw (zMl nw + 1) (upd (zSg nw) (zMl nw) y)) sv an (zrH hs ct nw) (zrC ct) ln cd H) (zAM am) := by
  refine zWR.ofI (maxL := 3) rfl (Nat.le_of_ble_eq_true rfl) (fun p e s m args below meth c H Q hF hP hret ls hl => ?_)
  have S : CallFix p m c cX6_sign 3 s args wsX6_sign RX6 := hF.1
  have hG := hF.2
  obtain ⟨hx, hb, hml, hown, hts⟩ := id S
  have hS : va_S (zAM am) H H [] := va_S.rf
  obtain ⟨locs, hlocs⟩ : ∃ x : List Loc, x = [] := ⟨_, rfl⟩
  rw [← hlocs] at hS ⊢
  have hz : H.size = H.size := rfl
  obtain ⟨z, past, kept, buf, rg, td, tm, nb, ⟨h0, h1, h2, h3, h4, h5, h6⟩, hrep, hpa, hke, hbu⟩ := hP
  obtain ⟨r1, rwt, r3, r4, r5, r6, r7⟩ := id hrep
  have hml6 := hok.2.2.2.1
  have hl : lv_has ls 3 [(0, .ref (am 0)), (1, .int (nI (i))), (2, .int (y))] := hl
  have hin6 : ∀ w ∈ u_ws RX6 TX6 11, w ∈ wsX6_sign := by decide +kernel
  refine lv_iload_n hx hb dX6_sign_0 rfl (lv_at hl 1 rfl) ?_
  refine lv_iconst (v := nI (0)) hx hb dX6_sign_1 (by decide) ?_
  refine lv_aload_n hx hb dX6_sign_2 rfl (lv_at hl 0 rfl) ?_
  refine z_get (ref := RX6) (C := RX6) (T := TX6) (N := 11) hx hb hts hin6 hown hG h0 rfl 0 (by decide) (by decide +kernel) rfl rfl dX6_sign_3 ?_
  refine lv_bipush (v := nI (112)) hx hb dX6_sign_6 (by decide) ?_
  refine z_iald (j := 112) hx hb hG h1 ⟨by omega, by omega⟩ dX6_sign_8 ?_
  refine z_top (y := nI (zMl nw)) (r4) ?_
  refine z_roSX (As := [.int (nI (i)), .int (nI (0)), .int (nI (zMl nw))]) (rest := []) S hG (c_X6_in E) 3 gX6_sign_X6_in rfl kX6_in.2 ⟨Nat.le_of_ble_eq_true rfl, Nat.le_of_ble_eq_true rfl⟩ ⟨Nat.zero_le _, Nat.zero_le _⟩ (trivial) rfl hl.1 rfl rfl (Nat.le_of_ble_eq_true rfl) dX6_sign_9 ?_
  refine z_beq (tgt := 21) hx hb dX6_sign_12 (by decide) (fun c_1 => by exfalso; rw [zin_y (Nat.zero_le _) (by omega) (by omega)] at c_1; cases c_1) (fun c_1 => ?_)
  refine lv_iload_n hx hb dX6_sign_15 rfl (lv_at hl 1 rfl) ?_
  refine lv_bipush (v := nI (6)) hx hb dX6_sign_16 (by decide) ?_
  refine z_cne (tgt := 23) hx hb dX6_sign_18 (by decide) ⟨by omega, by omega⟩ (fun c_2 => ?_) (fun c_2 => by exfalso; omega)
  refine lv_iload_n hx hb dX6_sign_23 rfl (lv_at hl 2 rfl) ?_
  refine lv_iconst (v := nI (0)) hx hb dX6_sign_24 (by decide) ?_
  refine lv_iconst (v := nI (5)) hx hb dX6_sign_25 (by decide) ?_
  refine z_roSX (As := [.int (y), .int (nI (0)), .int (nI (5))]) (rest := []) S hG (c_X6_in E) 3 gX6_sign_X6_in rfl kX6_in.2 ⟨Nat.le_of_ble_eq_true rfl, Nat.le_of_ble_eq_true rfl⟩ ⟨Nat.zero_le _, Nat.zero_le _⟩ (trivial) rfl hl.1 rfl rfl (Nat.le_of_ble_eq_true rfl) dX6_sign_26 ?_
  refine z_bne (tgt := 41) hx hb dX6_sign_29 (by decide) (fun c_3 => ?_) (fun c_3 => by exfalso; rw [hy] at c_3; cases c_3)
  refine lv_aload_n hx hb dX6_sign_41 rfl (lv_at hl 0 rfl) ?_
  refine z_wrV (As := []) (rest := []) (q := (RX6, TX6, 11)) S hG (c_X6_record E hinj hct hok hrep hpa) 0 gX6_sign_X6_record rfl kX6_record ⟨Nat.le_of_ble_eq_true rfl, Nat.le_of_ble_eq_true rfl⟩ ⟨Nat.zero_le _, Nat.zero_le _⟩ (⟨h0, h1, h2, h3, h4, h5, h6⟩) rfl h0 rfl hl.1 rfl rfl (Nat.le_of_ble_eq_true rfl) dX6_sign_42 hS (fun _ h => h) (fun Hn locs h_5 q_4 o_6 hS => ?_)
  have hz : Hn.size = H.size := q_4.trans hz
  obtain ⟨past, ⟨h0, h1, h2, h3, h4, h5, h6⟩, hpa⟩ := h_5
  refine lv_aload_n hx hb dX6_sign_45 rfl (lv_at hl 0 rfl) ?_
  refine z_get (ref := RX6) (C := RX6) (T := TX6) (N := 11) hx hb hts hin6 hown hG h0 rfl 0 (by decide) (by decide +kernel) rfl rfl dX6_sign_46 ?_
  refine lv_bipush (v := nI (113)) hx hb dX6_sign_49 (by decide) ?_
  refine lv_iload_n hx hb dX6_sign_51 rfl (lv_at hl 1 rfl) ?_
  refine z_iadd hx hb dX6_sign_52 ?_
  refine lv_iload_n hx hb dX6_sign_53 rfl (lv_at hl 2 rfl) ?_
  refine z_iast (j := 113 + i) hx hb hG h1 ⟨by omega, by omega⟩ hS (⟨1, by decide, rfl⟩) dX6_sign_54 (fun Hn locs h_7 o_8 hS => ?_)
  have k_9 := va_at.kept h0 (o_8.2 _ (hinj.ne (by decide) (by decide) (by decide)))
  have k_10 := va_at.kept h2 (o_8.2 _ (hinj.ne (by decide) (by decide) (by decide)))
  have k_11 := va_at.kept h3 (o_8.2 _ (hinj.ne (by decide) (by decide) (by decide)))
  have k_12 := va_at.kept h4 (o_8.2 _ (hinj.ne (by decide) (by decide) (by decide)))
  have k_13 := va_at.kept h5 (o_8.2 _ (hinj.ne (by decide) (by decide) (by decide)))
  have k_14 := va_at.kept h6 (o_8.2 _ (hinj.ne (by decide) (by decide) (by decide)))
  have hz : Hn.size = H.size := o_8.1.trans hz
  refine lv_aload_n hx hb dX6_sign_55 rfl (lv_at hl 0 rfl) ?_
  refine z_get (ref := RX6) (C := RX6) (T := TX6) (N := 11) hx hb hts hin6 hown hG k_9 rfl 0 (by decide) (by decide +kernel) rfl rfl dX6_sign_56 ?_
  refine lv_bipush (v := nI (112)) hx hb dX6_sign_59 (by decide) ?_
  refine lv_dup2_11 hx hb dX6_sign_61 rfl rfl ?_
  refine z_iald (j := 112) hx hb hG h_7 ⟨by omega, by omega⟩ dX6_sign_62 ?_
  refine z_top (y := nI (zMl nw)) (by rw [zup_o (by omega)]; exact r4) ?_
  refine lv_iload_n hx hb dX6_sign_63 rfl (lv_at hl 1 rfl) ?_
  refine lv_aload_n hx hb dX6_sign_64 rfl (lv_at hl 0 rfl) ?_
  refine z_get (ref := RX6) (C := RX6) (T := TX6) (N := 11) hx hb hts hin6 hown hG k_9 rfl 0 (by decide) (by decide +kernel) rfl rfl dX6_sign_65 ?_
  refine lv_bipush (v := nI (112)) hx hb dX6_sign_68 (by decide) ?_
  refine z_iald (j := 112) hx hb hG h_7 ⟨by omega, by omega⟩ dX6_sign_70 ?_
  refine z_top (y := nI (zMl nw)) (by rw [zup_o (by omega)]; exact r4) ?_
  refine z_cne (tgt := 78) hx hb dX6_sign_71 (by decide) ⟨by omega, by omega⟩ (fun c_15 => by exfalso; omega) (fun c_15 => ?_)
  refine lv_iconst (v := nI (1)) hx hb dX6_sign_74 (by decide) ?_
  refine lv_goto (tgt := 79) hx hb dX6_sign_75 (by decide) ?_
  refine z_iadd hx hb dX6_sign_79 ?_
  refine z_iast (j := 112) hx hb hG h_7 ⟨by omega, by omega⟩ hS (⟨1, by decide, rfl⟩) dX6_sign_80 (fun Hn locs h_16 o_17 hS => ?_)
  have k_18 := va_at.kept k_9 (o_17.2 _ (hinj.ne (by decide) (by decide) (by decide)))
  have k_19 := va_at.kept k_10 (o_17.2 _ (hinj.ne (by decide) (by decide) (by decide)))
  have k_20 := va_at.kept k_11 (o_17.2 _ (hinj.ne (by decide) (by decide) (by decide)))
  have k_21 := va_at.kept k_12 (o_17.2 _ (hinj.ne (by decide) (by decide) (by decide)))
  have k_22 := va_at.kept k_13 (o_17.2 _ (hinj.ne (by decide) (by decide) (by decide)))
  have k_23 := va_at.kept k_14 (o_17.2 _ (hinj.ne (by decide) (by decide) (by decide)))
  have hz : Hn.size = H.size := o_17.1.trans hz
  refine lv_aload_n hx hb dX6_sign_81 rfl (lv_at hl 0 rfl) ?_
  refine z_get (ref := RX6) (C := RX6) (T := TX6) (N := 11) hx hb hts hin6 hown hG k_18 rfl 0 (by decide) (by decide +kernel) rfl rfl dX6_sign_82 ?_
  refine lv_bipush (v := nI (112)) hx hb dX6_sign_85 (by decide) ?_
  refine z_iald (j := 112) hx hb hG h_16 ⟨by omega, by omega⟩ dX6_sign_87 ?_
  refine z_top (y := nI (zMl nw + 1)) (zup_s) ?_
  exact hret _ _ _ _ _ hS (hz) dX6_sign_88 (rfl) (⟨_, _, _, _, _, _, _, _, ⟨k_18, h_16, k_19, k_20, k_21, k_22, k_23⟩, zRep_mo hok.B (fun k9 a b => by rw [zup_o (by omega), zup_o (by omega)]) zup_s (fun t ht => by rw [zup_o (by omega)]; show (if 113 + t = 113 + i then y else z (113 + t)) = (if t = zMl nw then y else zSg nw t); by_cases q : t = zMl nw; rw [if_pos (by omega), if_pos q]; rw [if_neg (by omega), if_neg q]; exact r5 t (by omega)) hrep, hpa, hke, hbu⟩)

set_option maxHeartbeats 4000000 in
set_option maxRecDepth 100000 in
theorem c_X6_sign_2a (E : zEnv) {am : Nat → Nat} {nw sv : zS} {an : Bool} {hs : Nat → zS} {ct ln : Nat} {cd : Nat → Int32} {i : Nat} {y : Int32} (hok : zOk nw) (hinj : zInM am) (hct : ct ≤ 5) (hi6 : i < zMl nw) (hy : zin y 0 5 = false) (hy9 : y = nI 9) : zWR E yX6_sign wsX6_sign 1 22 [.ref (am 0), .int (nI (i)), .int (y)] (fun H => zMW E am nw sv an hs ct ln cd H) (some (.int (nI (zMl nw)))) (fun H => zMW E am (zsMo nw (zMl nw) (upd (zSg nw) i y)) sv an (zrH hs ct nw) (zrC ct) ln cd H) (zAM am) := by
  refine zWR.ofI (maxL := 3) rfl (Nat.le_of_ble_eq_true rfl) (fun p e s m args below meth c H Q hF hP hret ls hl => ?_)
  have S : CallFix p m c cX6_sign 3 s args wsX6_sign RX6 := hF.1
  have hG := hF.2
  obtain ⟨hx, hb, hml, hown, hts⟩ := id S
  have hS : va_S (zAM am) H H [] := va_S.rf
  obtain ⟨locs, hlocs⟩ : ∃ x : List Loc, x = [] := ⟨_, rfl⟩
  rw [← hlocs] at hS ⊢
  have hz : H.size = H.size := rfl
  obtain ⟨z, past, kept, buf, rg, td, tm, nb, ⟨h0, h1, h2, h3, h4, h5, h6⟩, hrep, hpa, hke, hbu⟩ := hP
  obtain ⟨r1, rwt, r3, r4, r5, r6, r7⟩ := id hrep
  have hml6 := hok.2.2.2.1
  have hl : lv_has ls 3 [(0, .ref (am 0)), (1, .int (nI (i))), (2, .int (y))] := hl
  have hin6 : ∀ w ∈ u_ws RX6 TX6 11, w ∈ wsX6_sign := by decide +kernel
  refine lv_iload_n hx hb dX6_sign_0 rfl (lv_at hl 1 rfl) ?_
  refine lv_iconst (v := nI (0)) hx hb dX6_sign_1 (by decide) ?_
  refine lv_aload_n hx hb dX6_sign_2 rfl (lv_at hl 0 rfl) ?_
  refine z_get (ref := RX6) (C := RX6) (T := TX6) (N := 11) hx hb hts hin6 hown hG h0 rfl 0 (by decide) (by decide +kernel) rfl rfl dX6_sign_3 ?_
  refine lv_bipush (v := nI (112)) hx hb dX6_sign_6 (by decide) ?_
  refine z_iald (j := 112) hx hb hG h1 ⟨by omega, by omega⟩ dX6_sign_8 ?_
  refine z_top (y := nI (zMl nw)) (r4) ?_
  refine z_roSX (As := [.int (nI (i)), .int (nI (0)), .int (nI (zMl nw))]) (rest := []) S hG (c_X6_in E) 3 gX6_sign_X6_in rfl kX6_in.2 ⟨Nat.le_of_ble_eq_true rfl, Nat.le_of_ble_eq_true rfl⟩ ⟨Nat.zero_le _, Nat.zero_le _⟩ (trivial) rfl hl.1 rfl rfl (Nat.le_of_ble_eq_true rfl) dX6_sign_9 ?_
  refine z_beq (tgt := 21) hx hb dX6_sign_12 (by decide) (fun c_1 => by exfalso; rw [zin_y (Nat.zero_le _) (by omega) (by omega)] at c_1; cases c_1) (fun c_1 => ?_)
  refine lv_iload_n hx hb dX6_sign_15 rfl (lv_at hl 1 rfl) ?_
  refine lv_bipush (v := nI (6)) hx hb dX6_sign_16 (by decide) ?_
  refine z_cne (tgt := 23) hx hb dX6_sign_18 (by decide) ⟨by omega, by omega⟩ (fun c_2 => ?_) (fun c_2 => by exfalso; omega)
  refine lv_iload_n hx hb dX6_sign_23 rfl (lv_at hl 2 rfl) ?_
  refine lv_iconst (v := nI (0)) hx hb dX6_sign_24 (by decide) ?_
  refine lv_iconst (v := nI (5)) hx hb dX6_sign_25 (by decide) ?_
  refine z_roSX (As := [.int (y), .int (nI (0)), .int (nI (5))]) (rest := []) S hG (c_X6_in E) 3 gX6_sign_X6_in rfl kX6_in.2 ⟨Nat.le_of_ble_eq_true rfl, Nat.le_of_ble_eq_true rfl⟩ ⟨Nat.zero_le _, Nat.zero_le _⟩ (trivial) rfl hl.1 rfl rfl (Nat.le_of_ble_eq_true rfl) dX6_sign_26 ?_
  refine z_bne (tgt := 41) hx hb dX6_sign_29 (by decide) (fun c_3 => by exfalso; rw [hy] at c_3; cases c_3) (fun c_3 => ?_)
  refine lv_iload_n hx hb dX6_sign_32 rfl (lv_at hl 2 rfl) ?_
  refine lv_bipush (v := nI (9)) hx hb dX6_sign_33 (by decide) ?_
  refine lv_icmp_eq (tgt := 41) hx hb dX6_sign_35 (by decide) (fun c_4 => ?_) (fun c_4 => by exfalso; exact c_4 hy9)
  refine lv_aload_n hx hb dX6_sign_41 rfl (lv_at hl 0 rfl) ?_
  refine z_wrV (As := []) (rest := []) (q := (RX6, TX6, 11)) S hG (c_X6_record E hinj hct hok hrep hpa) 0 gX6_sign_X6_record rfl kX6_record ⟨Nat.le_of_ble_eq_true rfl, Nat.le_of_ble_eq_true rfl⟩ ⟨Nat.zero_le _, Nat.zero_le _⟩ (⟨h0, h1, h2, h3, h4, h5, h6⟩) rfl h0 rfl hl.1 rfl rfl (Nat.le_of_ble_eq_true rfl) dX6_sign_42 hS (fun _ h => h) (fun Hn locs h_6 q_5 o_7 hS => ?_)
  have hz : Hn.size = H.size := q_5.trans hz
  obtain ⟨past, ⟨h0, h1, h2, h3, h4, h5, h6⟩, hpa⟩ := h_6
  refine lv_aload_n hx hb dX6_sign_45 rfl (lv_at hl 0 rfl) ?_
  refine z_get (ref := RX6) (C := RX6) (T := TX6) (N := 11) hx hb hts hin6 hown hG h0 rfl 0 (by decide) (by decide +kernel) rfl rfl dX6_sign_46 ?_
  refine lv_bipush (v := nI (113)) hx hb dX6_sign_49 (by decide) ?_
  refine lv_iload_n hx hb dX6_sign_51 rfl (lv_at hl 1 rfl) ?_
  refine z_iadd hx hb dX6_sign_52 ?_
  refine lv_iload_n hx hb dX6_sign_53 rfl (lv_at hl 2 rfl) ?_
  refine z_iast (j := 113 + i) hx hb hG h1 ⟨by omega, by omega⟩ hS (⟨1, by decide, rfl⟩) dX6_sign_54 (fun Hn locs h_8 o_9 hS => ?_)
  have k_10 := va_at.kept h0 (o_9.2 _ (hinj.ne (by decide) (by decide) (by decide)))
  have k_11 := va_at.kept h2 (o_9.2 _ (hinj.ne (by decide) (by decide) (by decide)))
  have k_12 := va_at.kept h3 (o_9.2 _ (hinj.ne (by decide) (by decide) (by decide)))
  have k_13 := va_at.kept h4 (o_9.2 _ (hinj.ne (by decide) (by decide) (by decide)))
  have k_14 := va_at.kept h5 (o_9.2 _ (hinj.ne (by decide) (by decide) (by decide)))
  have k_15 := va_at.kept h6 (o_9.2 _ (hinj.ne (by decide) (by decide) (by decide)))
  have hz : Hn.size = H.size := o_9.1.trans hz
  refine lv_aload_n hx hb dX6_sign_55 rfl (lv_at hl 0 rfl) ?_
  refine z_get (ref := RX6) (C := RX6) (T := TX6) (N := 11) hx hb hts hin6 hown hG k_10 rfl 0 (by decide) (by decide +kernel) rfl rfl dX6_sign_56 ?_
  refine lv_bipush (v := nI (112)) hx hb dX6_sign_59 (by decide) ?_
  refine lv_dup2_11 hx hb dX6_sign_61 rfl rfl ?_
  refine z_iald (j := 112) hx hb hG h_8 ⟨by omega, by omega⟩ dX6_sign_62 ?_
  refine z_top (y := nI (zMl nw)) (by rw [zup_o (by omega)]; exact r4) ?_
  refine lv_iload_n hx hb dX6_sign_63 rfl (lv_at hl 1 rfl) ?_
  refine lv_aload_n hx hb dX6_sign_64 rfl (lv_at hl 0 rfl) ?_
  refine z_get (ref := RX6) (C := RX6) (T := TX6) (N := 11) hx hb hts hin6 hown hG k_10 rfl 0 (by decide) (by decide +kernel) rfl rfl dX6_sign_65 ?_
  refine lv_bipush (v := nI (112)) hx hb dX6_sign_68 (by decide) ?_
  refine z_iald (j := 112) hx hb hG h_8 ⟨by omega, by omega⟩ dX6_sign_70 ?_
  refine z_top (y := nI (zMl nw)) (by rw [zup_o (by omega)]; exact r4) ?_
  refine z_cne (tgt := 78) hx hb dX6_sign_71 (by decide) ⟨by omega, by omega⟩ (fun c_16 => ?_) (fun c_16 => by exfalso; omega)
  refine lv_iconst (v := nI (0)) hx hb dX6_sign_78 (by decide) ?_
  refine z_iadd hx hb dX6_sign_79 ?_
  refine z_iast (j := 112) hx hb hG h_8 ⟨by omega, by omega⟩ hS (⟨1, by decide, rfl⟩) dX6_sign_80 (fun Hn locs h_17 o_18 hS => ?_)
  have k_19 := va_at.kept k_10 (o_18.2 _ (hinj.ne (by decide) (by decide) (by decide)))
  have k_20 := va_at.kept k_11 (o_18.2 _ (hinj.ne (by decide) (by decide) (by decide)))
  have k_21 := va_at.kept k_12 (o_18.2 _ (hinj.ne (by decide) (by decide) (by decide)))
  have k_22 := va_at.kept k_13 (o_18.2 _ (hinj.ne (by decide) (by decide) (by decide)))
  have k_23 := va_at.kept k_14 (o_18.2 _ (hinj.ne (by decide) (by decide) (by decide)))
  have k_24 := va_at.kept k_15 (o_18.2 _ (hinj.ne (by decide) (by decide) (by decide)))
  have hz : Hn.size = H.size := o_18.1.trans hz
  refine lv_aload_n hx hb dX6_sign_81 rfl (lv_at hl 0 rfl) ?_
  refine z_get (ref := RX6) (C := RX6) (T := TX6) (N := 11) hx hb hts hin6 hown hG k_19 rfl 0 (by decide) (by decide +kernel) rfl rfl dX6_sign_82 ?_
  refine lv_bipush (v := nI (112)) hx hb dX6_sign_85 (by decide) ?_
  refine z_iald (j := 112) hx hb hG h_17 ⟨by omega, by omega⟩ dX6_sign_87 ?_
  refine z_top (y := nI (zMl nw + 0)) (zup_s) ?_
  exact hret _ _ _ _ _ hS (hz) dX6_sign_88 (rfl) (⟨_, _, _, _, _, _, _, _, ⟨k_19, h_17, k_20, k_21, k_22, k_23, k_24⟩, zRep_mo hok.B (fun k9 a b => by rw [zup_o (by omega), zup_o (by omega)]) zup_s (fun t ht => by rw [zup_o (by omega)]; show (if 113 + t = 113 + i then y else z (113 + t)) = (if t = i then y else zSg nw t); by_cases q : t = i; rw [if_pos (by omega), if_pos q]; rw [if_neg (by omega), if_neg q]; exact r5 t ht) hrep, hpa, hke, hbu⟩)

set_option maxHeartbeats 4000000 in
set_option maxRecDepth 100000 in
theorem c_X6_sign_3a (E : zEnv) {am : Nat → Nat} {nw sv : zS} {an : Bool} {hs : Nat → zS} {ct ln : Nat} {cd : Nat → Int32} {i : Nat} {y : Int32} (hok : zOk nw) (hinj : zInM am) (hct : ct ≤ 5) (hi6 : i = zMl nw ∧ i < 6) (hy : zin y 0 5 = false) (hy9 : y = nI 9) : zWR E yX6_sign wsX6_sign 1 22 [.ref (am 0), .int (nI (i)), .int (y)] (fun H => zMW E am nw sv an hs ct ln cd H) (some (.int (nI (zMl nw + 1)))) (fun H => zMW E am (zsMo nw (zMl nw + 1) (upd (zSg nw) (zMl nw) y)) sv an (zrH hs ct nw) (zrC ct) ln cd H) (zAM am) := by
  refine zWR.ofI (maxL := 3) rfl (Nat.le_of_ble_eq_true rfl) (fun p e s m args below meth c H Q hF hP hret ls hl => ?_)
  have S : CallFix p m c cX6_sign 3 s args wsX6_sign RX6 := hF.1
  have hG := hF.2
  obtain ⟨hx, hb, hml, hown, hts⟩ := id S
  have hS : va_S (zAM am) H H [] := va_S.rf
  obtain ⟨locs, hlocs⟩ : ∃ x : List Loc, x = [] := ⟨_, rfl⟩
  rw [← hlocs] at hS ⊢
  have hz : H.size = H.size := rfl
  obtain ⟨z, past, kept, buf, rg, td, tm, nb, ⟨h0, h1, h2, h3, h4, h5, h6⟩, hrep, hpa, hke, hbu⟩ := hP
  obtain ⟨r1, rwt, r3, r4, r5, r6, r7⟩ := id hrep
  have hml6 := hok.2.2.2.1
  have hl : lv_has ls 3 [(0, .ref (am 0)), (1, .int (nI (i))), (2, .int (y))] := hl
  have hin6 : ∀ w ∈ u_ws RX6 TX6 11, w ∈ wsX6_sign := by decide +kernel
  refine lv_iload_n hx hb dX6_sign_0 rfl (lv_at hl 1 rfl) ?_
  refine lv_iconst (v := nI (0)) hx hb dX6_sign_1 (by decide) ?_
  refine lv_aload_n hx hb dX6_sign_2 rfl (lv_at hl 0 rfl) ?_
  refine z_get (ref := RX6) (C := RX6) (T := TX6) (N := 11) hx hb hts hin6 hown hG h0 rfl 0 (by decide) (by decide +kernel) rfl rfl dX6_sign_3 ?_
  refine lv_bipush (v := nI (112)) hx hb dX6_sign_6 (by decide) ?_
  refine z_iald (j := 112) hx hb hG h1 ⟨by omega, by omega⟩ dX6_sign_8 ?_
  refine z_top (y := nI (zMl nw)) (r4) ?_
  refine z_roSX (As := [.int (nI (i)), .int (nI (0)), .int (nI (zMl nw))]) (rest := []) S hG (c_X6_in E) 3 gX6_sign_X6_in rfl kX6_in.2 ⟨Nat.le_of_ble_eq_true rfl, Nat.le_of_ble_eq_true rfl⟩ ⟨Nat.zero_le _, Nat.zero_le _⟩ (trivial) rfl hl.1 rfl rfl (Nat.le_of_ble_eq_true rfl) dX6_sign_9 ?_
  refine z_beq (tgt := 21) hx hb dX6_sign_12 (by decide) (fun c_1 => by exfalso; rw [zin_y (Nat.zero_le _) (by omega) (by omega)] at c_1; cases c_1) (fun c_1 => ?_)
  refine lv_iload_n hx hb dX6_sign_15 rfl (lv_at hl 1 rfl) ?_
  refine lv_bipush (v := nI (6)) hx hb dX6_sign_16 (by decide) ?_
  refine z_cne (tgt := 23) hx hb dX6_sign_18 (by decide) ⟨by omega, by omega⟩ (fun c_2 => ?_) (fun c_2 => by exfalso; omega)
  refine lv_iload_n hx hb dX6_sign_23 rfl (lv_at hl 2 rfl) ?_
  refine lv_iconst (v := nI (0)) hx hb dX6_sign_24 (by decide) ?_
  refine lv_iconst (v := nI (5)) hx hb dX6_sign_25 (by decide) ?_
  refine z_roSX (As := [.int (y), .int (nI (0)), .int (nI (5))]) (rest := []) S hG (c_X6_in E) 3 gX6_sign_X6_in rfl kX6_in.2 ⟨Nat.le_of_ble_eq_true rfl, Nat.le_of_ble_eq_true rfl⟩ ⟨Nat.zero_le _, Nat.zero_le _⟩ (trivial) rfl hl.1 rfl rfl (Nat.le_of_ble_eq_true rfl) dX6_sign_26 ?_
  refine z_bne (tgt := 41) hx hb dX6_sign_29 (by decide) (fun c_3 => by exfalso; rw [hy] at c_3; cases c_3) (fun c_3 => ?_)
  refine lv_iload_n hx hb dX6_sign_32 rfl (lv_at hl 2 rfl) ?_
  refine lv_bipush (v := nI (9)) hx hb dX6_sign_33 (by decide) ?_
  refine lv_icmp_eq (tgt := 41) hx hb dX6_sign_35 (by decide) (fun c_4 => ?_) (fun c_4 => by exfalso; exact c_4 hy9)
  refine lv_aload_n hx hb dX6_sign_41 rfl (lv_at hl 0 rfl) ?_
  refine z_wrV (As := []) (rest := []) (q := (RX6, TX6, 11)) S hG (c_X6_record E hinj hct hok hrep hpa) 0 gX6_sign_X6_record rfl kX6_record ⟨Nat.le_of_ble_eq_true rfl, Nat.le_of_ble_eq_true rfl⟩ ⟨Nat.zero_le _, Nat.zero_le _⟩ (⟨h0, h1, h2, h3, h4, h5, h6⟩) rfl h0 rfl hl.1 rfl rfl (Nat.le_of_ble_eq_true rfl) dX6_sign_42 hS (fun _ h => h) (fun Hn locs h_6 q_5 o_7 hS => ?_)
  have hz : Hn.size = H.size := q_5.trans hz
  obtain ⟨past, ⟨h0, h1, h2, h3, h4, h5, h6⟩, hpa⟩ := h_6
  refine lv_aload_n hx hb dX6_sign_45 rfl (lv_at hl 0 rfl) ?_
  refine z_get (ref := RX6) (C := RX6) (T := TX6) (N := 11) hx hb hts hin6 hown hG h0 rfl 0 (by decide) (by decide +kernel) rfl rfl dX6_sign_46 ?_
  refine lv_bipush (v := nI (113)) hx hb dX6_sign_49 (by decide) ?_
  refine lv_iload_n hx hb dX6_sign_51 rfl (lv_at hl 1 rfl) ?_
  refine z_iadd hx hb dX6_sign_52 ?_
  refine lv_iload_n hx hb dX6_sign_53 rfl (lv_at hl 2 rfl) ?_
  refine z_iast (j := 113 + i) hx hb hG h1 ⟨by omega, by omega⟩ hS (⟨1, by decide, rfl⟩) dX6_sign_54 (fun Hn locs h_8 o_9 hS => ?_)
  have k_10 := va_at.kept h0 (o_9.2 _ (hinj.ne (by decide) (by decide) (by decide)))
  have k_11 := va_at.kept h2 (o_9.2 _ (hinj.ne (by decide) (by decide) (by decide)))
  have k_12 := va_at.kept h3 (o_9.2 _ (hinj.ne (by decide) (by decide) (by decide)))
  have k_13 := va_at.kept h4 (o_9.2 _ (hinj.ne (by decide) (by decide) (by decide)))
  have k_14 := va_at.kept h5 (o_9.2 _ (hinj.ne (by decide) (by decide) (by decide)))
  have k_15 := va_at.kept h6 (o_9.2 _ (hinj.ne (by decide) (by decide) (by decide)))
  have hz : Hn.size = H.size := o_9.1.trans hz
  refine lv_aload_n hx hb dX6_sign_55 rfl (lv_at hl 0 rfl) ?_
  refine z_get (ref := RX6) (C := RX6) (T := TX6) (N := 11) hx hb hts hin6 hown hG k_10 rfl 0 (by decide) (by decide +kernel) rfl rfl dX6_sign_56 ?_
  refine lv_bipush (v := nI (112)) hx hb dX6_sign_59 (by decide) ?_
  refine lv_dup2_11 hx hb dX6_sign_61 rfl rfl ?_
  refine z_iald (j := 112) hx hb hG h_8 ⟨by omega, by omega⟩ dX6_sign_62 ?_
  refine z_top (y := nI (zMl nw)) (by rw [zup_o (by omega)]; exact r4) ?_
  refine lv_iload_n hx hb dX6_sign_63 rfl (lv_at hl 1 rfl) ?_
  refine lv_aload_n hx hb dX6_sign_64 rfl (lv_at hl 0 rfl) ?_
  refine z_get (ref := RX6) (C := RX6) (T := TX6) (N := 11) hx hb hts hin6 hown hG k_10 rfl 0 (by decide) (by decide +kernel) rfl rfl dX6_sign_65 ?_
  refine lv_bipush (v := nI (112)) hx hb dX6_sign_68 (by decide) ?_
  refine z_iald (j := 112) hx hb hG h_8 ⟨by omega, by omega⟩ dX6_sign_70 ?_
  refine z_top (y := nI (zMl nw)) (by rw [zup_o (by omega)]; exact r4) ?_
  refine z_cne (tgt := 78) hx hb dX6_sign_71 (by decide) ⟨by omega, by omega⟩ (fun c_16 => by exfalso; omega) (fun c_16 => ?_)
  refine lv_iconst (v := nI (1)) hx hb dX6_sign_74 (by decide) ?_
  refine lv_goto (tgt := 79) hx hb dX6_sign_75 (by decide) ?_
  refine z_iadd hx hb dX6_sign_79 ?_
  refine z_iast (j := 112) hx hb hG h_8 ⟨by omega, by omega⟩ hS (⟨1, by decide, rfl⟩) dX6_sign_80 (fun Hn locs h_17 o_18 hS => ?_)
  have k_19 := va_at.kept k_10 (o_18.2 _ (hinj.ne (by decide) (by decide) (by decide)))
  have k_20 := va_at.kept k_11 (o_18.2 _ (hinj.ne (by decide) (by decide) (by decide)))
  have k_21 := va_at.kept k_12 (o_18.2 _ (hinj.ne (by decide) (by decide) (by decide)))
  have k_22 := va_at.kept k_13 (o_18.2 _ (hinj.ne (by decide) (by decide) (by decide)))
  have k_23 := va_at.kept k_14 (o_18.2 _ (hinj.ne (by decide) (by decide) (by decide)))
  have k_24 := va_at.kept k_15 (o_18.2 _ (hinj.ne (by decide) (by decide) (by decide)))
  have hz : Hn.size = H.size := o_18.1.trans hz
  refine lv_aload_n hx hb dX6_sign_81 rfl (lv_at hl 0 rfl) ?_
  refine z_get (ref := RX6) (C := RX6) (T := TX6) (N := 11) hx hb hts hin6 hown hG k_19 rfl 0 (by decide) (by decide +kernel) rfl rfl dX6_sign_82 ?_
  refine lv_bipush (v := nI (112)) hx hb dX6_sign_85 (by decide) ?_
  refine z_iald (j := 112) hx hb hG h_17 ⟨by omega, by omega⟩ dX6_sign_87 ?_
  refine z_top (y := nI (zMl nw + 1)) (zup_s) ?_
  exact hret _ _ _ _ _ hS (hz) dX6_sign_88 (rfl) (⟨_, _, _, _, _, _, _, _, ⟨k_19, h_17, k_20, k_21, k_22, k_23, k_24⟩, zRep_mo hok.B (fun k9 a b => by rw [zup_o (by omega), zup_o (by omega)]) zup_s (fun t ht => by rw [zup_o (by omega)]; show (if 113 + t = 113 + i then y else z (113 + t)) = (if t = zMl nw then y else zSg nw t); by_cases q : t = zMl nw; rw [if_pos (by omega), if_pos q]; rw [if_neg (by omega), if_neg q]; exact r5 t (by omega)) hrep, hpa, hke, hbu⟩)

set_option maxHeartbeats 4000000 in
set_option maxRecDepth 100000 in
theorem c_X6_cutMotif_0 (E : zEnv) {am : Nat → Nat} {nw sv : zS} {an : Bool} {hs : Nat → zS} {ct ln : Nat} {cd : Nat → Int32}  (hok : zOk nw) (hinj : zInM am) (hct : ct ≤ 5) (h09 : zMl nw = 0) : zWR E yX6_cutMotif wsX6_cutMotif 1 21 [.ref (am 0)] (fun H => zMW E am nw sv an hs ct ln cd H) (some (.int (-3))) (fun H => zMW E am nw sv an hs ct ln cd H) (zAM am) := by
  refine zWR.ofI (maxL := 1) rfl (Nat.le_of_ble_eq_true rfl) (fun p e s m args below meth c H Q hF hP hret ls hl => ?_)
  have S : CallFix p m c cX6_cutMotif 1 s args wsX6_cutMotif RX6 := hF.1
  have hG := hF.2
  obtain ⟨hx, hb, hml, hown, hts⟩ := id S
  have hS : va_S (zAM am) H H [] := va_S.rf
  obtain ⟨locs, hlocs⟩ : ∃ x : List Loc, x = [] := ⟨_, rfl⟩
  rw [← hlocs] at hS ⊢
  have hz : H.size = H.size := rfl
  obtain ⟨z, past, kept, buf, rg, td, tm, nb, ⟨h0, h1, h2, h3, h4, h5, h6⟩, hrep, hpa, hke, hbu⟩ := hP
  obtain ⟨r1, rwt, r3, r4, r5, r6, r7⟩ := id hrep
  have hml6 := hok.2.2.2.1
  have hl : lv_has ls 1 [(0, .ref (am 0))] := hl
  have hin6 : ∀ w ∈ u_ws RX6 TX6 11, w ∈ wsX6_cutMotif := by decide +kernel
  refine lv_aload_n hx hb dX6_cutMotif_0 rfl (lv_at hl 0 rfl) ?_
  refine z_get (ref := RX6) (C := RX6) (T := TX6) (N := 11) hx hb hts hin6 hown hG h0 rfl 0 (by decide) (by decide +kernel) rfl rfl dX6_cutMotif_1 ?_
  refine lv_bipush (v := nI (112)) hx hb dX6_cutMotif_4 (by decide) ?_
  refine z_iald (j := 112) hx hb hG h1 ⟨by omega, by omega⟩ dX6_cutMotif_6 ?_
  refine z_top (y := nI (zMl nw)) (r4) ?_
  refine z_fne (tgt := 13) hx hb dX6_cutMotif_7 (by decide) (by omega) (fun c_1 => by exfalso; omega) (fun c_1 => ?_)
  refine lv_bipush (v := (-3)) hx hb dX6_cutMotif_10 (by decide) ?_
  exact hret _ _ _ _ _ hS (hz) dX6_cutMotif_12 (rfl) (⟨_, _, _, _, _, _, _, _, ⟨h0, h1, h2, h3, h4, h5, h6⟩, hrep, hpa, hke, hbu⟩)

set_option maxHeartbeats 4000000 in
set_option maxRecDepth 100000 in
theorem c_X6_cutMotif_1 (E : zEnv) {am : Nat → Nat} {nw sv : zS} {an : Bool} {hs : Nat → zS} {ct ln : Nat} {cd : Nat → Int32}  (hok : zOk nw) (hinj : zInM am) (hct : ct ≤ 5) (h09 : 0 < zMl nw) : zWR E yX6_cutMotif wsX6_cutMotif 1 21 [.ref (am 0)] (fun H => zMW E am nw sv an hs ct ln cd H) (some (.int (nI (zMl nw - 1)))) (fun H => zMW E am (zsMo nw (zMl nw - 1) (zSg nw)) sv an (zrH hs ct nw) (zrC ct) ln cd H) (zAM am) := by
  refine zWR.ofI (maxL := 1) rfl (Nat.le_of_ble_eq_true rfl) (fun p e s m args below meth c H Q hF hP hret ls hl => ?_)
  have S : CallFix p m c cX6_cutMotif 1 s args wsX6_cutMotif RX6 := hF.1
  have hG := hF.2
  obtain ⟨hx, hb, hml, hown, hts⟩ := id S
  have hS : va_S (zAM am) H H [] := va_S.rf
  obtain ⟨locs, hlocs⟩ : ∃ x : List Loc, x = [] := ⟨_, rfl⟩
  rw [← hlocs] at hS ⊢
  have hz : H.size = H.size := rfl
  obtain ⟨z, past, kept, buf, rg, td, tm, nb, ⟨h0, h1, h2, h3, h4, h5, h6⟩, hrep, hpa, hke, hbu⟩ := hP
  obtain ⟨r1, rwt, r3, r4, r5, r6, r7⟩ := id hrep
  have hml6 := hok.2.2.2.1
  have hl : lv_has ls 1 [(0, .ref (am 0))] := hl
  have hin6 : ∀ w ∈ u_ws RX6 TX6 11, w ∈ wsX6_cutMotif := by decide +kernel
  refine lv_aload_n hx hb dX6_cutMotif_0 rfl (lv_at hl 0 rfl) ?_
  refine z_get (ref := RX6) (C := RX6) (T := TX6) (N := 11) hx hb hts hin6 hown hG h0 rfl 0 (by decide) (by decide +kernel) rfl rfl dX6_cutMotif_1 ?_
  refine lv_bipush (v := nI (112)) hx hb dX6_cutMotif_4 (by decide) ?_
  refine z_iald (j := 112) hx hb hG h1 ⟨by omega, by omega⟩ dX6_cutMotif_6 ?_
  refine z_top (y := nI (zMl nw)) (r4) ?_
  refine z_fne (tgt := 13) hx hb dX6_cutMotif_7 (by decide) (by omega) (fun c_1 => ?_) (fun c_1 => by exfalso; omega)
  refine lv_aload_n hx hb dX6_cutMotif_13 rfl (lv_at hl 0 rfl) ?_
  refine z_wrV (As := []) (rest := []) (q := (RX6, TX6, 11)) S hG (c_X6_record E hinj hct hok hrep hpa) 0 gX6_cutMotif_X6_record rfl kX6_record ⟨Nat.le_of_ble_eq_true rfl, Nat.le_of_ble_eq_true rfl⟩ ⟨Nat.zero_le _, Nat.zero_le _⟩ (⟨h0, h1, h2, h3, h4, h5, h6⟩) rfl h0 rfl hl.1 rfl rfl (Nat.le_of_ble_eq_true rfl) dX6_cutMotif_14 hS (fun _ h => h) (fun Hn locs h_3 q_2 o_4 hS => ?_)
  have hz : Hn.size = H.size := q_2.trans hz
  obtain ⟨past, ⟨h0, h1, h2, h3, h4, h5, h6⟩, hpa⟩ := h_3
  refine lv_aload_n hx hb dX6_cutMotif_17 rfl (lv_at hl 0 rfl) ?_
  refine z_get (ref := RX6) (C := RX6) (T := TX6) (N := 11) hx hb hts hin6 hown hG h0 rfl 0 (by decide) (by decide +kernel) rfl rfl dX6_cutMotif_18 ?_
  refine lv_bipush (v := nI (112)) hx hb dX6_cutMotif_21 (by decide) ?_
  refine lv_dup2_11 hx hb dX6_cutMotif_23 rfl rfl ?_
  refine z_iald (j := 112) hx hb hG h1 ⟨by omega, by omega⟩ dX6_cutMotif_24 ?_
  refine z_top (y := nI (zMl nw)) (r4) ?_
  refine lv_iconst (v := nI (1)) hx hb dX6_cutMotif_25 (by decide) ?_
  refine z_isub hx hb dX6_cutMotif_26 (by omega) ?_
  refine z_iast (j := 112) hx hb hG h1 ⟨by omega, by omega⟩ hS (⟨1, by decide, rfl⟩) dX6_cutMotif_27 (fun Hn locs h_5 o_6 hS => ?_)
  have k_7 := va_at.kept h0 (o_6.2 _ (hinj.ne (by decide) (by decide) (by decide)))
  have k_8 := va_at.kept h2 (o_6.2 _ (hinj.ne (by decide) (by decide) (by decide)))
  have k_9 := va_at.kept h3 (o_6.2 _ (hinj.ne (by decide) (by decide) (by decide)))
  have k_10 := va_at.kept h4 (o_6.2 _ (hinj.ne (by decide) (by decide) (by decide)))
  have k_11 := va_at.kept h5 (o_6.2 _ (hinj.ne (by decide) (by decide) (by decide)))
  have k_12 := va_at.kept h6 (o_6.2 _ (hinj.ne (by decide) (by decide) (by decide)))
  have hz : Hn.size = H.size := o_6.1.trans hz
  refine lv_aload_n hx hb dX6_cutMotif_28 rfl (lv_at hl 0 rfl) ?_
  refine z_get (ref := RX6) (C := RX6) (T := TX6) (N := 11) hx hb hts hin6 hown hG k_7 rfl 0 (by decide) (by decide +kernel) rfl rfl dX6_cutMotif_29 ?_
  refine lv_bipush (v := nI (112)) hx hb dX6_cutMotif_32 (by decide) ?_
  refine z_iald (j := 112) hx hb hG h_5 ⟨by omega, by omega⟩ dX6_cutMotif_34 ?_
  refine z_top (y := nI (zMl nw - 1)) (zup_s) ?_
  exact hret _ _ _ _ _ hS (hz) dX6_cutMotif_35 (rfl) (⟨_, _, _, _, _, _, _, _, ⟨k_7, h_5, k_8, k_9, k_10, k_11, k_12⟩, zRep_mo hok.B (fun k9 a b => zup_o (by omega)) zup_s (fun t ht => by rw [zup_o (by omega)]; exact r5 t (by omega)) hrep, hpa, hke, hbu⟩)

set_option maxHeartbeats 4000000 in
set_option maxRecDepth 100000 in
theorem c_X6_note_0 (E : zEnv) {am : Nat → Nat} {nw sv : zS} {an : Bool} {hs : Nat → zS} {ct ln : Nat} {cd : Nat → Int32} {x : Int32} (hok : zOk nw) (hinj : zInM am) (hct : ct ≤ 5) (hq : zfnd (zSz nw) x = none) : zWR E yX6_note wsX6_note 6 145 [.ref (am 0), .int (x)] (fun H => zMW E am nw sv an hs ct ln cd H) (some (.int (-1))) (fun H => zMW E am nw sv an hs ct ln cd H) (zAM am) := by
  refine zWR.ofI (maxL := 6) rfl (Nat.le_of_ble_eq_true rfl) (fun p e s m args below meth c H Q hF hP hret ls hl => ?_)
  have S : CallFix p m c cX6_note 6 s args wsX6_note RX6 := hF.1
  have hG := hF.2
  obtain ⟨hx, hb, hml, hown, hts⟩ := id S
  have hS : va_S (zAM am) H H [] := va_S.rf
  obtain ⟨locs, hlocs⟩ : ∃ x : List Loc, x = [] := ⟨_, rfl⟩
  rw [← hlocs] at hS ⊢
  have hz : H.size = H.size := rfl
  obtain ⟨z, past, kept, buf, rg, td, tm, nb, ⟨h0, h1, h2, h3, h4, h5, h6⟩, hrep, hpa, hke, hbu⟩ := hP
  obtain ⟨r1, rwt, r3, r4, r5, r6, r7⟩ := id hrep
  have hl : lv_has ls 6 [(0, .ref (am 0)), (1, .int (x))] := hl
  have hin6 : ∀ w ∈ u_ws RX6 TX6 11, w ∈ wsX6_note := by decide +kernel
  refine lv_aload_n hx hb dX6_note_0 rfl (lv_at hl 0 rfl) ?_
  refine lv_iload_n hx hb dX6_note_1 rfl (lv_at hl 1 rfl) ?_
  refine z_roV (As := [.int (x)]) (rest := []) (q := (RX6, TX6, 11)) S hG (c_X6_isBracelet_0 E (z := z) (fun t ht => (r3 t ht).1) hok.h16 hq) 1 gX6_note_X6_isBracelet rfl kX6_isBracelet ⟨Nat.le_of_ble_eq_true rfl, Nat.le_of_ble_eq_true rfl⟩ ⟨Nat.zero_le _, Nat.zero_le _⟩ (⟨h0, h1⟩) rfl h0 rfl hl.1 rfl rfl (Nat.le_of_ble_eq_true rfl) dX6_note_2 ?_
  refine z_fne (tgt := 10) hx hb dX6_note_5 (by decide) (by omega) (fun c_1 => by exfalso; omega) (fun c_1 => ?_)
  refine lv_iconst (v := (-1)) hx hb dX6_note_8 (by decide) ?_
  exact hret _ _ _ _ _ hS (hz) dX6_note_9 (rfl) (⟨_, _, _, _, _, _, _, _, ⟨h0, h1, h2, h3, h4, h5, h6⟩, hrep, hpa, hke, hbu⟩)

set_option maxHeartbeats 4000000 in
set_option maxRecDepth 100000 in
theorem c_X6_note_1 (E : zEnv) {am : Nat → Nat} {nw sv : zS} {an : Bool} {hs : Nat → zS} {ct ln : Nat} {cd : Nat → Int32} {r : Nat} (hok : zOk nw) (hinj : zInM am) (hct : ct ≤ 5) (hr : r < 6) (hr0 : zSz nw r ≠ 0) (he : zff (fun t9 => zis (zSz nw (6 + t9)) (zKd nw (6 + t9)) (zSz nw r) (zKd nw r)) (zNl nw) = 10) : zWR E yX6_note wsX6_note 6 145 [.ref (am 0), .int (nI (r))] (fun H => zMW E am nw sv an hs ct ln cd H) (some (.int (-4))) (fun H => zMW E am nw sv an hs ct ln cd H) (zAM am) := by
  refine zWR.ofI (maxL := 6) rfl (Nat.le_of_ble_eq_true rfl) (fun p e s m args below meth c H Q hF hP hret ls hl => ?_)
  have S : CallFix p m c cX6_note 6 s args wsX6_note RX6 := hF.1
  have hG := hF.2
  obtain ⟨hx, hb, hml, hown, hts⟩ := id S
  have hS : va_S (zAM am) H H [] := va_S.rf
  obtain ⟨locs, hlocs⟩ : ∃ x : List Loc, x = [] := ⟨_, rfl⟩
  rw [← hlocs] at hS ⊢
  have hz : H.size = H.size := rfl
  obtain ⟨z, past, kept, buf, rg, td, tm, nb, ⟨h0, h1, h2, h3, h4, h5, h6⟩, hrep, hpa, hke, hbu⟩ := hP
  obtain ⟨r1, rwt, r3, r4, r5, r6, r7⟩ := id hrep
  have hn := hok.sz hr hr0
  have hm4 := hok.m4 hr
  have hnl := hok.2.2.2.2.1
  have hl : lv_has ls 6 [(0, .ref (am 0)), (1, .int (nI (r)))] := hl
  have hin6 : ∀ w ∈ u_ws RX6 TX6 11, w ∈ wsX6_note := by decide +kernel
  refine lv_aload_n hx hb dX6_note_0 rfl (lv_at hl 0 rfl) ?_
  refine lv_iload_n hx hb dX6_note_1 rfl (lv_at hl 1 rfl) ?_
  refine z_roV (As := [.int (nI (r))]) (rest := []) (q := (RX6, TX6, 11)) S hG (c_X6_isBracelet_1 E (z := z) hr (hok.sz hr hr0) (r3 r hr).1) 1 gX6_note_X6_isBracelet rfl kX6_isBracelet ⟨Nat.le_of_ble_eq_true rfl, Nat.le_of_ble_eq_true rfl⟩ ⟨Nat.zero_le _, Nat.zero_le _⟩ (⟨h0, h1⟩) rfl h0 rfl hl.1 rfl rfl (Nat.le_of_ble_eq_true rfl) dX6_note_2 ?_
  refine z_fne (tgt := 10) hx hb dX6_note_5 (by decide) (by omega) (fun c_1 => ?_) (fun c_1 => by exfalso; omega)
  refine lv_iconst (v := nI (0)) hx hb dX6_note_10 (by decide) ?_
  refine lv_istore_n (lv' := [(2, .int (nI (0))), (0, .ref (am 0)), (1, .int (nI (r)))]) hx hb dX6_note_11 rfl hl (by decide) rfl (fun ls hl => ?_)
  have L12 : ∀ (dd : Nat) (t : Nat), zNl nw - t < dd → (t ≤ zNl nw) → (∀ u9, u9 < t → zis (zSz nw (6 + u9)) (zKd nw (6 + u9)) (zSz nw r) (zKd nw r) = false) → ∀ (Hn : Heap) (locs : List Loc) (hS : va_S (zAM am) H Hn locs) (hz : Hn.size = H.size) (hX : zMX E am z past ct kept an buf ln rg td tm nb Hn) (ls : Array Slot), lv_has ls 6 [(0, .ref (am 0)), (1, .int (nI (r))), (2, .int (nI (t)))] → W p (zl E) e (zRm 6 145) s m args below meth c Hn locs 0 0 Q (F0 m 12 ls []) := by
    intro dd
    induction dd with
    | zero => intro t hdd; exact absurd hdd (Nat.not_lt_zero _)
    | succ dd ih12 =>
      intro t hdd12 ht5 hno Hn locs hS hz hX ls hl
      obtain ⟨h0, h1, h2, h3, h4, h5, h6⟩ := hX
      refine lv_iload_n hx hb dX6_note_12 rfl (lv_at hl 2 rfl) ?_
      refine lv_aload_n hx hb dX6_note_13 rfl (lv_at hl 0 rfl) ?_
      refine z_get (ref := RX6) (C := RX6) (T := TX6) (N := 11) hx hb hts hin6 hown hG h0 rfl 0 (by decide) (by decide +kernel) rfl rfl dX6_note_14 ?_
      refine lv_bipush (v := nI (119)) hx hb dX6_note_17 (by decide) ?_
      refine z_iald (j := 119) hx hb hG h1 ⟨by omega, by omega⟩ dX6_note_19 ?_
      refine z_top (y := nI (zNl nw)) (r6) ?_
      refine z_cge (tgt := 38) hx hb dX6_note_20 (by decide) ⟨by omega, by omega⟩ (fun c_2 => ?_) (fun c_2 => ?_)
      · have htz : zff (fun t9 => zis (zSz nw (6 + t9)) (zKd nw (6 + t9)) (zSz nw r) (zKd nw r)) (zNl nw) = t := (zff_no (fun u hu => hno u (by omega))).trans (by omega)
        refine lv_iload_n hx hb dX6_note_38 rfl (lv_at hl 2 rfl) ?_
        refine z_top (y := nI (10)) (by rw [show t = 10 by omega]) ?_
        refine lv_bipush (v := nI (10)) hx hb dX6_note_39 (by decide) ?_
        refine z_cne (tgt := 47) hx hb dX6_note_41 (by decide) ⟨by omega, by omega⟩ (fun c_3 => by exfalso; omega) (fun c_3 => ?_)
        refine lv_bipush (v := (-4)) hx hb dX6_note_44 (by decide) ?_
        exact hret _ _ _ _ _ hS (hz) dX6_note_46 (rfl) (⟨_, _, _, _, _, _, _, _, ⟨h0, h1, h2, h3, h4, h5, h6⟩, hrep, hpa, hke, hbu⟩)
      · refine lv_aload_n hx hb dX6_note_23 rfl (lv_at hl 0 rfl) ?_
        refine lv_iload_n hx hb dX6_note_24 rfl (lv_at hl 2 rfl) ?_
        refine lv_iload_n hx hb dX6_note_25 rfl (lv_at hl 1 rfl) ?_
        refine z_roV (As := [.int (nI (t)), .int (nI (r))]) (rest := []) (q := (RX6, TX6, 11)) S hG (c_X6_isOf_b E (z := z) (i := r) (n := (zSz nw r)) (f := (zKd nw r)) (t := t) (m := zSz nw (6 + t)) (g := zKd nw (6 + t)) hr (hok.1 r hr) (r3 r hr) (fun s hs => hok.2.1 r hr s hs) (by omega) (hok.2.2.2.2.2 t (by omega)).1 (r7 t (by omega)).1 (r7 t (by omega)).2.1) 2 gX6_note_X6_isOf rfl kX6_isOf ⟨Nat.le_of_ble_eq_true rfl, Nat.le_of_ble_eq_true rfl⟩ ⟨Nat.zero_le _, Nat.zero_le _⟩ (⟨h0, h1⟩) rfl h0 rfl hl.1 rfl rfl (Nat.le_of_ble_eq_true rfl) dX6_note_26 ?_
        refine z_bne (tgt := 38) hx hb dX6_note_29 (by decide) (fun c_4 => ?_) (fun c_4 => ?_)
        · have htz : zff (fun t9 => zis (zSz nw (6 + t9)) (zKd nw (6 + t9)) (zSz nw r) (zKd nw r)) (zNl nw) = t := zff_is (p := (fun t9 => zis (zSz nw (6 + t9)) (zKd nw (6 + t9)) (zSz nw r) (zKd nw r))) (by omega) hno c_4
          refine lv_iload_n hx hb dX6_note_38 rfl (lv_at hl 2 rfl) ?_
          refine z_top (y := nI (10)) (by rw [show t = 10 by omega]) ?_
          refine lv_bipush (v := nI (10)) hx hb dX6_note_39 (by decide) ?_
          refine z_cne (tgt := 47) hx hb dX6_note_41 (by decide) ⟨by omega, by omega⟩ (fun c_5 => by exfalso; omega) (fun c_5 => ?_)
          refine lv_bipush (v := (-4)) hx hb dX6_note_44 (by decide) ?_
          exact hret _ _ _ _ _ hS (hz) dX6_note_46 (rfl) (⟨_, _, _, _, _, _, _, _, ⟨h0, h1, h2, h3, h4, h5, h6⟩, hrep, hpa, hke, hbu⟩)
        · refine lv_iinc (v := nI (t + 1)) (lv' := [(2, .int (nI (t + 1))), (0, .ref (am 0)), (1, .int (nI (r)))]) hx hb dX6_note_32 hl (k := 2) rfl (z_inc1 _) (by decide) rfl (fun ls hl => ?_)
          refine lv_goto (tgt := 12) hx hb dX6_note_35 (by decide) ?_
          have hl9 := lv_sub hl [1, 2, 0] (l' := [(0, .ref (am 0)), (1, .int (nI (r))), (2, .int (nI (t + 1)))]) rfl
          have e9_2 : (t + 1) = ((t + 1)) := by omega
          exact ih12 (t + 1) (by omega) (by omega) (zno_s (p := (fun t9 => zis (zSz nw (6 + t9)) (zKd nw (6 + t9)) (zSz nw r) (zKd nw r))) hno c_4) _ _ hS hz (⟨h0, h1, h2, h3, h4, h5, h6⟩) ls (by rw [← e9_2]; exact hl9)
  exact L12 ((zNl nw - (0)) + 1) (0) (Nat.lt_succ_self _) (Nat.zero_le _) (fun u9 h9 => absurd h9 (Nat.not_lt_zero _)) _ _ hS hz (⟨h0, h1, h2, h3, h4, h5, h6⟩) ls (lv_sub hl [1, 2, 0] rfl)

set_option maxHeartbeats 4000000 in
set_option maxRecDepth 100000 in
theorem c_X6_note_2 (E : zEnv) {am : Nat → Nat} {nw sv : zS} {an : Bool} {hs : Nat → zS} {ct ln : Nat} {cd : Nat → Int32} {r en : Nat} (hok : zOk nw) (hinj : zInM am) (hct : ct ≤ 5) (hr : r < 6) (hr0 : zSz nw r ≠ 0) (he : zff (fun t9 => zis (zSz nw (6 + t9)) (zKd nw (6 + t9)) (zSz nw r) (zKd nw r)) (zNl nw) = en) (hel : en < zNl nw) : zWR E yX6_note wsX6_note 6 145 [.ref (am 0), .int (nI (r))] (fun H => zMW E am nw sv an hs ct ln cd H) (some (.int (nI en))) (fun H => zMW E am (zsTm nw (upd (zTm nw) en (zTm nw en + nI 1))) sv an (zrH hs ct nw) (zrC ct) ln cd H) (zAM am) := by
  refine zWR.ofI (maxL := 6) rfl (Nat.le_of_ble_eq_true rfl) (fun p e s m args below meth c H Q hF hP hret ls hl => ?_)
  have S : CallFix p m c cX6_note 6 s args wsX6_note RX6 := hF.1
  have hG := hF.2
  obtain ⟨hx, hb, hml, hown, hts⟩ := id S
  have hS : va_S (zAM am) H H [] := va_S.rf
  obtain ⟨locs, hlocs⟩ : ∃ x : List Loc, x = [] := ⟨_, rfl⟩
  rw [← hlocs] at hS ⊢
  have hz : H.size = H.size := rfl
  obtain ⟨z, past, kept, buf, rg, td, tm, nb, ⟨h0, h1, h2, h3, h4, h5, h6⟩, hrep, hpa, hke, hbu⟩ := hP
  obtain ⟨r1, rwt, r3, r4, r5, r6, r7⟩ := id hrep
  have hn := hok.sz hr hr0
  have hm4 := hok.m4 hr
  have hnl := hok.2.2.2.2.1
  have hl : lv_has ls 6 [(0, .ref (am 0)), (1, .int (nI (r)))] := hl
  have hin6 : ∀ w ∈ u_ws RX6 TX6 11, w ∈ wsX6_note := by decide +kernel
  refine lv_aload_n hx hb dX6_note_0 rfl (lv_at hl 0 rfl) ?_
  refine lv_iload_n hx hb dX6_note_1 rfl (lv_at hl 1 rfl) ?_
  refine z_roV (As := [.int (nI (r))]) (rest := []) (q := (RX6, TX6, 11)) S hG (c_X6_isBracelet_1 E (z := z) hr (hok.sz hr hr0) (r3 r hr).1) 1 gX6_note_X6_isBracelet rfl kX6_isBracelet ⟨Nat.le_of_ble_eq_true rfl, Nat.le_of_ble_eq_true rfl⟩ ⟨Nat.zero_le _, Nat.zero_le _⟩ (⟨h0, h1⟩) rfl h0 rfl hl.1 rfl rfl (Nat.le_of_ble_eq_true rfl) dX6_note_2 ?_
  refine z_fne (tgt := 10) hx hb dX6_note_5 (by decide) (by omega) (fun c_1 => ?_) (fun c_1 => by exfalso; omega)
  refine lv_iconst (v := nI (0)) hx hb dX6_note_10 (by decide) ?_
  refine lv_istore_n (lv' := [(2, .int (nI (0))), (0, .ref (am 0)), (1, .int (nI (r)))]) hx hb dX6_note_11 rfl hl (by decide) rfl (fun ls hl => ?_)
  have L12 : ∀ (dd : Nat) (t : Nat), zNl nw - t < dd → (t ≤ zNl nw) → (∀ u9, u9 < t → zis (zSz nw (6 + u9)) (zKd nw (6 + u9)) (zSz nw r) (zKd nw r) = false) → ∀ (Hn : Heap) (locs : List Loc) (hS : va_S (zAM am) H Hn locs) (hz : Hn.size = H.size) (hX : zMX E am z past ct kept an buf ln rg td tm nb Hn) (ls : Array Slot), lv_has ls 6 [(0, .ref (am 0)), (1, .int (nI (r))), (2, .int (nI (t)))] → W p (zl E) e (zRm 6 145) s m args below meth c Hn locs 0 0 Q (F0 m 12 ls []) := by
    intro dd
    induction dd with
    | zero => intro t hdd; exact absurd hdd (Nat.not_lt_zero _)
    | succ dd ih12 =>
      intro t hdd12 ht5 hno Hn locs hS hz hX ls hl
      obtain ⟨h0, h1, h2, h3, h4, h5, h6⟩ := hX
      refine lv_iload_n hx hb dX6_note_12 rfl (lv_at hl 2 rfl) ?_
      refine lv_aload_n hx hb dX6_note_13 rfl (lv_at hl 0 rfl) ?_
      refine z_get (ref := RX6) (C := RX6) (T := TX6) (N := 11) hx hb hts hin6 hown hG h0 rfl 0 (by decide) (by decide +kernel) rfl rfl dX6_note_14 ?_
      refine lv_bipush (v := nI (119)) hx hb dX6_note_17 (by decide) ?_
      refine z_iald (j := 119) hx hb hG h1 ⟨by omega, by omega⟩ dX6_note_19 ?_
      refine z_top (y := nI (zNl nw)) (r6) ?_
      refine z_cge (tgt := 38) hx hb dX6_note_20 (by decide) ⟨by omega, by omega⟩ (fun c_2 => ?_) (fun c_2 => ?_)
      · have htz : zff (fun t9 => zis (zSz nw (6 + t9)) (zKd nw (6 + t9)) (zSz nw r) (zKd nw r)) (zNl nw) = t := (zff_no (fun u hu => hno u (by omega))).trans (by omega)
        refine lv_iload_n hx hb dX6_note_38 rfl (lv_at hl 2 rfl) ?_
        refine z_top (y := nI (en)) (by rw [show t = en by omega]) ?_
        refine lv_bipush (v := nI (10)) hx hb dX6_note_39 (by decide) ?_
        refine z_cne (tgt := 47) hx hb dX6_note_41 (by decide) ⟨by omega, by omega⟩ (fun c_3 => ?_) (fun c_3 => by exfalso; omega)
        refine lv_aload_n hx hb dX6_note_47 rfl (lv_at hl 0 rfl) ?_
        refine z_wrV (As := []) (rest := []) (q := (RX6, TX6, 11)) S hG (c_X6_record E hinj hct hok hrep hpa) 0 gX6_note_X6_record rfl kX6_record ⟨Nat.le_of_ble_eq_true rfl, Nat.le_of_ble_eq_true rfl⟩ ⟨Nat.zero_le _, Nat.zero_le _⟩ (⟨h0, h1, h2, h3, h4, h5, h6⟩) rfl h0 rfl hl.1 rfl rfl (Nat.le_of_ble_eq_true rfl) dX6_note_48 hS (fun _ h => h) (fun Hn locs h_5 q_4 o_6 hS => ?_)
        have hz : Hn.size = H.size := q_4.trans hz
        obtain ⟨past, ⟨h0, h1, h2, h3, h4, h5, h6⟩, hpa⟩ := h_5
        refine lv_bipush (v := nI (120)) hx hb dX6_note_51 (by decide) ?_
        refine lv_bipush (v := nI (18)) hx hb dX6_note_53 (by decide) ?_
        refine lv_iload_n hx hb dX6_note_55 rfl (lv_at hl 2 rfl) ?_
        refine z_top (y := nI (en)) (by rw [show t = en by omega]) ?_
        refine z_imul hx hb dX6_note_56 ?_
        refine z_iadd hx hb dX6_note_57 ?_
        refine lv_istore_n (lv' := [(3, .int (nI (120 + (18 * en)))), (0, .ref (am 0)), (1, .int (nI (r))), (2, .int (nI (t)))]) hx hb dX6_note_58 rfl hl (by decide) rfl (fun ls hl => ?_)
        refine lv_iload_n hx hb dX6_note_59 rfl (lv_at hl 3 rfl) ?_
        refine z_top (y := nI (en)) (by rw [show t = en by omega]) ?_
        refine lv_aload_n hx hb dX6_note_60 rfl (lv_at hl 1 rfl) ?_
        refine z_get (ref := RX6) (C := RX6) (T := TX6) (N := 11) hx hb hts hin6 hown hG h0 rfl 0 (by decide) (by decide +kernel) rfl rfl dX6_note_61 ?_
        refine lv_bipush (v := nI (119)) hx hb dX6_note_64 (by decide) ?_
        refine z_iald (j := 119) hx hb hG h1 ⟨by omega, by omega⟩ dX6_note_66 ?_
        refine z_top (y := nI (zNl nw)) (r6) ?_
        refine z_cne (tgt := 161) hx hb dX6_note_67 (by decide) ⟨by omega, by omega⟩ (fun c_7 => ?_) (fun c_7 => by exfalso; omega)
        refine lv_aload_n hx hb dX6_note_161 rfl (lv_at hl 1 rfl) ?_
        refine z_get (ref := RX6) (C := RX6) (T := TX6) (N := 11) hx hb hts hin6 hown hG h0 rfl 0 (by decide) (by decide +kernel) rfl rfl dX6_note_162 ?_
        refine lv_iload_n hx hb dX6_note_165 rfl (lv_at hl 0 rfl) ?_
        refine lv_bipush (v := nI (17)) hx hb dX6_note_166 (by decide) ?_
        refine z_iadd hx hb dX6_note_168 ?_
        refine lv_dup2_11 hx hb dX6_note_169 rfl rfl ?_
        refine z_iald (j := (120 + (18 * en)) + 17) hx hb hG h1 ⟨by omega, by omega⟩ dX6_note_170 ?_
        refine z_top (y := (zTm nw en)) ((r7 en hel).2.2) ?_
        refine lv_iconst (v := nI (1)) hx hb dX6_note_171 (by decide) ?_
        refine lv_iadd hx hb dX6_note_172 ?_
        refine z_iast (j := (120 + (18 * en)) + 17) hx hb hG h1 ⟨by omega, by omega⟩ hS (⟨1, by decide, rfl⟩) dX6_note_173 (fun Hn locs h_8 o_9 hS => ?_)
        have k_10 := va_at.kept h0 (o_9.2 _ (hinj.ne (by decide) (by decide) (by decide)))
        have k_11 := va_at.kept h2 (o_9.2 _ (hinj.ne (by decide) (by decide) (by decide)))
        have k_12 := va_at.kept h3 (o_9.2 _ (hinj.ne (by decide) (by decide) (by decide)))
        have k_13 := va_at.kept h4 (o_9.2 _ (hinj.ne (by decide) (by decide) (by decide)))
        have k_14 := va_at.kept h5 (o_9.2 _ (hinj.ne (by decide) (by decide) (by decide)))
        have k_15 := va_at.kept h6 (o_9.2 _ (hinj.ne (by decide) (by decide) (by decide)))
        have hz : Hn.size = H.size := o_9.1.trans hz
        refine lv_iload_n hx hb dX6_note_174 rfl (lv_at hl 3 rfl) ?_
        refine z_top (y := nI (en)) (by rw [show t = en by omega]) ?_
        exact hret _ _ _ _ _ hS (hz) dX6_note_175 (rfl) (⟨_, _, _, _, _, _, _, _, ⟨k_10, h_8, k_11, k_12, k_13, k_14, k_15⟩, zRep_tm hok.B (by omega) (fun q a b => zup_o a) zup_s hrep, hpa, hke, hbu⟩)
      · refine lv_aload_n hx hb dX6_note_23 rfl (lv_at hl 0 rfl) ?_
        refine lv_iload_n hx hb dX6_note_24 rfl (lv_at hl 2 rfl) ?_
        refine lv_iload_n hx hb dX6_note_25 rfl (lv_at hl 1 rfl) ?_
        refine z_roV (As := [.int (nI (t)), .int (nI (r))]) (rest := []) (q := (RX6, TX6, 11)) S hG (c_X6_isOf_b E (z := z) (i := r) (n := (zSz nw r)) (f := (zKd nw r)) (t := t) (m := zSz nw (6 + t)) (g := zKd nw (6 + t)) hr (hok.1 r hr) (r3 r hr) (fun s hs => hok.2.1 r hr s hs) (by omega) (hok.2.2.2.2.2 t (by omega)).1 (r7 t (by omega)).1 (r7 t (by omega)).2.1) 2 gX6_note_X6_isOf rfl kX6_isOf ⟨Nat.le_of_ble_eq_true rfl, Nat.le_of_ble_eq_true rfl⟩ ⟨Nat.zero_le _, Nat.zero_le _⟩ (⟨h0, h1⟩) rfl h0 rfl hl.1 rfl rfl (Nat.le_of_ble_eq_true rfl) dX6_note_26 ?_
        refine z_bne (tgt := 38) hx hb dX6_note_29 (by decide) (fun c_16 => ?_) (fun c_16 => ?_)
        · have htz : zff (fun t9 => zis (zSz nw (6 + t9)) (zKd nw (6 + t9)) (zSz nw r) (zKd nw r)) (zNl nw) = t := zff_is (p := (fun t9 => zis (zSz nw (6 + t9)) (zKd nw (6 + t9)) (zSz nw r) (zKd nw r))) (by omega) hno c_16
          refine lv_iload_n hx hb dX6_note_38 rfl (lv_at hl 2 rfl) ?_
          refine z_top (y := nI (en)) (by rw [show t = en by omega]) ?_
          refine lv_bipush (v := nI (10)) hx hb dX6_note_39 (by decide) ?_
          refine z_cne (tgt := 47) hx hb dX6_note_41 (by decide) ⟨by omega, by omega⟩ (fun c_17 => ?_) (fun c_17 => by exfalso; omega)
          refine lv_aload_n hx hb dX6_note_47 rfl (lv_at hl 0 rfl) ?_
          refine z_wrV (As := []) (rest := []) (q := (RX6, TX6, 11)) S hG (c_X6_record E hinj hct hok hrep hpa) 0 gX6_note_X6_record rfl kX6_record ⟨Nat.le_of_ble_eq_true rfl, Nat.le_of_ble_eq_true rfl⟩ ⟨Nat.zero_le _, Nat.zero_le _⟩ (⟨h0, h1, h2, h3, h4, h5, h6⟩) rfl h0 rfl hl.1 rfl rfl (Nat.le_of_ble_eq_true rfl) dX6_note_48 hS (fun _ h => h) (fun Hn locs h_19 q_18 o_20 hS => ?_)
          have hz : Hn.size = H.size := q_18.trans hz
          obtain ⟨past, ⟨h0, h1, h2, h3, h4, h5, h6⟩, hpa⟩ := h_19
          refine lv_bipush (v := nI (120)) hx hb dX6_note_51 (by decide) ?_
          refine lv_bipush (v := nI (18)) hx hb dX6_note_53 (by decide) ?_
          refine lv_iload_n hx hb dX6_note_55 rfl (lv_at hl 2 rfl) ?_
          refine z_top (y := nI (en)) (by rw [show t = en by omega]) ?_
          refine z_imul hx hb dX6_note_56 ?_
          refine z_iadd hx hb dX6_note_57 ?_
          refine lv_istore_n (lv' := [(3, .int (nI (120 + (18 * en)))), (0, .ref (am 0)), (1, .int (nI (r))), (2, .int (nI (t)))]) hx hb dX6_note_58 rfl hl (by decide) rfl (fun ls hl => ?_)
          refine lv_iload_n hx hb dX6_note_59 rfl (lv_at hl 3 rfl) ?_
          refine z_top (y := nI (en)) (by rw [show t = en by omega]) ?_
          refine lv_aload_n hx hb dX6_note_60 rfl (lv_at hl 1 rfl) ?_
          refine z_get (ref := RX6) (C := RX6) (T := TX6) (N := 11) hx hb hts hin6 hown hG h0 rfl 0 (by decide) (by decide +kernel) rfl rfl dX6_note_61 ?_
          refine lv_bipush (v := nI (119)) hx hb dX6_note_64 (by decide) ?_
          refine z_iald (j := 119) hx hb hG h1 ⟨by omega, by omega⟩ dX6_note_66 ?_
          refine z_top (y := nI (zNl nw)) (r6) ?_
          refine z_cne (tgt := 161) hx hb dX6_note_67 (by decide) ⟨by omega, by omega⟩ (fun c_21 => ?_) (fun c_21 => by exfalso; omega)
          refine lv_aload_n hx hb dX6_note_161 rfl (lv_at hl 1 rfl) ?_
          refine z_get (ref := RX6) (C := RX6) (T := TX6) (N := 11) hx hb hts hin6 hown hG h0 rfl 0 (by decide) (by decide +kernel) rfl rfl dX6_note_162 ?_
          refine lv_iload_n hx hb dX6_note_165 rfl (lv_at hl 0 rfl) ?_
          refine lv_bipush (v := nI (17)) hx hb dX6_note_166 (by decide) ?_
          refine z_iadd hx hb dX6_note_168 ?_
          refine lv_dup2_11 hx hb dX6_note_169 rfl rfl ?_
          refine z_iald (j := (120 + (18 * en)) + 17) hx hb hG h1 ⟨by omega, by omega⟩ dX6_note_170 ?_
          refine z_top (y := (zTm nw en)) ((r7 en hel).2.2) ?_
          refine lv_iconst (v := nI (1)) hx hb dX6_note_171 (by decide) ?_
          refine lv_iadd hx hb dX6_note_172 ?_
          refine z_iast (j := (120 + (18 * en)) + 17) hx hb hG h1 ⟨by omega, by omega⟩ hS (⟨1, by decide, rfl⟩) dX6_note_173 (fun Hn locs h_22 o_23 hS => ?_)
          have k_24 := va_at.kept h0 (o_23.2 _ (hinj.ne (by decide) (by decide) (by decide)))
          have k_25 := va_at.kept h2 (o_23.2 _ (hinj.ne (by decide) (by decide) (by decide)))
          have k_26 := va_at.kept h3 (o_23.2 _ (hinj.ne (by decide) (by decide) (by decide)))
          have k_27 := va_at.kept h4 (o_23.2 _ (hinj.ne (by decide) (by decide) (by decide)))
          have k_28 := va_at.kept h5 (o_23.2 _ (hinj.ne (by decide) (by decide) (by decide)))
          have k_29 := va_at.kept h6 (o_23.2 _ (hinj.ne (by decide) (by decide) (by decide)))
          have hz : Hn.size = H.size := o_23.1.trans hz
          refine lv_iload_n hx hb dX6_note_174 rfl (lv_at hl 3 rfl) ?_
          refine z_top (y := nI (en)) (by rw [show t = en by omega]) ?_
          exact hret _ _ _ _ _ hS (hz) dX6_note_175 (rfl) (⟨_, _, _, _, _, _, _, _, ⟨k_24, h_22, k_25, k_26, k_27, k_28, k_29⟩, zRep_tm hok.B (by omega) (fun q a b => zup_o a) zup_s hrep, hpa, hke, hbu⟩)
        · refine lv_iinc (v := nI (t + 1)) (lv' := [(2, .int (nI (t + 1))), (0, .ref (am 0)), (1, .int (nI (r)))]) hx hb dX6_note_32 hl (k := 2) rfl (z_inc1 _) (by decide) rfl (fun ls hl => ?_)
          refine lv_goto (tgt := 12) hx hb dX6_note_35 (by decide) ?_
          have hl9 := lv_sub hl [1, 2, 0] (l' := [(0, .ref (am 0)), (1, .int (nI (r))), (2, .int (nI (t + 1)))]) rfl
          have e9_2 : (t + 1) = ((t + 1)) := by omega
          exact ih12 (t + 1) (by omega) (by omega) (zno_s (p := (fun t9 => zis (zSz nw (6 + t9)) (zKd nw (6 + t9)) (zSz nw r) (zKd nw r))) hno c_16) _ _ hS hz (⟨h0, h1, h2, h3, h4, h5, h6⟩) ls (by rw [← e9_2]; exact hl9)
  exact L12 ((zNl nw - (0)) + 1) (0) (Nat.lt_succ_self _) (Nat.zero_le _) (fun u9 h9 => absurd h9 (Nat.not_lt_zero _)) _ _ hS hz (⟨h0, h1, h2, h3, h4, h5, h6⟩) ls (lv_sub hl [1, 2, 0] rfl)

set_option maxHeartbeats 4000000 in
set_option maxRecDepth 100000 in
theorem c_X6_note_3 (E : zEnv) {am : Nat → Nat} {nw sv : zS} {an : Bool} {hs : Nat → zS} {ct ln : Nat} {cd : Nat → Int32} {r : Nat} (hok : zOk nw) (hinj : zInM am) (hct : ct ≤ 5) (hr : r < 6) (hr0 : zSz nw r ≠ 0) (he : zff (fun t9 => zis (zSz nw (6 + t9)) (zKd nw (6 + t9)) (zSz nw r) (zKd nw r)) (zNl nw) = zNl nw) (hel : zNl nw < 10) : zWR E yX6_note wsX6_note 6 145 [.ref (am 0), .int (nI (r))] (fun H => zMW E am nw sv an hs ct ln cd H) (some (.int (nI (zNl nw)))) (fun H => zMW E am (zsTm (zsNl (zsRg nw (6 + zNl nw) (zSz nw r) (zKd nw r)) (zNl nw + 1)) (upd (zTm nw) (zNl nw) (nI 1))) sv an (zrH hs ct nw) (zrC ct) ln cd H) (zAM am) := by
  refine zWR.ofI (maxL := 6) rfl (Nat.le_of_ble_eq_true rfl) (fun p e s m args below meth c H Q hF hP hret ls hl => ?_)
  have S : CallFix p m c cX6_note 6 s args wsX6_note RX6 := hF.1
  have hG := hF.2
  obtain ⟨hx, hb, hml, hown, hts⟩ := id S
  have hS : va_S (zAM am) H H [] := va_S.rf
  obtain ⟨locs, hlocs⟩ : ∃ x : List Loc, x = [] := ⟨_, rfl⟩
  rw [← hlocs] at hS ⊢
  have hz : H.size = H.size := rfl
  obtain ⟨z, past, kept, buf, rg, td, tm, nb, ⟨h0, h1, h2, h3, h4, h5, h6⟩, hrep, hpa, hke, hbu⟩ := hP
  obtain ⟨r1, rwt, r3, r4, r5, r6, r7⟩ := id hrep
  have hn := hok.sz hr hr0
  have hm4 := hok.m4 hr
  have hnl := hok.2.2.2.2.1
  have hl : lv_has ls 6 [(0, .ref (am 0)), (1, .int (nI (r)))] := hl
  have hin6 : ∀ w ∈ u_ws RX6 TX6 11, w ∈ wsX6_note := by decide +kernel
  refine lv_aload_n hx hb dX6_note_0 rfl (lv_at hl 0 rfl) ?_
  refine lv_iload_n hx hb dX6_note_1 rfl (lv_at hl 1 rfl) ?_
  refine z_roV (As := [.int (nI (r))]) (rest := []) (q := (RX6, TX6, 11)) S hG (c_X6_isBracelet_1 E (z := z) hr (hok.sz hr hr0) (r3 r hr).1) 1 gX6_note_X6_isBracelet rfl kX6_isBracelet ⟨Nat.le_of_ble_eq_true rfl, Nat.le_of_ble_eq_true rfl⟩ ⟨Nat.zero_le _, Nat.zero_le _⟩ (⟨h0, h1⟩) rfl h0 rfl hl.1 rfl rfl (Nat.le_of_ble_eq_true rfl) dX6_note_2 ?_
  refine z_fne (tgt := 10) hx hb dX6_note_5 (by decide) (by omega) (fun c_1 => ?_) (fun c_1 => by exfalso; omega)
  refine lv_iconst (v := nI (0)) hx hb dX6_note_10 (by decide) ?_
  refine lv_istore_n (lv' := [(2, .int (nI (0))), (0, .ref (am 0)), (1, .int (nI (r)))]) hx hb dX6_note_11 rfl hl (by decide) rfl (fun ls hl => ?_)
  have L12 : ∀ (dd : Nat) (t : Nat), zNl nw - t < dd → (t ≤ zNl nw) → (∀ u9, u9 < t → zis (zSz nw (6 + u9)) (zKd nw (6 + u9)) (zSz nw r) (zKd nw r) = false) → ∀ (Hn : Heap) (locs : List Loc) (hS : va_S (zAM am) H Hn locs) (hz : Hn.size = H.size) (hX : zMX E am z past ct kept an buf ln rg td tm nb Hn) (ls : Array Slot), lv_has ls 6 [(0, .ref (am 0)), (1, .int (nI (r))), (2, .int (nI (t)))] → W p (zl E) e (zRm 6 145) s m args below meth c Hn locs 0 0 Q (F0 m 12 ls []) := by
    intro dd
    induction dd with
    | zero => intro t hdd; exact absurd hdd (Nat.not_lt_zero _)
    | succ dd ih12 =>
      intro t hdd12 ht5 hno Hn locs hS hz hX ls hl
      obtain ⟨h0, h1, h2, h3, h4, h5, h6⟩ := hX
      refine lv_iload_n hx hb dX6_note_12 rfl (lv_at hl 2 rfl) ?_
      refine lv_aload_n hx hb dX6_note_13 rfl (lv_at hl 0 rfl) ?_
      refine z_get (ref := RX6) (C := RX6) (T := TX6) (N := 11) hx hb hts hin6 hown hG h0 rfl 0 (by decide) (by decide +kernel) rfl rfl dX6_note_14 ?_
      refine lv_bipush (v := nI (119)) hx hb dX6_note_17 (by decide) ?_
      refine z_iald (j := 119) hx hb hG h1 ⟨by omega, by omega⟩ dX6_note_19 ?_
      refine z_top (y := nI (zNl nw)) (r6) ?_
      refine z_cge (tgt := 38) hx hb dX6_note_20 (by decide) ⟨by omega, by omega⟩ (fun c_2 => ?_) (fun c_2 => ?_)
      · have htz : zff (fun t9 => zis (zSz nw (6 + t9)) (zKd nw (6 + t9)) (zSz nw r) (zKd nw r)) (zNl nw) = t := (zff_no (fun u hu => hno u (by omega))).trans (by omega)
        refine lv_iload_n hx hb dX6_note_38 rfl (lv_at hl 2 rfl) ?_
        refine z_top (y := nI (zNl nw)) (by rw [show t = zNl nw by omega]) ?_
        refine lv_bipush (v := nI (10)) hx hb dX6_note_39 (by decide) ?_
        refine z_cne (tgt := 47) hx hb dX6_note_41 (by decide) ⟨by omega, by omega⟩ (fun c_3 => ?_) (fun c_3 => by exfalso; omega)
        refine lv_aload_n hx hb dX6_note_47 rfl (lv_at hl 0 rfl) ?_
        refine z_wrV (As := []) (rest := []) (q := (RX6, TX6, 11)) S hG (c_X6_record E hinj hct hok hrep hpa) 0 gX6_note_X6_record rfl kX6_record ⟨Nat.le_of_ble_eq_true rfl, Nat.le_of_ble_eq_true rfl⟩ ⟨Nat.zero_le _, Nat.zero_le _⟩ (⟨h0, h1, h2, h3, h4, h5, h6⟩) rfl h0 rfl hl.1 rfl rfl (Nat.le_of_ble_eq_true rfl) dX6_note_48 hS (fun _ h => h) (fun Hn locs h_5 q_4 o_6 hS => ?_)
        have hz : Hn.size = H.size := q_4.trans hz
        obtain ⟨past, ⟨h0, h1, h2, h3, h4, h5, h6⟩, hpa⟩ := h_5
        refine lv_bipush (v := nI (120)) hx hb dX6_note_51 (by decide) ?_
        refine lv_bipush (v := nI (18)) hx hb dX6_note_53 (by decide) ?_
        refine lv_iload_n hx hb dX6_note_55 rfl (lv_at hl 2 rfl) ?_
        refine z_top (y := nI (zNl nw)) (by rw [show t = zNl nw by omega]) ?_
        refine z_imul hx hb dX6_note_56 ?_
        refine z_iadd hx hb dX6_note_57 ?_
        refine lv_istore_n (lv' := [(3, .int (nI (120 + (18 * (zNl nw))))), (0, .ref (am 0)), (1, .int (nI (r))), (2, .int (nI (t)))]) hx hb dX6_note_58 rfl hl (by decide) rfl (fun ls hl => ?_)
        refine lv_iload_n hx hb dX6_note_59 rfl (lv_at hl 3 rfl) ?_
        refine z_top (y := nI (zNl nw)) (by rw [show t = zNl nw by omega]) ?_
        refine lv_aload_n hx hb dX6_note_60 rfl (lv_at hl 1 rfl) ?_
        refine z_get (ref := RX6) (C := RX6) (T := TX6) (N := 11) hx hb hts hin6 hown hG h0 rfl 0 (by decide) (by decide +kernel) rfl rfl dX6_note_61 ?_
        refine lv_bipush (v := nI (119)) hx hb dX6_note_64 (by decide) ?_
        refine z_iald (j := 119) hx hb hG h1 ⟨by omega, by omega⟩ dX6_note_66 ?_
        refine z_top (y := nI (zNl nw)) (r6) ?_
        refine z_cne (tgt := 161) hx hb dX6_note_67 (by decide) ⟨by omega, by omega⟩ (fun c_7 => by exfalso; omega) (fun c_7 => ?_)
        refine lv_aload_n hx hb dX6_note_70 rfl (lv_at hl 1 rfl) ?_
        refine lv_iload_n hx hb dX6_note_71 rfl (lv_at hl 2 rfl) ?_
        refine lv_iconst (v := nI (1)) hx hb dX6_note_72 (by decide) ?_
        refine z_roV (As := [.int (nI (r)), .int (nI (1))]) (rest := []) (q := (RX6, TX6, 11)) S hG (c_X6_leastChange E (z := z) (i := r) (n := (zSz nw r)) (f := (zKd nw r)) (lv := 1) hr hn (r3 r hr) (by decide) hm4 (fun s hs => hok.2.1 r hr s hs)) 2 gX6_note_X6_leastChange rfl kX6_leastChange ⟨Nat.le_of_ble_eq_true rfl, Nat.le_of_ble_eq_true rfl⟩ ⟨Nat.zero_le _, Nat.zero_le _⟩ (⟨h0, h1⟩) rfl h0 rfl hl.1 rfl rfl (Nat.le_of_ble_eq_true rfl) dX6_note_73 ?_
        refine lv_istore (lv' := [(4, .int (nI (zli (zSz nw r) (zKd nw r) 1 (znc 1 (zSz nw r))))), (3, .int (nI (120 + (18 * (zNl nw))))), (0, .ref (am 0)), (1, .int (nI (r))), (2, .int (nI (t)))]) hx hb dX6_note_76 hl (by decide) rfl (fun ls hl => ?_)
        refine lv_aload_n hx hb dX6_note_78 rfl (lv_at hl 2 rfl) ?_
        refine z_get (ref := RX6) (C := RX6) (T := TX6) (N := 11) hx hb hts hin6 hown hG h0 rfl 0 (by decide) (by decide +kernel) rfl rfl dX6_note_79 ?_
        refine lv_iload_n hx hb dX6_note_82 rfl (lv_at hl 1 rfl) ?_
        refine lv_aload_n hx hb dX6_note_83 rfl (lv_at hl 2 rfl) ?_
        refine lv_iload_n hx hb dX6_note_84 rfl (lv_at hl 3 rfl) ?_
        refine z_roV (As := [.int (nI (r))]) (rest := [.int (nI (120 + (18 * (zNl nw)))), .ref (am 1)]) (q := (RX6, TX6, 11)) S hG (c_X6_slots E (z := z) (i := r) (n := (zSz nw r)) hr (r3 r hr).1) 1 gX6_note_X6_slots rfl kX6_slots ⟨Nat.le_of_ble_eq_true rfl, Nat.le_of_ble_eq_true rfl⟩ ⟨Nat.zero_le _, Nat.zero_le _⟩ (⟨h0, h1⟩) rfl h0 rfl hl.1 rfl rfl (Nat.le_of_ble_eq_true rfl) dX6_note_85 ?_
        refine z_iast (j := 120 + (18 * (zNl nw))) hx hb hG h1 ⟨by omega, by omega⟩ hS (⟨1, by decide, rfl⟩) dX6_note_88 (fun Hn locs h_8 o_9 hS => ?_)
        have k_10 := va_at.kept h0 (o_9.2 _ (hinj.ne (by decide) (by decide) (by decide)))
        have k_11 := va_at.kept h2 (o_9.2 _ (hinj.ne (by decide) (by decide) (by decide)))
        have k_12 := va_at.kept h3 (o_9.2 _ (hinj.ne (by decide) (by decide) (by decide)))
        have k_13 := va_at.kept h4 (o_9.2 _ (hinj.ne (by decide) (by decide) (by decide)))
        have k_14 := va_at.kept h5 (o_9.2 _ (hinj.ne (by decide) (by decide) (by decide)))
        have k_15 := va_at.kept h6 (o_9.2 _ (hinj.ne (by decide) (by decide) (by decide)))
        have hz : Hn.size = H.size := o_9.1.trans hz
        refine lv_iconst (v := nI (0)) hx hb dX6_note_89 (by decide) ?_
        refine lv_istore (lv' := [(5, .int (nI (0))), (4, .int (nI (zli (zSz nw r) (zKd nw r) 1 (znc 1 (zSz nw r))))), (3, .int (nI (120 + (18 * (zNl nw))))), (0, .ref (am 0)), (1, .int (nI (r))), (2, .int (nI (t)))]) hx hb dX6_note_90 hl (by decide) rfl (fun ls hl => ?_)
        have L92 : ∀ (dd : Nat) (u : Nat), 16 - u < dd → (u ≤ 16) → ∀ (Hn : Heap) (locs : List Loc) (hS : va_S (zAM am) H Hn locs) (hz : Hn.size = H.size) (hX : zMX E am (zew (upd z (120 + 18 * (zNl nw)) (nI (zSz nw r))) (zimg (zSz nw r) (zKd nw r) (zls (zSz nw r) (zKd nw r) 1)) ((120 + 18 * (zNl nw)) + 1) (zSz nw r) u) past (zrC ct) kept an buf ln rg td tm nb Hn) (ls : Array Slot), lv_has ls 6 [(0, .ref (am 0)), (1, .int (nI (r))), (2, .int (nI (t))), (3, .int (nI (120 + (18 * (zNl nw))))), (4, .int (nI (zli (zSz nw r) (zKd nw r) 1 (znc 1 (zSz nw r))))), (5, .int (nI (u)))] → W p (zl E) e (zRm 6 145) s m args below meth c Hn locs 0 0 Q (F0 m 92 ls []) := by
          intro dd
          induction dd with
          | zero => intro u hdd; exact absurd hdd (Nat.not_lt_zero _)
          | succ dd ih92 =>
            intro u hdd92 hu Hn locs hS hz hX ls hl
            obtain ⟨h0, h1, h2, h3, h4, h5, h6⟩ := hX
            refine lv_iload hx hb dX6_note_92 (lv_at hl 5 rfl) ?_
            refine lv_bipush (v := nI (16)) hx hb dX6_note_94 (by decide) ?_
            refine z_cge (tgt := 140) hx hb dX6_note_96 (by decide) ⟨by omega, by omega⟩ (fun c_16 => ?_) (fun c_16 => ?_)
            · obtain rfl : u = 16 := by omega
              refine lv_aload_n hx hb dX6_note_140 rfl (lv_at hl 0 rfl) ?_
              refine z_get (ref := RX6) (C := RX6) (T := TX6) (N := 11) hx hb hts hin6 hown hG h0 rfl 0 (by decide) (by decide +kernel) rfl rfl dX6_note_141 ?_
              refine lv_iload_n hx hb dX6_note_144 rfl (lv_at hl 3 rfl) ?_
              refine lv_bipush (v := nI (17)) hx hb dX6_note_145 (by decide) ?_
              refine z_iadd hx hb dX6_note_147 ?_
              refine lv_iconst (v := nI (0)) hx hb dX6_note_148 (by decide) ?_
              refine z_iast (j := (120 + (18 * (zNl nw))) + 17) hx hb hG h1 ⟨by omega, by omega⟩ hS (⟨1, by decide, rfl⟩) dX6_note_149 (fun Hn locs h_17 o_18 hS => ?_)
              have k_19 := va_at.kept h0 (o_18.2 _ (hinj.ne (by decide) (by decide) (by decide)))
              have k_20 := va_at.kept h2 (o_18.2 _ (hinj.ne (by decide) (by decide) (by decide)))
              have k_21 := va_at.kept h3 (o_18.2 _ (hinj.ne (by decide) (by decide) (by decide)))
              have k_22 := va_at.kept h4 (o_18.2 _ (hinj.ne (by decide) (by decide) (by decide)))
              have k_23 := va_at.kept h5 (o_18.2 _ (hinj.ne (by decide) (by decide) (by decide)))
              have k_24 := va_at.kept h6 (o_18.2 _ (hinj.ne (by decide) (by decide) (by decide)))
              have hz : Hn.size = H.size := o_18.1.trans hz
              refine lv_aload_n hx hb dX6_note_150 rfl (lv_at hl 0 rfl) ?_
              refine z_get (ref := RX6) (C := RX6) (T := TX6) (N := 11) hx hb hts hin6 hown hG k_19 rfl 0 (by decide) (by decide +kernel) rfl rfl dX6_note_151 ?_
              refine lv_bipush (v := nI (119)) hx hb dX6_note_154 (by decide) ?_
              refine lv_dup2_11 hx hb dX6_note_156 rfl rfl ?_
              refine z_iald (j := 119) hx hb hG h_17 ⟨by omega, by omega⟩ dX6_note_157 ?_
              refine z_top (y := nI (zNl nw)) (by rw [zup_o (by omega)]; unfold zew; rw [if_neg (by omega), zup_o (by omega)]; exact r6) ?_
              refine lv_iconst (v := nI (1)) hx hb dX6_note_158 (by decide) ?_
              refine z_iadd hx hb dX6_note_159 ?_
              refine z_iast (j := 119) hx hb hG h_17 ⟨by omega, by omega⟩ hS (⟨1, by decide, rfl⟩) dX6_note_160 (fun Hn locs h_25 o_26 hS => ?_)
              have k_27 := va_at.kept k_19 (o_26.2 _ (hinj.ne (by decide) (by decide) (by decide)))
              have k_28 := va_at.kept k_20 (o_26.2 _ (hinj.ne (by decide) (by decide) (by decide)))
              have k_29 := va_at.kept k_21 (o_26.2 _ (hinj.ne (by decide) (by decide) (by decide)))
              have k_30 := va_at.kept k_22 (o_26.2 _ (hinj.ne (by decide) (by decide) (by decide)))
              have k_31 := va_at.kept k_23 (o_26.2 _ (hinj.ne (by decide) (by decide) (by decide)))
              have k_32 := va_at.kept k_24 (o_26.2 _ (hinj.ne (by decide) (by decide) (by decide)))
              have hz : Hn.size = H.size := o_26.1.trans hz
              refine lv_aload_n hx hb dX6_note_161 rfl (lv_at hl 0 rfl) ?_
              refine z_get (ref := RX6) (C := RX6) (T := TX6) (N := 11) hx hb hts hin6 hown hG k_27 rfl 0 (by decide) (by decide +kernel) rfl rfl dX6_note_162 ?_
              refine lv_iload_n hx hb dX6_note_165 rfl (lv_at hl 3 rfl) ?_
              refine lv_bipush (v := nI (17)) hx hb dX6_note_166 (by decide) ?_
              refine z_iadd hx hb dX6_note_168 ?_
              refine lv_dup2_11 hx hb dX6_note_169 rfl rfl ?_
              refine z_iald (j := (120 + (18 * (zNl nw))) + 17) hx hb hG h_25 ⟨by omega, by omega⟩ dX6_note_170 ?_
              refine z_top (y := nI (0)) (by rw [zup_o (by omega)]; exact zup_s) ?_
              refine lv_iconst (v := nI (1)) hx hb dX6_note_171 (by decide) ?_
              refine z_iadd hx hb dX6_note_172 ?_
              refine z_iast (j := (120 + (18 * (zNl nw))) + 17) hx hb hG h_25 ⟨by omega, by omega⟩ hS (⟨1, by decide, rfl⟩) dX6_note_173 (fun Hn locs h_33 o_34 hS => ?_)
              have k_35 := va_at.kept k_27 (o_34.2 _ (hinj.ne (by decide) (by decide) (by decide)))
              have k_36 := va_at.kept k_28 (o_34.2 _ (hinj.ne (by decide) (by decide) (by decide)))
              have k_37 := va_at.kept k_29 (o_34.2 _ (hinj.ne (by decide) (by decide) (by decide)))
              have k_38 := va_at.kept k_30 (o_34.2 _ (hinj.ne (by decide) (by decide) (by decide)))
              have k_39 := va_at.kept k_31 (o_34.2 _ (hinj.ne (by decide) (by decide) (by decide)))
              have k_40 := va_at.kept k_32 (o_34.2 _ (hinj.ne (by decide) (by decide) (by decide)))
              have hz : Hn.size = H.size := o_34.1.trans hz
              refine lv_iload_n hx hb dX6_note_174 rfl (lv_at hl 2 rfl) ?_
              refine z_top (y := nI (zNl nw)) (by rw [show t = zNl nw by omega]) ?_
              exact hret _ _ _ _ _ hS (hz) dX6_note_175 (rfl) (⟨_, _, _, _, _, _, _, _, ⟨k_35, h_33, k_36, k_37, k_38, k_39, k_40⟩, zRep_n3 hok.B hel hn.2 hrep, hpa, hke, hbu⟩)
            · refine lv_aload_n hx hb dX6_note_99 rfl (lv_at hl 0 rfl) ?_
              refine z_get (ref := RX6) (C := RX6) (T := TX6) (N := 11) hx hb hts hin6 hown hG h0 rfl 0 (by decide) (by decide +kernel) rfl rfl dX6_note_100 ?_
              refine lv_iload_n hx hb dX6_note_103 rfl (lv_at hl 3 rfl) ?_
              refine lv_iconst (v := nI (1)) hx hb dX6_note_104 (by decide) ?_
              refine z_iadd hx hb dX6_note_105 ?_
              refine lv_iload hx hb dX6_note_106 (lv_at hl 5 rfl) ?_
              refine z_iadd hx hb dX6_note_108 ?_
              refine lv_iload hx hb dX6_note_109 (lv_at hl 5 rfl) ?_
              refine lv_aload_n hx hb dX6_note_111 rfl (lv_at hl 0 rfl) ?_
              refine lv_iload_n hx hb dX6_note_112 rfl (lv_at hl 1 rfl) ?_
              refine z_roV (As := [.int (nI (r))]) (rest := [.int (nI (u)), .int (nI (((120 + (18 * (zNl nw))) + 1) + u)), .ref (am 1)]) (q := (RX6, TX6, 11)) S hG (c_X6_slots E (z := (zew (upd z (120 + 18 * (zNl nw)) (nI (zSz nw r))) (zimg (zSz nw r) (zKd nw r) (zls (zSz nw r) (zKd nw r) 1)) ((120 + 18 * (zNl nw)) + 1) (zSz nw r) u)) (i := r) (n := (zSz nw r)) hr ((zmr_ew hr hn.2 (by omega) (r3 r hr)).1)) 1 gX6_note_X6_slots rfl kX6_slots ⟨Nat.le_of_ble_eq_true rfl, Nat.le_of_ble_eq_true rfl⟩ ⟨Nat.zero_le _, Nat.zero_le _⟩ (⟨h0, h1⟩) rfl h0 rfl hl.1 rfl rfl (Nat.le_of_ble_eq_true rfl) dX6_note_113 ?_
              refine z_cge (tgt := 132) hx hb dX6_note_116 (by decide) ⟨by omega, by omega⟩ (fun c_41 => ?_) (fun c_41 => ?_)
              · refine lv_iconst (v := nI (0)) hx hb dX6_note_132 (by decide) ?_
                refine z_iast (j := ((120 + (18 * (zNl nw))) + 1) + u) hx hb hG h1 ⟨by omega, by omega⟩ hS (⟨1, by decide, rfl⟩) dX6_note_133 (fun Hn locs h_42 o_43 hS => ?_)
                have k_44 := va_at.kept h0 (o_43.2 _ (hinj.ne (by decide) (by decide) (by decide)))
                have k_45 := va_at.kept h2 (o_43.2 _ (hinj.ne (by decide) (by decide) (by decide)))
                have k_46 := va_at.kept h3 (o_43.2 _ (hinj.ne (by decide) (by decide) (by decide)))
                have k_47 := va_at.kept h4 (o_43.2 _ (hinj.ne (by decide) (by decide) (by decide)))
                have k_48 := va_at.kept h5 (o_43.2 _ (hinj.ne (by decide) (by decide) (by decide)))
                have k_49 := va_at.kept h6 (o_43.2 _ (hinj.ne (by decide) (by decide) (by decide)))
                have hz : Hn.size = H.size := o_43.1.trans hz
                refine lv_iinc (v := nI (u + 1)) (lv' := [(5, .int (nI (u + 1))), (0, .ref (am 0)), (1, .int (nI (r))), (2, .int (nI (t))), (3, .int (nI (120 + (18 * (zNl nw))))), (4, .int (nI (zli (zSz nw r) (zKd nw r) 1 (znc 1 (zSz nw r)))))]) hx hb dX6_note_134 hl (k := 5) rfl (z_inc1 _) (by decide) rfl (fun ls hl => ?_)
                refine lv_goto (tgt := 92) hx hb dX6_note_137 (by decide) ?_
                have hl9 := lv_sub hl [1, 2, 3, 4, 5, 0] (l' := [(0, .ref (am 0)), (1, .int (nI (r))), (2, .int (nI (t))), (3, .int (nI (120 + (18 * (zNl nw))))), (4, .int (nI (zli (zSz nw r) (zKd nw r) 1 (znc 1 (zSz nw r))))), (5, .int (nI (u + 1)))]) rfl
                have e9_5 : (u + 1) = ((u + 1)) := by omega
                exact ih92 (u + 1) (by omega) (by omega) _ _ hS hz (by rw [← zew_s (x := nI 0) (by rw [if_neg (by omega)]; rfl)]; exact ⟨k_44, h_42, k_45, k_46, k_47, k_48, k_49⟩) ls (by rw [← e9_5]; exact hl9)
              · refine lv_aload_n hx hb dX6_note_119 rfl (lv_at hl 0 rfl) ?_
                refine lv_iload_n hx hb dX6_note_120 rfl (lv_at hl 1 rfl) ?_
                refine lv_iconst (v := nI (1)) hx hb dX6_note_121 (by decide) ?_
                refine lv_iload hx hb dX6_note_122 (lv_at hl 4 rfl) ?_
                refine lv_iload hx hb dX6_note_124 (lv_at hl 5 rfl) ?_
                refine z_roV (As := [.int (nI (r)), .int (nI (1)), .int (nI (zli (zSz nw r) (zKd nw r) 1 (znc 1 (zSz nw r)))), .int (nI (u))]) (rest := [.int (nI (((120 + (18 * (zNl nw))) + 1) + u)), .ref (am 1)]) (q := (RX6, TX6, 11)) S hG (c_X6_behind E (z := (zew (upd z (120 + 18 * (zNl nw)) (nI (zSz nw r))) (zimg (zSz nw r) (zKd nw r) (zls (zSz nw r) (zKd nw r) 1)) ((120 + 18 * (zNl nw)) + 1) (zSz nw r) u)) (i := r) (n := (zSz nw r)) (f := (zKd nw r)) (lv := 1) (ch := (zli (zSz nw r) (zKd nw r) 1 (znc 1 (zSz nw r)))) (j := u) hr hn (zmr_ew hr hn.2 (by omega) (r3 r hr)) (by decide) hm4 (zlc_lt' hn.1) (by omega)) 4 gX6_note_X6_behind rfl kX6_behind ⟨Nat.le_of_ble_eq_true rfl, Nat.le_of_ble_eq_true rfl⟩ ⟨Nat.zero_le _, Nat.zero_le _⟩ (⟨h0, h1⟩) rfl h0 rfl hl.1 rfl rfl (Nat.le_of_ble_eq_true rfl) dX6_note_126 ?_
                refine z_top (y := (zimg (zSz nw r) (zKd nw r) (zls (zSz nw r) (zKd nw r) 1) u)) (rfl) ?_
                refine lv_goto (tgt := 133) hx hb dX6_note_129 (by decide) ?_
                refine z_iast (j := ((120 + (18 * (zNl nw))) + 1) + u) hx hb hG h1 ⟨by omega, by omega⟩ hS (⟨1, by decide, rfl⟩) dX6_note_133 (fun Hn locs h_50 o_51 hS => ?_)
                have k_52 := va_at.kept h0 (o_51.2 _ (hinj.ne (by decide) (by decide) (by decide)))
                have k_53 := va_at.kept h2 (o_51.2 _ (hinj.ne (by decide) (by decide) (by decide)))
                have k_54 := va_at.kept h3 (o_51.2 _ (hinj.ne (by decide) (by decide) (by decide)))
                have k_55 := va_at.kept h4 (o_51.2 _ (hinj.ne (by decide) (by decide) (by decide)))
                have k_56 := va_at.kept h5 (o_51.2 _ (hinj.ne (by decide) (by decide) (by decide)))
                have k_57 := va_at.kept h6 (o_51.2 _ (hinj.ne (by decide) (by decide) (by decide)))
                have hz : Hn.size = H.size := o_51.1.trans hz
                refine lv_iinc (v := nI (u + 1)) (lv' := [(5, .int (nI (u + 1))), (0, .ref (am 0)), (1, .int (nI (r))), (2, .int (nI (t))), (3, .int (nI (120 + (18 * (zNl nw))))), (4, .int (nI (zli (zSz nw r) (zKd nw r) 1 (znc 1 (zSz nw r)))))]) hx hb dX6_note_134 hl (k := 5) rfl (z_inc1 _) (by decide) rfl (fun ls hl => ?_)
                refine lv_goto (tgt := 92) hx hb dX6_note_137 (by decide) ?_
                have hl9 := lv_sub hl [1, 2, 3, 4, 5, 0] (l' := [(0, .ref (am 0)), (1, .int (nI (r))), (2, .int (nI (t))), (3, .int (nI (120 + (18 * (zNl nw))))), (4, .int (nI (zli (zSz nw r) (zKd nw r) 1 (znc 1 (zSz nw r))))), (5, .int (nI (u + 1)))]) rfl
                have e9_5 : (u + 1) = ((u + 1)) := by omega
                exact ih92 (u + 1) (by omega) (by omega) _ _ hS hz (by rw [← zew_s (x := zimg (zSz nw r) (zKd nw r) (zls (zSz nw r) (zKd nw r) 1) u) (by rw [if_pos (by omega)])]; exact ⟨k_52, h_50, k_53, k_54, k_55, k_56, k_57⟩) ls (by rw [← e9_5]; exact hl9)
        exact L92 ((16 - (0)) + 1) (0) (Nat.lt_succ_self _) (Nat.zero_le _) _ _ hS hz (by rw [zew_0]; exact ⟨k_10, h_8, k_11, k_12, k_13, k_14, k_15⟩) ls (lv_sub hl [3, 4, 5, 2, 1, 0] rfl)
      · refine lv_aload_n hx hb dX6_note_23 rfl (lv_at hl 0 rfl) ?_
        refine lv_iload_n hx hb dX6_note_24 rfl (lv_at hl 2 rfl) ?_
        refine lv_iload_n hx hb dX6_note_25 rfl (lv_at hl 1 rfl) ?_
        refine z_roV (As := [.int (nI (t)), .int (nI (r))]) (rest := []) (q := (RX6, TX6, 11)) S hG (c_X6_isOf_b E (z := z) (i := r) (n := (zSz nw r)) (f := (zKd nw r)) (t := t) (m := zSz nw (6 + t)) (g := zKd nw (6 + t)) hr (hok.1 r hr) (r3 r hr) (fun s hs => hok.2.1 r hr s hs) (by omega) (hok.2.2.2.2.2 t (by omega)).1 (r7 t (by omega)).1 (r7 t (by omega)).2.1) 2 gX6_note_X6_isOf rfl kX6_isOf ⟨Nat.le_of_ble_eq_true rfl, Nat.le_of_ble_eq_true rfl⟩ ⟨Nat.zero_le _, Nat.zero_le _⟩ (⟨h0, h1⟩) rfl h0 rfl hl.1 rfl rfl (Nat.le_of_ble_eq_true rfl) dX6_note_26 ?_
        refine z_bne (tgt := 38) hx hb dX6_note_29 (by decide) (fun c_58 => ?_) (fun c_58 => ?_)
        · have htz : zff (fun t9 => zis (zSz nw (6 + t9)) (zKd nw (6 + t9)) (zSz nw r) (zKd nw r)) (zNl nw) = t := zff_is (p := (fun t9 => zis (zSz nw (6 + t9)) (zKd nw (6 + t9)) (zSz nw r) (zKd nw r))) (by omega) hno c_58
          refine lv_iload_n hx hb dX6_note_38 rfl (lv_at hl 2 rfl) ?_
          refine z_top (y := nI (zNl nw)) (by rw [show t = zNl nw by omega]) ?_
          refine lv_bipush (v := nI (10)) hx hb dX6_note_39 (by decide) ?_
          refine z_cne (tgt := 47) hx hb dX6_note_41 (by decide) ⟨by omega, by omega⟩ (fun c_59 => ?_) (fun c_59 => by exfalso; omega)
          refine lv_aload_n hx hb dX6_note_47 rfl (lv_at hl 0 rfl) ?_
          refine z_wrV (As := []) (rest := []) (q := (RX6, TX6, 11)) S hG (c_X6_record E hinj hct hok hrep hpa) 0 gX6_note_X6_record rfl kX6_record ⟨Nat.le_of_ble_eq_true rfl, Nat.le_of_ble_eq_true rfl⟩ ⟨Nat.zero_le _, Nat.zero_le _⟩ (⟨h0, h1, h2, h3, h4, h5, h6⟩) rfl h0 rfl hl.1 rfl rfl (Nat.le_of_ble_eq_true rfl) dX6_note_48 hS (fun _ h => h) (fun Hn locs h_61 q_60 o_62 hS => ?_)
          have hz : Hn.size = H.size := q_60.trans hz
          obtain ⟨past, ⟨h0, h1, h2, h3, h4, h5, h6⟩, hpa⟩ := h_61
          refine lv_bipush (v := nI (120)) hx hb dX6_note_51 (by decide) ?_
          refine lv_bipush (v := nI (18)) hx hb dX6_note_53 (by decide) ?_
          refine lv_iload_n hx hb dX6_note_55 rfl (lv_at hl 2 rfl) ?_
          refine z_top (y := nI (zNl nw)) (by rw [show t = zNl nw by omega]) ?_
          refine z_imul hx hb dX6_note_56 ?_
          refine z_iadd hx hb dX6_note_57 ?_
          refine lv_istore_n (lv' := [(3, .int (nI (120 + (18 * (zNl nw))))), (0, .ref (am 0)), (1, .int (nI (r))), (2, .int (nI (t)))]) hx hb dX6_note_58 rfl hl (by decide) rfl (fun ls hl => ?_)
          refine lv_iload_n hx hb dX6_note_59 rfl (lv_at hl 3 rfl) ?_
          refine z_top (y := nI (zNl nw)) (by rw [show t = zNl nw by omega]) ?_
          refine lv_aload_n hx hb dX6_note_60 rfl (lv_at hl 1 rfl) ?_
          refine z_get (ref := RX6) (C := RX6) (T := TX6) (N := 11) hx hb hts hin6 hown hG h0 rfl 0 (by decide) (by decide +kernel) rfl rfl dX6_note_61 ?_
          refine lv_bipush (v := nI (119)) hx hb dX6_note_64 (by decide) ?_
          refine z_iald (j := 119) hx hb hG h1 ⟨by omega, by omega⟩ dX6_note_66 ?_
          refine z_top (y := nI (zNl nw)) (r6) ?_
          refine z_cne (tgt := 161) hx hb dX6_note_67 (by decide) ⟨by omega, by omega⟩ (fun c_63 => by exfalso; omega) (fun c_63 => ?_)
          refine lv_aload_n hx hb dX6_note_70 rfl (lv_at hl 1 rfl) ?_
          refine lv_iload_n hx hb dX6_note_71 rfl (lv_at hl 2 rfl) ?_
          refine lv_iconst (v := nI (1)) hx hb dX6_note_72 (by decide) ?_
          refine z_roV (As := [.int (nI (r)), .int (nI (1))]) (rest := []) (q := (RX6, TX6, 11)) S hG (c_X6_leastChange E (z := z) (i := r) (n := (zSz nw r)) (f := (zKd nw r)) (lv := 1) hr hn (r3 r hr) (by decide) hm4 (fun s hs => hok.2.1 r hr s hs)) 2 gX6_note_X6_leastChange rfl kX6_leastChange ⟨Nat.le_of_ble_eq_true rfl, Nat.le_of_ble_eq_true rfl⟩ ⟨Nat.zero_le _, Nat.zero_le _⟩ (⟨h0, h1⟩) rfl h0 rfl hl.1 rfl rfl (Nat.le_of_ble_eq_true rfl) dX6_note_73 ?_
          refine lv_istore (lv' := [(4, .int (nI (zli (zSz nw r) (zKd nw r) 1 (znc 1 (zSz nw r))))), (3, .int (nI (120 + (18 * (zNl nw))))), (0, .ref (am 0)), (1, .int (nI (r))), (2, .int (nI (t)))]) hx hb dX6_note_76 hl (by decide) rfl (fun ls hl => ?_)
          refine lv_aload_n hx hb dX6_note_78 rfl (lv_at hl 2 rfl) ?_
          refine z_get (ref := RX6) (C := RX6) (T := TX6) (N := 11) hx hb hts hin6 hown hG h0 rfl 0 (by decide) (by decide +kernel) rfl rfl dX6_note_79 ?_
          refine lv_iload_n hx hb dX6_note_82 rfl (lv_at hl 1 rfl) ?_
          refine lv_aload_n hx hb dX6_note_83 rfl (lv_at hl 2 rfl) ?_
          refine lv_iload_n hx hb dX6_note_84 rfl (lv_at hl 3 rfl) ?_
          refine z_roV (As := [.int (nI (r))]) (rest := [.int (nI (120 + (18 * (zNl nw)))), .ref (am 1)]) (q := (RX6, TX6, 11)) S hG (c_X6_slots E (z := z) (i := r) (n := (zSz nw r)) hr (r3 r hr).1) 1 gX6_note_X6_slots rfl kX6_slots ⟨Nat.le_of_ble_eq_true rfl, Nat.le_of_ble_eq_true rfl⟩ ⟨Nat.zero_le _, Nat.zero_le _⟩ (⟨h0, h1⟩) rfl h0 rfl hl.1 rfl rfl (Nat.le_of_ble_eq_true rfl) dX6_note_85 ?_
          refine z_iast (j := 120 + (18 * (zNl nw))) hx hb hG h1 ⟨by omega, by omega⟩ hS (⟨1, by decide, rfl⟩) dX6_note_88 (fun Hn locs h_64 o_65 hS => ?_)
          have k_66 := va_at.kept h0 (o_65.2 _ (hinj.ne (by decide) (by decide) (by decide)))
          have k_67 := va_at.kept h2 (o_65.2 _ (hinj.ne (by decide) (by decide) (by decide)))
          have k_68 := va_at.kept h3 (o_65.2 _ (hinj.ne (by decide) (by decide) (by decide)))
          have k_69 := va_at.kept h4 (o_65.2 _ (hinj.ne (by decide) (by decide) (by decide)))
          have k_70 := va_at.kept h5 (o_65.2 _ (hinj.ne (by decide) (by decide) (by decide)))
          have k_71 := va_at.kept h6 (o_65.2 _ (hinj.ne (by decide) (by decide) (by decide)))
          have hz : Hn.size = H.size := o_65.1.trans hz
          refine lv_iconst (v := nI (0)) hx hb dX6_note_89 (by decide) ?_
          refine lv_istore (lv' := [(5, .int (nI (0))), (4, .int (nI (zli (zSz nw r) (zKd nw r) 1 (znc 1 (zSz nw r))))), (3, .int (nI (120 + (18 * (zNl nw))))), (0, .ref (am 0)), (1, .int (nI (r))), (2, .int (nI (t)))]) hx hb dX6_note_90 hl (by decide) rfl (fun ls hl => ?_)
          have L92 : ∀ (dd : Nat) (u : Nat), 16 - u < dd → (u ≤ 16) → ∀ (Hn : Heap) (locs : List Loc) (hS : va_S (zAM am) H Hn locs) (hz : Hn.size = H.size) (hX : zMX E am (zew (upd z (120 + 18 * (zNl nw)) (nI (zSz nw r))) (zimg (zSz nw r) (zKd nw r) (zls (zSz nw r) (zKd nw r) 1)) ((120 + 18 * (zNl nw)) + 1) (zSz nw r) u) past (zrC ct) kept an buf ln rg td tm nb Hn) (ls : Array Slot), lv_has ls 6 [(0, .ref (am 0)), (1, .int (nI (r))), (2, .int (nI (t))), (3, .int (nI (120 + (18 * (zNl nw))))), (4, .int (nI (zli (zSz nw r) (zKd nw r) 1 (znc 1 (zSz nw r))))), (5, .int (nI (u)))] → W p (zl E) e (zRm 6 145) s m args below meth c Hn locs 0 0 Q (F0 m 92 ls []) := by
            intro dd
            induction dd with
            | zero => intro u hdd; exact absurd hdd (Nat.not_lt_zero _)
            | succ dd ih92 =>
              intro u hdd92 hu Hn locs hS hz hX ls hl
              obtain ⟨h0, h1, h2, h3, h4, h5, h6⟩ := hX
              refine lv_iload hx hb dX6_note_92 (lv_at hl 5 rfl) ?_
              refine lv_bipush (v := nI (16)) hx hb dX6_note_94 (by decide) ?_
              refine z_cge (tgt := 140) hx hb dX6_note_96 (by decide) ⟨by omega, by omega⟩ (fun c_72 => ?_) (fun c_72 => ?_)
              · obtain rfl : u = 16 := by omega
                refine lv_aload_n hx hb dX6_note_140 rfl (lv_at hl 0 rfl) ?_
                refine z_get (ref := RX6) (C := RX6) (T := TX6) (N := 11) hx hb hts hin6 hown hG h0 rfl 0 (by decide) (by decide +kernel) rfl rfl dX6_note_141 ?_
                refine lv_iload_n hx hb dX6_note_144 rfl (lv_at hl 3 rfl) ?_
                refine lv_bipush (v := nI (17)) hx hb dX6_note_145 (by decide) ?_
                refine z_iadd hx hb dX6_note_147 ?_
                refine lv_iconst (v := nI (0)) hx hb dX6_note_148 (by decide) ?_
                refine z_iast (j := (120 + (18 * (zNl nw))) + 17) hx hb hG h1 ⟨by omega, by omega⟩ hS (⟨1, by decide, rfl⟩) dX6_note_149 (fun Hn locs h_73 o_74 hS => ?_)
                have k_75 := va_at.kept h0 (o_74.2 _ (hinj.ne (by decide) (by decide) (by decide)))
                have k_76 := va_at.kept h2 (o_74.2 _ (hinj.ne (by decide) (by decide) (by decide)))
                have k_77 := va_at.kept h3 (o_74.2 _ (hinj.ne (by decide) (by decide) (by decide)))
                have k_78 := va_at.kept h4 (o_74.2 _ (hinj.ne (by decide) (by decide) (by decide)))
                have k_79 := va_at.kept h5 (o_74.2 _ (hinj.ne (by decide) (by decide) (by decide)))
                have k_80 := va_at.kept h6 (o_74.2 _ (hinj.ne (by decide) (by decide) (by decide)))
                have hz : Hn.size = H.size := o_74.1.trans hz
                refine lv_aload_n hx hb dX6_note_150 rfl (lv_at hl 0 rfl) ?_
                refine z_get (ref := RX6) (C := RX6) (T := TX6) (N := 11) hx hb hts hin6 hown hG k_75 rfl 0 (by decide) (by decide +kernel) rfl rfl dX6_note_151 ?_
                refine lv_bipush (v := nI (119)) hx hb dX6_note_154 (by decide) ?_
                refine lv_dup2_11 hx hb dX6_note_156 rfl rfl ?_
                refine z_iald (j := 119) hx hb hG h_73 ⟨by omega, by omega⟩ dX6_note_157 ?_
                refine z_top (y := nI (zNl nw)) (by rw [zup_o (by omega)]; unfold zew; rw [if_neg (by omega), zup_o (by omega)]; exact r6) ?_
                refine lv_iconst (v := nI (1)) hx hb dX6_note_158 (by decide) ?_
                refine z_iadd hx hb dX6_note_159 ?_
                refine z_iast (j := 119) hx hb hG h_73 ⟨by omega, by omega⟩ hS (⟨1, by decide, rfl⟩) dX6_note_160 (fun Hn locs h_81 o_82 hS => ?_)
                have k_83 := va_at.kept k_75 (o_82.2 _ (hinj.ne (by decide) (by decide) (by decide)))
                have k_84 := va_at.kept k_76 (o_82.2 _ (hinj.ne (by decide) (by decide) (by decide)))
                have k_85 := va_at.kept k_77 (o_82.2 _ (hinj.ne (by decide) (by decide) (by decide)))
                have k_86 := va_at.kept k_78 (o_82.2 _ (hinj.ne (by decide) (by decide) (by decide)))
                have k_87 := va_at.kept k_79 (o_82.2 _ (hinj.ne (by decide) (by decide) (by decide)))
                have k_88 := va_at.kept k_80 (o_82.2 _ (hinj.ne (by decide) (by decide) (by decide)))
                have hz : Hn.size = H.size := o_82.1.trans hz
                refine lv_aload_n hx hb dX6_note_161 rfl (lv_at hl 0 rfl) ?_
                refine z_get (ref := RX6) (C := RX6) (T := TX6) (N := 11) hx hb hts hin6 hown hG k_83 rfl 0 (by decide) (by decide +kernel) rfl rfl dX6_note_162 ?_
                refine lv_iload_n hx hb dX6_note_165 rfl (lv_at hl 3 rfl) ?_
                refine lv_bipush (v := nI (17)) hx hb dX6_note_166 (by decide) ?_
                refine z_iadd hx hb dX6_note_168 ?_
                refine lv_dup2_11 hx hb dX6_note_169 rfl rfl ?_
                refine z_iald (j := (120 + (18 * (zNl nw))) + 17) hx hb hG h_81 ⟨by omega, by omega⟩ dX6_note_170 ?_
                refine z_top (y := nI (0)) (by rw [zup_o (by omega)]; exact zup_s) ?_
                refine lv_iconst (v := nI (1)) hx hb dX6_note_171 (by decide) ?_
                refine z_iadd hx hb dX6_note_172 ?_
                refine z_iast (j := (120 + (18 * (zNl nw))) + 17) hx hb hG h_81 ⟨by omega, by omega⟩ hS (⟨1, by decide, rfl⟩) dX6_note_173 (fun Hn locs h_89 o_90 hS => ?_)
                have k_91 := va_at.kept k_83 (o_90.2 _ (hinj.ne (by decide) (by decide) (by decide)))
                have k_92 := va_at.kept k_84 (o_90.2 _ (hinj.ne (by decide) (by decide) (by decide)))
                have k_93 := va_at.kept k_85 (o_90.2 _ (hinj.ne (by decide) (by decide) (by decide)))
                have k_94 := va_at.kept k_86 (o_90.2 _ (hinj.ne (by decide) (by decide) (by decide)))
                have k_95 := va_at.kept k_87 (o_90.2 _ (hinj.ne (by decide) (by decide) (by decide)))
                have k_96 := va_at.kept k_88 (o_90.2 _ (hinj.ne (by decide) (by decide) (by decide)))
                have hz : Hn.size = H.size := o_90.1.trans hz
                refine lv_iload_n hx hb dX6_note_174 rfl (lv_at hl 2 rfl) ?_
                refine z_top (y := nI (zNl nw)) (by rw [show t = zNl nw by omega]) ?_
                exact hret _ _ _ _ _ hS (hz) dX6_note_175 (rfl) (⟨_, _, _, _, _, _, _, _, ⟨k_91, h_89, k_92, k_93, k_94, k_95, k_96⟩, zRep_n3 hok.B hel hn.2 hrep, hpa, hke, hbu⟩)
              · refine lv_aload_n hx hb dX6_note_99 rfl (lv_at hl 0 rfl) ?_
                refine z_get (ref := RX6) (C := RX6) (T := TX6) (N := 11) hx hb hts hin6 hown hG h0 rfl 0 (by decide) (by decide +kernel) rfl rfl dX6_note_100 ?_
                refine lv_iload_n hx hb dX6_note_103 rfl (lv_at hl 3 rfl) ?_
                refine lv_iconst (v := nI (1)) hx hb dX6_note_104 (by decide) ?_
                refine z_iadd hx hb dX6_note_105 ?_
                refine lv_iload hx hb dX6_note_106 (lv_at hl 5 rfl) ?_
                refine z_iadd hx hb dX6_note_108 ?_
                refine lv_iload hx hb dX6_note_109 (lv_at hl 5 rfl) ?_
                refine lv_aload_n hx hb dX6_note_111 rfl (lv_at hl 0 rfl) ?_
                refine lv_iload_n hx hb dX6_note_112 rfl (lv_at hl 1 rfl) ?_
                refine z_roV (As := [.int (nI (r))]) (rest := [.int (nI (u)), .int (nI (((120 + (18 * (zNl nw))) + 1) + u)), .ref (am 1)]) (q := (RX6, TX6, 11)) S hG (c_X6_slots E (z := (zew (upd z (120 + 18 * (zNl nw)) (nI (zSz nw r))) (zimg (zSz nw r) (zKd nw r) (zls (zSz nw r) (zKd nw r) 1)) ((120 + 18 * (zNl nw)) + 1) (zSz nw r) u)) (i := r) (n := (zSz nw r)) hr ((zmr_ew hr hn.2 (by omega) (r3 r hr)).1)) 1 gX6_note_X6_slots rfl kX6_slots ⟨Nat.le_of_ble_eq_true rfl, Nat.le_of_ble_eq_true rfl⟩ ⟨Nat.zero_le _, Nat.zero_le _⟩ (⟨h0, h1⟩) rfl h0 rfl hl.1 rfl rfl (Nat.le_of_ble_eq_true rfl) dX6_note_113 ?_
                refine z_cge (tgt := 132) hx hb dX6_note_116 (by decide) ⟨by omega, by omega⟩ (fun c_97 => ?_) (fun c_97 => ?_)
                · refine lv_iconst (v := nI (0)) hx hb dX6_note_132 (by decide) ?_
                  refine z_iast (j := ((120 + (18 * (zNl nw))) + 1) + u) hx hb hG h1 ⟨by omega, by omega⟩ hS (⟨1, by decide, rfl⟩) dX6_note_133 (fun Hn locs h_98 o_99 hS => ?_)
                  have k_100 := va_at.kept h0 (o_99.2 _ (hinj.ne (by decide) (by decide) (by decide)))
                  have k_101 := va_at.kept h2 (o_99.2 _ (hinj.ne (by decide) (by decide) (by decide)))
                  have k_102 := va_at.kept h3 (o_99.2 _ (hinj.ne (by decide) (by decide) (by decide)))
                  have k_103 := va_at.kept h4 (o_99.2 _ (hinj.ne (by decide) (by decide) (by decide)))
                  have k_104 := va_at.kept h5 (o_99.2 _ (hinj.ne (by decide) (by decide) (by decide)))
                  have k_105 := va_at.kept h6 (o_99.2 _ (hinj.ne (by decide) (by decide) (by decide)))
                  have hz : Hn.size = H.size := o_99.1.trans hz
                  refine lv_iinc (v := nI (u + 1)) (lv' := [(5, .int (nI (u + 1))), (0, .ref (am 0)), (1, .int (nI (r))), (2, .int (nI (t))), (3, .int (nI (120 + (18 * (zNl nw))))), (4, .int (nI (zli (zSz nw r) (zKd nw r) 1 (znc 1 (zSz nw r)))))]) hx hb dX6_note_134 hl (k := 5) rfl (z_inc1 _) (by decide) rfl (fun ls hl => ?_)
                  refine lv_goto (tgt := 92) hx hb dX6_note_137 (by decide) ?_
                  have hl9 := lv_sub hl [1, 2, 3, 4, 5, 0] (l' := [(0, .ref (am 0)), (1, .int (nI (r))), (2, .int (nI (t))), (3, .int (nI (120 + (18 * (zNl nw))))), (4, .int (nI (zli (zSz nw r) (zKd nw r) 1 (znc 1 (zSz nw r))))), (5, .int (nI (u + 1)))]) rfl
                  have e9_5 : (u + 1) = ((u + 1)) := by omega
                  exact ih92 (u + 1) (by omega) (by omega) _ _ hS hz (by rw [← zew_s (x := nI 0) (by rw [if_neg (by omega)]; rfl)]; exact ⟨k_100, h_98, k_101, k_102, k_103, k_104, k_105⟩) ls (by rw [← e9_5]; exact hl9)
                · refine lv_aload_n hx hb dX6_note_119 rfl (lv_at hl 0 rfl) ?_
                  refine lv_iload_n hx hb dX6_note_120 rfl (lv_at hl 1 rfl) ?_
                  refine lv_iconst (v := nI (1)) hx hb dX6_note_121 (by decide) ?_
                  refine lv_iload hx hb dX6_note_122 (lv_at hl 4 rfl) ?_
                  refine lv_iload hx hb dX6_note_124 (lv_at hl 5 rfl) ?_
                  refine z_roV (As := [.int (nI (r)), .int (nI (1)), .int (nI (zli (zSz nw r) (zKd nw r) 1 (znc 1 (zSz nw r)))), .int (nI (u))]) (rest := [.int (nI (((120 + (18 * (zNl nw))) + 1) + u)), .ref (am 1)]) (q := (RX6, TX6, 11)) S hG (c_X6_behind E (z := (zew (upd z (120 + 18 * (zNl nw)) (nI (zSz nw r))) (zimg (zSz nw r) (zKd nw r) (zls (zSz nw r) (zKd nw r) 1)) ((120 + 18 * (zNl nw)) + 1) (zSz nw r) u)) (i := r) (n := (zSz nw r)) (f := (zKd nw r)) (lv := 1) (ch := (zli (zSz nw r) (zKd nw r) 1 (znc 1 (zSz nw r)))) (j := u) hr hn (zmr_ew hr hn.2 (by omega) (r3 r hr)) (by decide) hm4 (zlc_lt' hn.1) (by omega)) 4 gX6_note_X6_behind rfl kX6_behind ⟨Nat.le_of_ble_eq_true rfl, Nat.le_of_ble_eq_true rfl⟩ ⟨Nat.zero_le _, Nat.zero_le _⟩ (⟨h0, h1⟩) rfl h0 rfl hl.1 rfl rfl (Nat.le_of_ble_eq_true rfl) dX6_note_126 ?_
                  refine z_top (y := (zimg (zSz nw r) (zKd nw r) (zls (zSz nw r) (zKd nw r) 1) u)) (rfl) ?_
                  refine lv_goto (tgt := 133) hx hb dX6_note_129 (by decide) ?_
                  refine z_iast (j := ((120 + (18 * (zNl nw))) + 1) + u) hx hb hG h1 ⟨by omega, by omega⟩ hS (⟨1, by decide, rfl⟩) dX6_note_133 (fun Hn locs h_106 o_107 hS => ?_)
                  have k_108 := va_at.kept h0 (o_107.2 _ (hinj.ne (by decide) (by decide) (by decide)))
                  have k_109 := va_at.kept h2 (o_107.2 _ (hinj.ne (by decide) (by decide) (by decide)))
                  have k_110 := va_at.kept h3 (o_107.2 _ (hinj.ne (by decide) (by decide) (by decide)))
                  have k_111 := va_at.kept h4 (o_107.2 _ (hinj.ne (by decide) (by decide) (by decide)))
                  have k_112 := va_at.kept h5 (o_107.2 _ (hinj.ne (by decide) (by decide) (by decide)))
                  have k_113 := va_at.kept h6 (o_107.2 _ (hinj.ne (by decide) (by decide) (by decide)))
                  have hz : Hn.size = H.size := o_107.1.trans hz
                  refine lv_iinc (v := nI (u + 1)) (lv' := [(5, .int (nI (u + 1))), (0, .ref (am 0)), (1, .int (nI (r))), (2, .int (nI (t))), (3, .int (nI (120 + (18 * (zNl nw))))), (4, .int (nI (zli (zSz nw r) (zKd nw r) 1 (znc 1 (zSz nw r)))))]) hx hb dX6_note_134 hl (k := 5) rfl (z_inc1 _) (by decide) rfl (fun ls hl => ?_)
                  refine lv_goto (tgt := 92) hx hb dX6_note_137 (by decide) ?_
                  have hl9 := lv_sub hl [1, 2, 3, 4, 5, 0] (l' := [(0, .ref (am 0)), (1, .int (nI (r))), (2, .int (nI (t))), (3, .int (nI (120 + (18 * (zNl nw))))), (4, .int (nI (zli (zSz nw r) (zKd nw r) 1 (znc 1 (zSz nw r))))), (5, .int (nI (u + 1)))]) rfl
                  have e9_5 : (u + 1) = ((u + 1)) := by omega
                  exact ih92 (u + 1) (by omega) (by omega) _ _ hS hz (by rw [← zew_s (x := zimg (zSz nw r) (zKd nw r) (zls (zSz nw r) (zKd nw r) 1) u) (by rw [if_pos (by omega)])]; exact ⟨k_108, h_106, k_109, k_110, k_111, k_112, k_113⟩) ls (by rw [← e9_5]; exact hl9)
          exact L92 ((16 - (0)) + 1) (0) (Nat.lt_succ_self _) (Nat.zero_le _) _ _ hS hz (by rw [zew_0]; exact ⟨k_66, h_64, k_67, k_68, k_69, k_70, k_71⟩) ls (lv_sub hl [3, 4, 5, 2, 1, 0] rfl)
        · refine lv_iinc (v := nI (t + 1)) (lv' := [(2, .int (nI (t + 1))), (0, .ref (am 0)), (1, .int (nI (r)))]) hx hb dX6_note_32 hl (k := 2) rfl (z_inc1 _) (by decide) rfl (fun ls hl => ?_)
          refine lv_goto (tgt := 12) hx hb dX6_note_35 (by decide) ?_
          have hl9 := lv_sub hl [1, 2, 0] (l' := [(0, .ref (am 0)), (1, .int (nI (r))), (2, .int (nI (t + 1)))]) rfl
          have e9_2 : (t + 1) = ((t + 1)) := by omega
          exact ih12 (t + 1) (by omega) (by omega) (zno_s (p := (fun t9 => zis (zSz nw (6 + t9)) (zKd nw (6 + t9)) (zSz nw r) (zKd nw r))) hno c_58) _ _ hS hz (⟨h0, h1, h2, h3, h4, h5, h6⟩) ls (by rw [← e9_2]; exact hl9)
  exact L12 ((zNl nw - (0)) + 1) (0) (Nat.lt_succ_self _) (Nat.zero_le _) (fun u9 h9 => absurd h9 (Nat.not_lt_zero _)) _ _ hS hz (⟨h0, h1, h2, h3, h4, h5, h6⟩) ls (lv_sub hl [1, 2, 0] rfl)

set_option maxHeartbeats 4000000 in
set_option maxRecDepth 100000 in
theorem c_X6_entries_0 (E : zEnv) {am : Nat → Nat} {nw sv : zS} {an : Bool} {hs : Nat → zS} {ct ln : Nat} {cd : Nat → Int32}  (hok : zOk nw)  : zRO E yX6_entries wsX6_entries 0 0 [.ref (am 0)] (fun H => zMW E am nw sv an hs ct ln cd H) (some (.int (nI (zNl nw)))) := by
  refine zRO.ofI (maxL := 1) rfl (Nat.le_of_ble_eq_true rfl) (fun p e s m args below meth c H Q hF hP hret ls hl => ?_)
  have S : CallFix p m c cX6_entries 1 s args wsX6_entries RX6 := hF.1
  have hG := hF.2
  obtain ⟨hx, hb, hml, hown, hts⟩ := id S
  obtain ⟨z, past, kept, buf, rg, td, tm, nb, ⟨h0, h1, h2, h3, h4, h5, h6⟩, hrep, hpa, hke, hbu⟩ := hP
  obtain ⟨r1, rwt, r3, r4, r5, r6, r7⟩ := id hrep
  have hl : lv_has ls 1 [(0, .ref (am 0))] := hl
  have hin6 : ∀ w ∈ u_ws RX6 TX6 11, w ∈ wsX6_entries := by decide +kernel
  refine lv_aload_n hx hb dX6_entries_0 rfl (lv_at hl 0 rfl) ?_
  refine z_get (ref := RX6) (C := RX6) (T := TX6) (N := 11) hx hb hts hin6 hown hG h0 rfl 0 (by decide) (by decide +kernel) rfl rfl dX6_entries_1 ?_
  refine lv_bipush (v := nI (119)) hx hb dX6_entries_4 (by decide) ?_
  refine z_iald (j := 119) hx hb hG h1 ⟨by omega, by omega⟩ dX6_entries_6 ?_
  refine z_top (y := nI (zNl nw)) (r6) ?_
  exact hret _ _ _ dX6_entries_7 (rfl)

set_option maxHeartbeats 4000000 in
set_option maxRecDepth 100000 in
theorem c_X6_entry_0a (E : zEnv) {am : Nat → Nat} {nw sv : zS} {an : Bool} {hs : Nat → zS} {ct ln : Nat} {cd : Nat → Int32} {x y : Int32} (hok : zOk nw) (h09 : zNl nw = 0) : zRO E yX6_entry wsX6_entry 6 145 [.ref (am 0), .int (x), .int (y)] (fun H => zMW E am nw sv an hs ct ln cd H) (some (.int (-1))) := by
  refine zRO.ofI (maxL := 5) rfl (Nat.le_of_ble_eq_true rfl) (fun p e s m args below meth c H Q hF hP hret ls hl => ?_)
  have S : CallFix p m c cX6_entry 5 s args wsX6_entry RX6 := hF.1
  have hG := hF.2
  obtain ⟨hx, hb, hml, hown, hts⟩ := id S
  obtain ⟨z, past, kept, buf, rg, td, tm, nb, ⟨h0, h1, h2, h3, h4, h5, h6⟩, hrep, hpa, hke, hbu⟩ := hP
  obtain ⟨r1, rwt, r3, r4, r5, r6, r7⟩ := id hrep
  have hl : lv_has ls 5 [(0, .ref (am 0)), (1, .int (x)), (2, .int (y))] := hl
  have hin6 : ∀ w ∈ u_ws RX6 TX6 11, w ∈ wsX6_entry := by decide +kernel
  refine lv_iload_n hx hb dX6_entry_0 rfl (lv_at hl 1 rfl) ?_
  refine lv_iconst (v := nI (0)) hx hb dX6_entry_1 (by decide) ?_
  refine lv_aload_n hx hb dX6_entry_2 rfl (lv_at hl 0 rfl) ?_
  refine z_get (ref := RX6) (C := RX6) (T := TX6) (N := 11) hx hb hts hin6 hown hG h0 rfl 0 (by decide) (by decide +kernel) rfl rfl dX6_entry_3 ?_
  refine lv_bipush (v := nI (119)) hx hb dX6_entry_6 (by decide) ?_
  refine z_iald (j := 119) hx hb hG h1 ⟨by omega, by omega⟩ dX6_entry_8 ?_
  refine z_top (y := (nI 0)) (by rw [r6, h09]) ?_
  refine lv_iconst (v := nI (1)) hx hb dX6_entry_9 (by decide) ?_
  refine lv_isub hx hb dX6_entry_10 ?_
  refine z_top (y := nI (4294967295)) (by decide) ?_
  refine z_roSX (As := [.int (x), .int (nI (0)), .int (nI (4294967295))]) (rest := []) S hG (c_X6_in E) 3 gX6_entry_X6_in rfl kX6_in.2 ⟨Nat.le_of_ble_eq_true rfl, Nat.le_of_ble_eq_true rfl⟩ ⟨Nat.zero_le _, Nat.zero_le _⟩ (trivial) rfl hl.1 rfl rfl (Nat.le_of_ble_eq_true rfl) dX6_entry_11 ?_
  refine z_bne (tgt := 19) hx hb dX6_entry_14 (by decide) (fun c_1 => by exfalso; rw [zin_m1] at c_1; cases c_1) (fun c_1 => ?_)
  refine lv_iconst (v := (-1)) hx hb dX6_entry_17 (by decide) ?_
  exact hret _ _ _ dX6_entry_18 (rfl)

set_option maxHeartbeats 4000000 in
set_option maxRecDepth 100000 in
theorem c_X6_entry_0b (E : zEnv) {am : Nat → Nat} {nw sv : zS} {an : Bool} {hs : Nat → zS} {ct ln : Nat} {cd : Nat → Int32} {x y : Int32} (hok : zOk nw) (h09 : 0 < zNl nw) (hx1 : zin x 0 (zNl nw - 1) = false) : zRO E yX6_entry wsX6_entry 6 145 [.ref (am 0), .int (x), .int (y)] (fun H => zMW E am nw sv an hs ct ln cd H) (some (.int (-1))) := by
  refine zRO.ofI (maxL := 5) rfl (Nat.le_of_ble_eq_true rfl) (fun p e s m args below meth c H Q hF hP hret ls hl => ?_)
  have S : CallFix p m c cX6_entry 5 s args wsX6_entry RX6 := hF.1
  have hG := hF.2
  obtain ⟨hx, hb, hml, hown, hts⟩ := id S
  obtain ⟨z, past, kept, buf, rg, td, tm, nb, ⟨h0, h1, h2, h3, h4, h5, h6⟩, hrep, hpa, hke, hbu⟩ := hP
  obtain ⟨r1, rwt, r3, r4, r5, r6, r7⟩ := id hrep
  have hnl := hok.2.2.2.2.1
  have hl : lv_has ls 5 [(0, .ref (am 0)), (1, .int (x)), (2, .int (y))] := hl
  have hin6 : ∀ w ∈ u_ws RX6 TX6 11, w ∈ wsX6_entry := by decide +kernel
  refine lv_iload_n hx hb dX6_entry_0 rfl (lv_at hl 1 rfl) ?_
  refine lv_iconst (v := nI (0)) hx hb dX6_entry_1 (by decide) ?_
  refine lv_aload_n hx hb dX6_entry_2 rfl (lv_at hl 0 rfl) ?_
  refine z_get (ref := RX6) (C := RX6) (T := TX6) (N := 11) hx hb hts hin6 hown hG h0 rfl 0 (by decide) (by decide +kernel) rfl rfl dX6_entry_3 ?_
  refine lv_bipush (v := nI (119)) hx hb dX6_entry_6 (by decide) ?_
  refine z_iald (j := 119) hx hb hG h1 ⟨by omega, by omega⟩ dX6_entry_8 ?_
  refine z_top (y := nI (zNl nw)) (r6) ?_
  refine lv_iconst (v := nI (1)) hx hb dX6_entry_9 (by decide) ?_
  refine z_isub hx hb dX6_entry_10 (by omega) ?_
  refine z_roSX (As := [.int (x), .int (nI (0)), .int (nI ((zNl nw) - 1))]) (rest := []) S hG (c_X6_in E) 3 gX6_entry_X6_in rfl kX6_in.2 ⟨Nat.le_of_ble_eq_true rfl, Nat.le_of_ble_eq_true rfl⟩ ⟨Nat.zero_le _, Nat.zero_le _⟩ (trivial) rfl hl.1 rfl rfl (Nat.le_of_ble_eq_true rfl) dX6_entry_11 ?_
  refine z_bne (tgt := 19) hx hb dX6_entry_14 (by decide) (fun c_1 => by exfalso; rw [hx1] at c_1; cases c_1) (fun c_1 => ?_)
  refine lv_iconst (v := (-1)) hx hb dX6_entry_17 (by decide) ?_
  exact hret _ _ _ dX6_entry_18 (rfl)

set_option maxHeartbeats 4000000 in
set_option maxRecDepth 100000 in
theorem c_X6_entry_1 (E : zEnv) {am : Nat → Nat} {nw sv : zS} {an : Bool} {hs : Nat → zS} {ct ln : Nat} {cd : Nat → Int32} {en : Nat} {y : Int32} (hok : zOk nw) (hel : en < zNl nw) (hy : zin y 0 2 = false) : zRO E yX6_entry wsX6_entry 6 145 [.ref (am 0), .int (nI (en)), .int (y)] (fun H => zMW E am nw sv an hs ct ln cd H) (some (.int (-2))) := by
  refine zRO.ofI (maxL := 5) rfl (Nat.le_of_ble_eq_true rfl) (fun p e s m args below meth c H Q hF hP hret ls hl => ?_)
  have S : CallFix p m c cX6_entry 5 s args wsX6_entry RX6 := hF.1
  have hG := hF.2
  obtain ⟨hx, hb, hml, hown, hts⟩ := id S
  obtain ⟨z, past, kept, buf, rg, td, tm, nb, ⟨h0, h1, h2, h3, h4, h5, h6⟩, hrep, hpa, hke, hbu⟩ := hP
  obtain ⟨r1, rwt, r3, r4, r5, r6, r7⟩ := id hrep
  have hnl := hok.2.2.2.2.1
  have hl : lv_has ls 5 [(0, .ref (am 0)), (1, .int (nI (en))), (2, .int (y))] := hl
  have hin6 : ∀ w ∈ u_ws RX6 TX6 11, w ∈ wsX6_entry := by decide +kernel
  refine lv_iload_n hx hb dX6_entry_0 rfl (lv_at hl 1 rfl) ?_
  refine lv_iconst (v := nI (0)) hx hb dX6_entry_1 (by decide) ?_
  refine lv_aload_n hx hb dX6_entry_2 rfl (lv_at hl 0 rfl) ?_
  refine z_get (ref := RX6) (C := RX6) (T := TX6) (N := 11) hx hb hts hin6 hown hG h0 rfl 0 (by decide) (by decide +kernel) rfl rfl dX6_entry_3 ?_
  refine lv_bipush (v := nI (119)) hx hb dX6_entry_6 (by decide) ?_
  refine z_iald (j := 119) hx hb hG h1 ⟨by omega, by omega⟩ dX6_entry_8 ?_
  refine z_top (y := nI (zNl nw)) (r6) ?_
  refine lv_iconst (v := nI (1)) hx hb dX6_entry_9 (by decide) ?_
  refine z_isub hx hb dX6_entry_10 (by omega) ?_
  refine z_roSX (As := [.int (nI (en)), .int (nI (0)), .int (nI ((zNl nw) - 1))]) (rest := []) S hG (c_X6_in E) 3 gX6_entry_X6_in rfl kX6_in.2 ⟨Nat.le_of_ble_eq_true rfl, Nat.le_of_ble_eq_true rfl⟩ ⟨Nat.zero_le _, Nat.zero_le _⟩ (trivial) rfl hl.1 rfl rfl (Nat.le_of_ble_eq_true rfl) dX6_entry_11 ?_
  refine z_bne (tgt := 19) hx hb dX6_entry_14 (by decide) (fun c_1 => ?_) (fun c_1 => by exfalso; rw [zin_y (Nat.zero_le _) (by omega) (by omega)] at c_1; cases c_1)
  refine lv_iload_n hx hb dX6_entry_19 rfl (lv_at hl 2 rfl) ?_
  refine lv_iconst (v := nI (0)) hx hb dX6_entry_20 (by decide) ?_
  refine lv_iconst (v := nI (2)) hx hb dX6_entry_21 (by decide) ?_
  refine z_roSX (As := [.int (y), .int (nI (0)), .int (nI (2))]) (rest := []) S hG (c_X6_in E) 3 gX6_entry_X6_in rfl kX6_in.2 ⟨Nat.le_of_ble_eq_true rfl, Nat.le_of_ble_eq_true rfl⟩ ⟨Nat.zero_le _, Nat.zero_le _⟩ (trivial) rfl hl.1 rfl rfl (Nat.le_of_ble_eq_true rfl) dX6_entry_22 ?_
  refine z_bne (tgt := 31) hx hb dX6_entry_25 (by decide) (fun c_2 => by exfalso; rw [hy] at c_2; cases c_2) (fun c_2 => ?_)
  refine lv_bipush (v := (-2)) hx hb dX6_entry_28 (by decide) ?_
  exact hret _ _ _ dX6_entry_30 (rfl)

set_option maxHeartbeats 4000000 in
set_option maxRecDepth 100000 in
theorem c_X6_entry_20 (E : zEnv) {am : Nat → Nat} {nw sv : zS} {an : Bool} {hs : Nat → zS} {ct ln : Nat} {cd : Nat → Int32} {en : Nat} (hok : zOk nw) (hel : en < zNl nw) : zRO E yX6_entry wsX6_entry 6 145 [.ref (am 0), .int (nI (en)), .int (nI (0))] (fun H => zMW E am nw sv an hs ct ln cd H) (some (.int (nI (zSz nw (6 + en))))) := by
  refine zRO.ofI (maxL := 5) rfl (Nat.le_of_ble_eq_true rfl) (fun p e s m args below meth c H Q hF hP hret ls hl => ?_)
  have S : CallFix p m c cX6_entry 5 s args wsX6_entry RX6 := hF.1
  have hG := hF.2
  obtain ⟨hx, hb, hml, hown, hts⟩ := id S
  obtain ⟨z, past, kept, buf, rg, td, tm, nb, ⟨h0, h1, h2, h3, h4, h5, h6⟩, hrep, hpa, hke, hbu⟩ := hP
  obtain ⟨r1, rwt, r3, r4, r5, r6, r7⟩ := id hrep
  have hnl := hok.2.2.2.2.1
  have hl : lv_has ls 5 [(0, .ref (am 0)), (1, .int (nI (en))), (2, .int (nI (0)))] := hl
  have hin6 : ∀ w ∈ u_ws RX6 TX6 11, w ∈ wsX6_entry := by decide +kernel
  refine lv_iload_n hx hb dX6_entry_0 rfl (lv_at hl 1 rfl) ?_
  refine lv_iconst (v := nI (0)) hx hb dX6_entry_1 (by decide) ?_
  refine lv_aload_n hx hb dX6_entry_2 rfl (lv_at hl 0 rfl) ?_
  refine z_get (ref := RX6) (C := RX6) (T := TX6) (N := 11) hx hb hts hin6 hown hG h0 rfl 0 (by decide) (by decide +kernel) rfl rfl dX6_entry_3 ?_
  refine lv_bipush (v := nI (119)) hx hb dX6_entry_6 (by decide) ?_
  refine z_iald (j := 119) hx hb hG h1 ⟨by omega, by omega⟩ dX6_entry_8 ?_
  refine z_top (y := nI (zNl nw)) (r6) ?_
  refine lv_iconst (v := nI (1)) hx hb dX6_entry_9 (by decide) ?_
  refine z_isub hx hb dX6_entry_10 (by omega) ?_
  refine z_roSX (As := [.int (nI (en)), .int (nI (0)), .int (nI ((zNl nw) - 1))]) (rest := []) S hG (c_X6_in E) 3 gX6_entry_X6_in rfl kX6_in.2 ⟨Nat.le_of_ble_eq_true rfl, Nat.le_of_ble_eq_true rfl⟩ ⟨Nat.zero_le _, Nat.zero_le _⟩ (trivial) rfl hl.1 rfl rfl (Nat.le_of_ble_eq_true rfl) dX6_entry_11 ?_
  refine z_bne (tgt := 19) hx hb dX6_entry_14 (by decide) (fun c_1 => ?_) (fun c_1 => by exfalso; rw [zin_y (Nat.zero_le _) (by omega) (by omega)] at c_1; cases c_1)
  refine lv_iload_n hx hb dX6_entry_19 rfl (lv_at hl 2 rfl) ?_
  refine lv_iconst (v := nI (0)) hx hb dX6_entry_20 (by decide) ?_
  refine lv_iconst (v := nI (2)) hx hb dX6_entry_21 (by decide) ?_
  refine z_roSX (As := [.int (nI (0)), .int (nI (0)), .int (nI (2))]) (rest := []) S hG (c_X6_in E) 3 gX6_entry_X6_in rfl kX6_in.2 ⟨Nat.le_of_ble_eq_true rfl, Nat.le_of_ble_eq_true rfl⟩ ⟨Nat.zero_le _, Nat.zero_le _⟩ (trivial) rfl hl.1 rfl rfl (Nat.le_of_ble_eq_true rfl) dX6_entry_22 ?_
  refine z_bne (tgt := 31) hx hb dX6_entry_25 (by decide) (fun c_2 => ?_) (fun c_2 => by exfalso; rw [zin_y (by omega) (by omega) (by decide)] at c_2; cases c_2)
  refine lv_iconst (v := nI (0)) hx hb dX6_entry_31 (by decide) ?_
  refine lv_istore_n (lv' := [(3, .int (nI (0))), (0, .ref (am 0)), (1, .int (nI (en))), (2, .int (nI (0)))]) hx hb dX6_entry_32 rfl hl (by decide) rfl (fun ls hl => ?_)
  refine lv_iconst (v := nI (0)) hx hb dX6_entry_33 (by decide) ?_
  refine lv_istore (lv' := [(4, .int (nI (0))), (3, .int (nI (0))), (0, .ref (am 0)), (1, .int (nI (en))), (2, .int (nI (0)))]) hx hb dX6_entry_34 hl (by decide) rfl (fun ls hl => ?_)
  have L36 : ∀ (dd : Nat) (i : Nat), 6 - i < dd → (i ≤ 6) → ∀ (ls : Array Slot), lv_has ls 5 [(0, .ref (am 0)), (1, .int (nI (en))), (2, .int (nI (0))), (3, .int (nI (zct (fun t9 => zis (zSz nw (6 + en)) (zKd nw (6 + en)) (zSz nw t9) (zKd nw t9)) i))), (4, .int (nI (i)))] → W p (zl E) e (zRm 6 145) s m args below meth c H [] 0 0 Q (F0 m 36 ls []) := by
    intro dd
    induction dd with
    | zero => intro i hdd; exact absurd hdd (Nat.not_lt_zero _)
    | succ dd ih36 =>
      intro i hdd36 hi ls hl
      refine lv_iload hx hb dX6_entry_36 (lv_at hl 4 rfl) ?_
      refine lv_bipush (v := nI (6)) hx hb dX6_entry_38 (by decide) ?_
      refine z_cge (tgt := 67) hx hb dX6_entry_40 (by decide) ⟨by omega, by omega⟩ (fun c_3 => ?_) (fun c_3 => ?_)
      · refine lv_iload_n hx hb dX6_entry_67 rfl (lv_at hl 2 rfl) ?_
        refine z_fne (tgt := 86) hx hb dX6_entry_68 (by decide) (by omega) (fun c_4 => by exfalso; omega) (fun c_4 => ?_)
        refine lv_aload_n hx hb dX6_entry_71 rfl (lv_at hl 0 rfl) ?_
        refine z_get (ref := RX6) (C := RX6) (T := TX6) (N := 11) hx hb hts hin6 hown hG h0 rfl 0 (by decide) (by decide +kernel) rfl rfl dX6_entry_72 ?_
        refine lv_bipush (v := nI (120)) hx hb dX6_entry_75 (by decide) ?_
        refine lv_bipush (v := nI (18)) hx hb dX6_entry_77 (by decide) ?_
        refine lv_iload_n hx hb dX6_entry_79 rfl (lv_at hl 1 rfl) ?_
        refine z_imul hx hb dX6_entry_80 ?_
        refine z_iadd hx hb dX6_entry_81 ?_
        refine z_iald (j := 120 + (18 * en)) hx hb hG h1 ⟨by omega, by omega⟩ dX6_entry_82 ?_
        refine z_top (y := (nI (zSz nw (6 + en)))) ((r7 en hel).1) ?_
        refine lv_goto (tgt := 110) hx hb dX6_entry_83 (by decide) ?_
        exact hret _ _ _ dX6_entry_110 (by first | rfl | rw [show i = 6 by omega])
      · refine lv_iload_n hx hb dX6_entry_43 rfl (lv_at hl 3 rfl) ?_
        refine lv_aload_n hx hb dX6_entry_44 rfl (lv_at hl 0 rfl) ?_
        refine lv_iload_n hx hb dX6_entry_45 rfl (lv_at hl 1 rfl) ?_
        refine lv_iload hx hb dX6_entry_46 (lv_at hl 4 rfl) ?_
        refine z_roV (As := [.int (nI (en)), .int (nI (i))]) (rest := [.int (nI (zct (fun t9 => zis (zSz nw (6 + en)) (zKd nw (6 + en)) (zSz nw t9) (zKd nw t9)) i))]) (q := (RX6, TX6, 11)) S hG (c_X6_isOf_b E (z := z) (i := i) (n := zSz nw i) (f := zKd nw i) (t := en) (m := zSz nw (6 + en)) (g := zKd nw (6 + en)) (by omega) (hok.1 i (by omega)) (r3 i (by omega)) (fun s hs => hok.2.1 i (by omega) s hs) (by omega) (hok.2.2.2.2.2 en hel).1 (r7 en hel).1 (r7 en hel).2.1) 2 gX6_entry_X6_isOf rfl kX6_isOf ⟨Nat.le_of_ble_eq_true rfl, Nat.le_of_ble_eq_true rfl⟩ ⟨Nat.zero_le _, Nat.zero_le _⟩ (⟨h0, h1⟩) rfl h0 rfl hl.1 rfl rfl (Nat.le_of_ble_eq_true rfl) dX6_entry_48 ?_
        refine z_beq (tgt := 58) hx hb dX6_entry_51 (by decide) (fun c_5 => ?_) (fun c_5 => ?_)
        · refine lv_iconst (v := nI (0)) hx hb dX6_entry_58 (by decide) ?_
          refine z_iadd hx hb dX6_entry_59 ?_
          refine lv_istore_n (lv' := [(3, .int (nI ((zct (fun t9 => zis (zSz nw (6 + en)) (zKd nw (6 + en)) (zSz nw t9) (zKd nw t9)) i) + 0))), (0, .ref (am 0)), (1, .int (nI (en))), (2, .int (nI (0))), (4, .int (nI (i)))]) hx hb dX6_entry_60 rfl hl (by decide) rfl (fun ls hl => ?_)
          refine lv_iinc (v := nI (i + 1)) (lv' := [(4, .int (nI (i + 1))), (3, .int (nI ((zct (fun t9 => zis (zSz nw (6 + en)) (zKd nw (6 + en)) (zSz nw t9) (zKd nw t9)) i) + 0))), (0, .ref (am 0)), (1, .int (nI (en))), (2, .int (nI (0)))]) hx hb dX6_entry_61 hl (k := 4) rfl (z_inc1 _) (by decide) rfl (fun ls hl => ?_)
          refine lv_goto (tgt := 36) hx hb dX6_entry_64 (by decide) ?_
          have hl9 := lv_sub hl [2, 3, 4, 1, 0] (l' := [(0, .ref (am 0)), (1, .int (nI (en))), (2, .int (nI (0))), (3, .int (nI ((zct (fun t9 => zis (zSz nw (6 + en)) (zKd nw (6 + en)) (zSz nw t9) (zKd nw t9)) i) + 0))), (4, .int (nI (i + 1)))]) rfl
          have e9_3 : ((zct (fun t9 => zis (zSz nw (6 + en)) (zKd nw (6 + en)) (zSz nw t9) (zKd nw t9)) i) + 0) = (zct (fun t9 => zis (zSz nw (6 + en)) (zKd nw (6 + en)) (zSz nw t9) (zKd nw t9)) (i + 1)) := by first | exact zct_t (p := (fun t9 => zis (zSz nw (6 + en)) (zKd nw (6 + en)) (zSz nw t9) (zKd nw t9))) c_5 | exact zct_f (p := (fun t9 => zis (zSz nw (6 + en)) (zKd nw (6 + en)) (zSz nw t9) (zKd nw t9))) c_5
          have e9_4 : (i + 1) = ((i + 1)) := by omega
          exact ih36 (i + 1) (by omega) (by omega) ls (by rw [← e9_3, ← e9_4]; exact hl9)
        · refine lv_iconst (v := nI (1)) hx hb dX6_entry_54 (by decide) ?_
          refine lv_goto (tgt := 59) hx hb dX6_entry_55 (by decide) ?_
          refine z_iadd hx hb dX6_entry_59 ?_
          refine lv_istore_n (lv' := [(3, .int (nI ((zct (fun t9 => zis (zSz nw (6 + en)) (zKd nw (6 + en)) (zSz nw t9) (zKd nw t9)) i) + 1))), (0, .ref (am 0)), (1, .int (nI (en))), (2, .int (nI (0))), (4, .int (nI (i)))]) hx hb dX6_entry_60 rfl hl (by decide) rfl (fun ls hl => ?_)
          refine lv_iinc (v := nI (i + 1)) (lv' := [(4, .int (nI (i + 1))), (3, .int (nI ((zct (fun t9 => zis (zSz nw (6 + en)) (zKd nw (6 + en)) (zSz nw t9) (zKd nw t9)) i) + 1))), (0, .ref (am 0)), (1, .int (nI (en))), (2, .int (nI (0)))]) hx hb dX6_entry_61 hl (k := 4) rfl (z_inc1 _) (by decide) rfl (fun ls hl => ?_)
          refine lv_goto (tgt := 36) hx hb dX6_entry_64 (by decide) ?_
          have hl9 := lv_sub hl [2, 3, 4, 1, 0] (l' := [(0, .ref (am 0)), (1, .int (nI (en))), (2, .int (nI (0))), (3, .int (nI ((zct (fun t9 => zis (zSz nw (6 + en)) (zKd nw (6 + en)) (zSz nw t9) (zKd nw t9)) i) + 1))), (4, .int (nI (i + 1)))]) rfl
          have e9_3 : ((zct (fun t9 => zis (zSz nw (6 + en)) (zKd nw (6 + en)) (zSz nw t9) (zKd nw t9)) i) + 1) = (zct (fun t9 => zis (zSz nw (6 + en)) (zKd nw (6 + en)) (zSz nw t9) (zKd nw t9)) (i + 1)) := by first | exact zct_t (p := (fun t9 => zis (zSz nw (6 + en)) (zKd nw (6 + en)) (zSz nw t9) (zKd nw t9))) c_5 | exact zct_f (p := (fun t9 => zis (zSz nw (6 + en)) (zKd nw (6 + en)) (zSz nw t9) (zKd nw t9))) c_5
          have e9_4 : (i + 1) = ((i + 1)) := by omega
          exact ih36 (i + 1) (by omega) (by omega) ls (by rw [← e9_3, ← e9_4]; exact hl9)
  exact L36 ((6 - (0)) + 1) (0) (Nat.lt_succ_self _) (by decide) ls (lv_sub hl [2, 3, 4, 1, 0] rfl)

set_option maxHeartbeats 4000000 in
set_option maxRecDepth 100000 in
theorem c_X6_entry_21 (E : zEnv) {am : Nat → Nat} {nw sv : zS} {an : Bool} {hs : Nat → zS} {ct ln : Nat} {cd : Nat → Int32} {en : Nat} (hok : zOk nw) (hel : en < zNl nw) : zRO E yX6_entry wsX6_entry 6 145 [.ref (am 0), .int (nI (en)), .int (nI (1))] (fun H => zMW E am nw sv an hs ct ln cd H) (some (.int (zTm nw en))) := by
  refine zRO.ofI (maxL := 5) rfl (Nat.le_of_ble_eq_true rfl) (fun p e s m args below meth c H Q hF hP hret ls hl => ?_)
  have S : CallFix p m c cX6_entry 5 s args wsX6_entry RX6 := hF.1
  have hG := hF.2
  obtain ⟨hx, hb, hml, hown, hts⟩ := id S
  obtain ⟨z, past, kept, buf, rg, td, tm, nb, ⟨h0, h1, h2, h3, h4, h5, h6⟩, hrep, hpa, hke, hbu⟩ := hP
  obtain ⟨r1, rwt, r3, r4, r5, r6, r7⟩ := id hrep
  have hnl := hok.2.2.2.2.1
  have hl : lv_has ls 5 [(0, .ref (am 0)), (1, .int (nI (en))), (2, .int (nI (1)))] := hl
  have hin6 : ∀ w ∈ u_ws RX6 TX6 11, w ∈ wsX6_entry := by decide +kernel
  refine lv_iload_n hx hb dX6_entry_0 rfl (lv_at hl 1 rfl) ?_
  refine lv_iconst (v := nI (0)) hx hb dX6_entry_1 (by decide) ?_
  refine lv_aload_n hx hb dX6_entry_2 rfl (lv_at hl 0 rfl) ?_
  refine z_get (ref := RX6) (C := RX6) (T := TX6) (N := 11) hx hb hts hin6 hown hG h0 rfl 0 (by decide) (by decide +kernel) rfl rfl dX6_entry_3 ?_
  refine lv_bipush (v := nI (119)) hx hb dX6_entry_6 (by decide) ?_
  refine z_iald (j := 119) hx hb hG h1 ⟨by omega, by omega⟩ dX6_entry_8 ?_
  refine z_top (y := nI (zNl nw)) (r6) ?_
  refine lv_iconst (v := nI (1)) hx hb dX6_entry_9 (by decide) ?_
  refine z_isub hx hb dX6_entry_10 (by omega) ?_
  refine z_roSX (As := [.int (nI (en)), .int (nI (0)), .int (nI ((zNl nw) - 1))]) (rest := []) S hG (c_X6_in E) 3 gX6_entry_X6_in rfl kX6_in.2 ⟨Nat.le_of_ble_eq_true rfl, Nat.le_of_ble_eq_true rfl⟩ ⟨Nat.zero_le _, Nat.zero_le _⟩ (trivial) rfl hl.1 rfl rfl (Nat.le_of_ble_eq_true rfl) dX6_entry_11 ?_
  refine z_bne (tgt := 19) hx hb dX6_entry_14 (by decide) (fun c_1 => ?_) (fun c_1 => by exfalso; rw [zin_y (Nat.zero_le _) (by omega) (by omega)] at c_1; cases c_1)
  refine lv_iload_n hx hb dX6_entry_19 rfl (lv_at hl 2 rfl) ?_
  refine lv_iconst (v := nI (0)) hx hb dX6_entry_20 (by decide) ?_
  refine lv_iconst (v := nI (2)) hx hb dX6_entry_21 (by decide) ?_
  refine z_roSX (As := [.int (nI (1)), .int (nI (0)), .int (nI (2))]) (rest := []) S hG (c_X6_in E) 3 gX6_entry_X6_in rfl kX6_in.2 ⟨Nat.le_of_ble_eq_true rfl, Nat.le_of_ble_eq_true rfl⟩ ⟨Nat.zero_le _, Nat.zero_le _⟩ (trivial) rfl hl.1 rfl rfl (Nat.le_of_ble_eq_true rfl) dX6_entry_22 ?_
  refine z_bne (tgt := 31) hx hb dX6_entry_25 (by decide) (fun c_2 => ?_) (fun c_2 => by exfalso; rw [zin_y (by omega) (by omega) (by decide)] at c_2; cases c_2)
  refine lv_iconst (v := nI (0)) hx hb dX6_entry_31 (by decide) ?_
  refine lv_istore_n (lv' := [(3, .int (nI (0))), (0, .ref (am 0)), (1, .int (nI (en))), (2, .int (nI (1)))]) hx hb dX6_entry_32 rfl hl (by decide) rfl (fun ls hl => ?_)
  refine lv_iconst (v := nI (0)) hx hb dX6_entry_33 (by decide) ?_
  refine lv_istore (lv' := [(4, .int (nI (0))), (3, .int (nI (0))), (0, .ref (am 0)), (1, .int (nI (en))), (2, .int (nI (1)))]) hx hb dX6_entry_34 hl (by decide) rfl (fun ls hl => ?_)
  have L36 : ∀ (dd : Nat) (i : Nat), 6 - i < dd → (i ≤ 6) → ∀ (ls : Array Slot), lv_has ls 5 [(0, .ref (am 0)), (1, .int (nI (en))), (2, .int (nI (1))), (3, .int (nI (zct (fun t9 => zis (zSz nw (6 + en)) (zKd nw (6 + en)) (zSz nw t9) (zKd nw t9)) i))), (4, .int (nI (i)))] → W p (zl E) e (zRm 6 145) s m args below meth c H [] 0 0 Q (F0 m 36 ls []) := by
    intro dd
    induction dd with
    | zero => intro i hdd; exact absurd hdd (Nat.not_lt_zero _)
    | succ dd ih36 =>
      intro i hdd36 hi ls hl
      refine lv_iload hx hb dX6_entry_36 (lv_at hl 4 rfl) ?_
      refine lv_bipush (v := nI (6)) hx hb dX6_entry_38 (by decide) ?_
      refine z_cge (tgt := 67) hx hb dX6_entry_40 (by decide) ⟨by omega, by omega⟩ (fun c_3 => ?_) (fun c_3 => ?_)
      · refine lv_iload_n hx hb dX6_entry_67 rfl (lv_at hl 2 rfl) ?_
        refine z_fne (tgt := 86) hx hb dX6_entry_68 (by decide) (by omega) (fun c_4 => ?_) (fun c_4 => by exfalso; omega)
        refine lv_iload_n hx hb dX6_entry_86 rfl (lv_at hl 2 rfl) ?_
        refine lv_iconst (v := nI (1)) hx hb dX6_entry_87 (by decide) ?_
        refine z_cne (tgt := 109) hx hb dX6_entry_88 (by decide) ⟨by omega, by omega⟩ (fun c_5 => by exfalso; omega) (fun c_5 => ?_)
        refine lv_aload_n hx hb dX6_entry_91 rfl (lv_at hl 0 rfl) ?_
        refine z_get (ref := RX6) (C := RX6) (T := TX6) (N := 11) hx hb hts hin6 hown hG h0 rfl 0 (by decide) (by decide +kernel) rfl rfl dX6_entry_92 ?_
        refine lv_bipush (v := nI (120)) hx hb dX6_entry_95 (by decide) ?_
        refine lv_bipush (v := nI (18)) hx hb dX6_entry_97 (by decide) ?_
        refine lv_iload_n hx hb dX6_entry_99 rfl (lv_at hl 1 rfl) ?_
        refine z_imul hx hb dX6_entry_100 ?_
        refine z_iadd hx hb dX6_entry_101 ?_
        refine lv_bipush (v := nI (17)) hx hb dX6_entry_102 (by decide) ?_
        refine z_iadd hx hb dX6_entry_104 ?_
        refine z_iald (j := (120 + (18 * en)) + 17) hx hb hG h1 ⟨by omega, by omega⟩ dX6_entry_105 ?_
        refine z_top (y := (zTm nw en)) ((r7 en hel).2.2) ?_
        refine lv_goto (tgt := 110) hx hb dX6_entry_106 (by decide) ?_
        exact hret _ _ _ dX6_entry_110 (by first | rfl | rw [show i = 6 by omega])
      · refine lv_iload_n hx hb dX6_entry_43 rfl (lv_at hl 3 rfl) ?_
        refine lv_aload_n hx hb dX6_entry_44 rfl (lv_at hl 0 rfl) ?_
        refine lv_iload_n hx hb dX6_entry_45 rfl (lv_at hl 1 rfl) ?_
        refine lv_iload hx hb dX6_entry_46 (lv_at hl 4 rfl) ?_
        refine z_roV (As := [.int (nI (en)), .int (nI (i))]) (rest := [.int (nI (zct (fun t9 => zis (zSz nw (6 + en)) (zKd nw (6 + en)) (zSz nw t9) (zKd nw t9)) i))]) (q := (RX6, TX6, 11)) S hG (c_X6_isOf_b E (z := z) (i := i) (n := zSz nw i) (f := zKd nw i) (t := en) (m := zSz nw (6 + en)) (g := zKd nw (6 + en)) (by omega) (hok.1 i (by omega)) (r3 i (by omega)) (fun s hs => hok.2.1 i (by omega) s hs) (by omega) (hok.2.2.2.2.2 en hel).1 (r7 en hel).1 (r7 en hel).2.1) 2 gX6_entry_X6_isOf rfl kX6_isOf ⟨Nat.le_of_ble_eq_true rfl, Nat.le_of_ble_eq_true rfl⟩ ⟨Nat.zero_le _, Nat.zero_le _⟩ (⟨h0, h1⟩) rfl h0 rfl hl.1 rfl rfl (Nat.le_of_ble_eq_true rfl) dX6_entry_48 ?_
        refine z_beq (tgt := 58) hx hb dX6_entry_51 (by decide) (fun c_6 => ?_) (fun c_6 => ?_)
        · refine lv_iconst (v := nI (0)) hx hb dX6_entry_58 (by decide) ?_
          refine z_iadd hx hb dX6_entry_59 ?_
          refine lv_istore_n (lv' := [(3, .int (nI ((zct (fun t9 => zis (zSz nw (6 + en)) (zKd nw (6 + en)) (zSz nw t9) (zKd nw t9)) i) + 0))), (0, .ref (am 0)), (1, .int (nI (en))), (2, .int (nI (1))), (4, .int (nI (i)))]) hx hb dX6_entry_60 rfl hl (by decide) rfl (fun ls hl => ?_)
          refine lv_iinc (v := nI (i + 1)) (lv' := [(4, .int (nI (i + 1))), (3, .int (nI ((zct (fun t9 => zis (zSz nw (6 + en)) (zKd nw (6 + en)) (zSz nw t9) (zKd nw t9)) i) + 0))), (0, .ref (am 0)), (1, .int (nI (en))), (2, .int (nI (1)))]) hx hb dX6_entry_61 hl (k := 4) rfl (z_inc1 _) (by decide) rfl (fun ls hl => ?_)
          refine lv_goto (tgt := 36) hx hb dX6_entry_64 (by decide) ?_
          have hl9 := lv_sub hl [2, 3, 4, 1, 0] (l' := [(0, .ref (am 0)), (1, .int (nI (en))), (2, .int (nI (1))), (3, .int (nI ((zct (fun t9 => zis (zSz nw (6 + en)) (zKd nw (6 + en)) (zSz nw t9) (zKd nw t9)) i) + 0))), (4, .int (nI (i + 1)))]) rfl
          have e9_3 : ((zct (fun t9 => zis (zSz nw (6 + en)) (zKd nw (6 + en)) (zSz nw t9) (zKd nw t9)) i) + 0) = (zct (fun t9 => zis (zSz nw (6 + en)) (zKd nw (6 + en)) (zSz nw t9) (zKd nw t9)) (i + 1)) := by first | exact zct_t (p := (fun t9 => zis (zSz nw (6 + en)) (zKd nw (6 + en)) (zSz nw t9) (zKd nw t9))) c_6 | exact zct_f (p := (fun t9 => zis (zSz nw (6 + en)) (zKd nw (6 + en)) (zSz nw t9) (zKd nw t9))) c_6
          have e9_4 : (i + 1) = ((i + 1)) := by omega
          exact ih36 (i + 1) (by omega) (by omega) ls (by rw [← e9_3, ← e9_4]; exact hl9)
        · refine lv_iconst (v := nI (1)) hx hb dX6_entry_54 (by decide) ?_
          refine lv_goto (tgt := 59) hx hb dX6_entry_55 (by decide) ?_
          refine z_iadd hx hb dX6_entry_59 ?_
          refine lv_istore_n (lv' := [(3, .int (nI ((zct (fun t9 => zis (zSz nw (6 + en)) (zKd nw (6 + en)) (zSz nw t9) (zKd nw t9)) i) + 1))), (0, .ref (am 0)), (1, .int (nI (en))), (2, .int (nI (1))), (4, .int (nI (i)))]) hx hb dX6_entry_60 rfl hl (by decide) rfl (fun ls hl => ?_)
          refine lv_iinc (v := nI (i + 1)) (lv' := [(4, .int (nI (i + 1))), (3, .int (nI ((zct (fun t9 => zis (zSz nw (6 + en)) (zKd nw (6 + en)) (zSz nw t9) (zKd nw t9)) i) + 1))), (0, .ref (am 0)), (1, .int (nI (en))), (2, .int (nI (1)))]) hx hb dX6_entry_61 hl (k := 4) rfl (z_inc1 _) (by decide) rfl (fun ls hl => ?_)
          refine lv_goto (tgt := 36) hx hb dX6_entry_64 (by decide) ?_
          have hl9 := lv_sub hl [2, 3, 4, 1, 0] (l' := [(0, .ref (am 0)), (1, .int (nI (en))), (2, .int (nI (1))), (3, .int (nI ((zct (fun t9 => zis (zSz nw (6 + en)) (zKd nw (6 + en)) (zSz nw t9) (zKd nw t9)) i) + 1))), (4, .int (nI (i + 1)))]) rfl
          have e9_3 : ((zct (fun t9 => zis (zSz nw (6 + en)) (zKd nw (6 + en)) (zSz nw t9) (zKd nw t9)) i) + 1) = (zct (fun t9 => zis (zSz nw (6 + en)) (zKd nw (6 + en)) (zSz nw t9) (zKd nw t9)) (i + 1)) := by first | exact zct_t (p := (fun t9 => zis (zSz nw (6 + en)) (zKd nw (6 + en)) (zSz nw t9) (zKd nw t9))) c_6 | exact zct_f (p := (fun t9 => zis (zSz nw (6 + en)) (zKd nw (6 + en)) (zSz nw t9) (zKd nw t9))) c_6
          have e9_4 : (i + 1) = ((i + 1)) := by omega
          exact ih36 (i + 1) (by omega) (by omega) ls (by rw [← e9_3, ← e9_4]; exact hl9)
  exact L36 ((6 - (0)) + 1) (0) (Nat.lt_succ_self _) (by decide) ls (lv_sub hl [2, 3, 4, 1, 0] rfl)

set_option maxHeartbeats 4000000 in
set_option maxRecDepth 100000 in
theorem c_X6_entry_22 (E : zEnv) {am : Nat → Nat} {nw sv : zS} {an : Bool} {hs : Nat → zS} {ct ln : Nat} {cd : Nat → Int32} {en : Nat} (hok : zOk nw) (hel : en < zNl nw) : zRO E yX6_entry wsX6_entry 6 145 [.ref (am 0), .int (nI (en)), .int (nI (2))] (fun H => zMW E am nw sv an hs ct ln cd H) (some (.int (nI (zct (fun t9 => zis (zSz nw (6 + en)) (zKd nw (6 + en)) (zSz nw t9) (zKd nw t9)) 6)))) := by
  refine zRO.ofI (maxL := 5) rfl (Nat.le_of_ble_eq_true rfl) (fun p e s m args below meth c H Q hF hP hret ls hl => ?_)
  have S : CallFix p m c cX6_entry 5 s args wsX6_entry RX6 := hF.1
  have hG := hF.2
  obtain ⟨hx, hb, hml, hown, hts⟩ := id S
  obtain ⟨z, past, kept, buf, rg, td, tm, nb, ⟨h0, h1, h2, h3, h4, h5, h6⟩, hrep, hpa, hke, hbu⟩ := hP
  obtain ⟨r1, rwt, r3, r4, r5, r6, r7⟩ := id hrep
  have hnl := hok.2.2.2.2.1
  have hl : lv_has ls 5 [(0, .ref (am 0)), (1, .int (nI (en))), (2, .int (nI (2)))] := hl
  have hin6 : ∀ w ∈ u_ws RX6 TX6 11, w ∈ wsX6_entry := by decide +kernel
  refine lv_iload_n hx hb dX6_entry_0 rfl (lv_at hl 1 rfl) ?_
  refine lv_iconst (v := nI (0)) hx hb dX6_entry_1 (by decide) ?_
  refine lv_aload_n hx hb dX6_entry_2 rfl (lv_at hl 0 rfl) ?_
  refine z_get (ref := RX6) (C := RX6) (T := TX6) (N := 11) hx hb hts hin6 hown hG h0 rfl 0 (by decide) (by decide +kernel) rfl rfl dX6_entry_3 ?_
  refine lv_bipush (v := nI (119)) hx hb dX6_entry_6 (by decide) ?_
  refine z_iald (j := 119) hx hb hG h1 ⟨by omega, by omega⟩ dX6_entry_8 ?_
  refine z_top (y := nI (zNl nw)) (r6) ?_
  refine lv_iconst (v := nI (1)) hx hb dX6_entry_9 (by decide) ?_
  refine z_isub hx hb dX6_entry_10 (by omega) ?_
  refine z_roSX (As := [.int (nI (en)), .int (nI (0)), .int (nI ((zNl nw) - 1))]) (rest := []) S hG (c_X6_in E) 3 gX6_entry_X6_in rfl kX6_in.2 ⟨Nat.le_of_ble_eq_true rfl, Nat.le_of_ble_eq_true rfl⟩ ⟨Nat.zero_le _, Nat.zero_le _⟩ (trivial) rfl hl.1 rfl rfl (Nat.le_of_ble_eq_true rfl) dX6_entry_11 ?_
  refine z_bne (tgt := 19) hx hb dX6_entry_14 (by decide) (fun c_1 => ?_) (fun c_1 => by exfalso; rw [zin_y (Nat.zero_le _) (by omega) (by omega)] at c_1; cases c_1)
  refine lv_iload_n hx hb dX6_entry_19 rfl (lv_at hl 2 rfl) ?_
  refine lv_iconst (v := nI (0)) hx hb dX6_entry_20 (by decide) ?_
  refine lv_iconst (v := nI (2)) hx hb dX6_entry_21 (by decide) ?_
  refine z_roSX (As := [.int (nI (2)), .int (nI (0)), .int (nI (2))]) (rest := []) S hG (c_X6_in E) 3 gX6_entry_X6_in rfl kX6_in.2 ⟨Nat.le_of_ble_eq_true rfl, Nat.le_of_ble_eq_true rfl⟩ ⟨Nat.zero_le _, Nat.zero_le _⟩ (trivial) rfl hl.1 rfl rfl (Nat.le_of_ble_eq_true rfl) dX6_entry_22 ?_
  refine z_bne (tgt := 31) hx hb dX6_entry_25 (by decide) (fun c_2 => ?_) (fun c_2 => by exfalso; rw [zin_y (by omega) (by omega) (by decide)] at c_2; cases c_2)
  refine lv_iconst (v := nI (0)) hx hb dX6_entry_31 (by decide) ?_
  refine lv_istore_n (lv' := [(3, .int (nI (0))), (0, .ref (am 0)), (1, .int (nI (en))), (2, .int (nI (2)))]) hx hb dX6_entry_32 rfl hl (by decide) rfl (fun ls hl => ?_)
  refine lv_iconst (v := nI (0)) hx hb dX6_entry_33 (by decide) ?_
  refine lv_istore (lv' := [(4, .int (nI (0))), (3, .int (nI (0))), (0, .ref (am 0)), (1, .int (nI (en))), (2, .int (nI (2)))]) hx hb dX6_entry_34 hl (by decide) rfl (fun ls hl => ?_)
  have L36 : ∀ (dd : Nat) (i : Nat), 6 - i < dd → (i ≤ 6) → ∀ (ls : Array Slot), lv_has ls 5 [(0, .ref (am 0)), (1, .int (nI (en))), (2, .int (nI (2))), (3, .int (nI (zct (fun t9 => zis (zSz nw (6 + en)) (zKd nw (6 + en)) (zSz nw t9) (zKd nw t9)) i))), (4, .int (nI (i)))] → W p (zl E) e (zRm 6 145) s m args below meth c H [] 0 0 Q (F0 m 36 ls []) := by
    intro dd
    induction dd with
    | zero => intro i hdd; exact absurd hdd (Nat.not_lt_zero _)
    | succ dd ih36 =>
      intro i hdd36 hi ls hl
      refine lv_iload hx hb dX6_entry_36 (lv_at hl 4 rfl) ?_
      refine lv_bipush (v := nI (6)) hx hb dX6_entry_38 (by decide) ?_
      refine z_cge (tgt := 67) hx hb dX6_entry_40 (by decide) ⟨by omega, by omega⟩ (fun c_3 => ?_) (fun c_3 => ?_)
      · refine lv_iload_n hx hb dX6_entry_67 rfl (lv_at hl 2 rfl) ?_
        refine z_fne (tgt := 86) hx hb dX6_entry_68 (by decide) (by omega) (fun c_4 => ?_) (fun c_4 => by exfalso; omega)
        refine lv_iload_n hx hb dX6_entry_86 rfl (lv_at hl 2 rfl) ?_
        refine lv_iconst (v := nI (1)) hx hb dX6_entry_87 (by decide) ?_
        refine z_cne (tgt := 109) hx hb dX6_entry_88 (by decide) ⟨by omega, by omega⟩ (fun c_5 => ?_) (fun c_5 => by exfalso; omega)
        refine lv_iload_n hx hb dX6_entry_109 rfl (lv_at hl 3 rfl) ?_
        exact hret _ _ _ dX6_entry_110 (by first | rfl | rw [show i = 6 by omega])
      · refine lv_iload_n hx hb dX6_entry_43 rfl (lv_at hl 3 rfl) ?_
        refine lv_aload_n hx hb dX6_entry_44 rfl (lv_at hl 0 rfl) ?_
        refine lv_iload_n hx hb dX6_entry_45 rfl (lv_at hl 1 rfl) ?_
        refine lv_iload hx hb dX6_entry_46 (lv_at hl 4 rfl) ?_
        refine z_roV (As := [.int (nI (en)), .int (nI (i))]) (rest := [.int (nI (zct (fun t9 => zis (zSz nw (6 + en)) (zKd nw (6 + en)) (zSz nw t9) (zKd nw t9)) i))]) (q := (RX6, TX6, 11)) S hG (c_X6_isOf_b E (z := z) (i := i) (n := zSz nw i) (f := zKd nw i) (t := en) (m := zSz nw (6 + en)) (g := zKd nw (6 + en)) (by omega) (hok.1 i (by omega)) (r3 i (by omega)) (fun s hs => hok.2.1 i (by omega) s hs) (by omega) (hok.2.2.2.2.2 en hel).1 (r7 en hel).1 (r7 en hel).2.1) 2 gX6_entry_X6_isOf rfl kX6_isOf ⟨Nat.le_of_ble_eq_true rfl, Nat.le_of_ble_eq_true rfl⟩ ⟨Nat.zero_le _, Nat.zero_le _⟩ (⟨h0, h1⟩) rfl h0 rfl hl.1 rfl rfl (Nat.le_of_ble_eq_true rfl) dX6_entry_48 ?_
        refine z_beq (tgt := 58) hx hb dX6_entry_51 (by decide) (fun c_6 => ?_) (fun c_6 => ?_)
        · refine lv_iconst (v := nI (0)) hx hb dX6_entry_58 (by decide) ?_
          refine z_iadd hx hb dX6_entry_59 ?_
          refine lv_istore_n (lv' := [(3, .int (nI ((zct (fun t9 => zis (zSz nw (6 + en)) (zKd nw (6 + en)) (zSz nw t9) (zKd nw t9)) i) + 0))), (0, .ref (am 0)), (1, .int (nI (en))), (2, .int (nI (2))), (4, .int (nI (i)))]) hx hb dX6_entry_60 rfl hl (by decide) rfl (fun ls hl => ?_)
          refine lv_iinc (v := nI (i + 1)) (lv' := [(4, .int (nI (i + 1))), (3, .int (nI ((zct (fun t9 => zis (zSz nw (6 + en)) (zKd nw (6 + en)) (zSz nw t9) (zKd nw t9)) i) + 0))), (0, .ref (am 0)), (1, .int (nI (en))), (2, .int (nI (2)))]) hx hb dX6_entry_61 hl (k := 4) rfl (z_inc1 _) (by decide) rfl (fun ls hl => ?_)
          refine lv_goto (tgt := 36) hx hb dX6_entry_64 (by decide) ?_
          have hl9 := lv_sub hl [2, 3, 4, 1, 0] (l' := [(0, .ref (am 0)), (1, .int (nI (en))), (2, .int (nI (2))), (3, .int (nI ((zct (fun t9 => zis (zSz nw (6 + en)) (zKd nw (6 + en)) (zSz nw t9) (zKd nw t9)) i) + 0))), (4, .int (nI (i + 1)))]) rfl
          have e9_3 : ((zct (fun t9 => zis (zSz nw (6 + en)) (zKd nw (6 + en)) (zSz nw t9) (zKd nw t9)) i) + 0) = (zct (fun t9 => zis (zSz nw (6 + en)) (zKd nw (6 + en)) (zSz nw t9) (zKd nw t9)) (i + 1)) := by first | exact zct_t (p := (fun t9 => zis (zSz nw (6 + en)) (zKd nw (6 + en)) (zSz nw t9) (zKd nw t9))) c_6 | exact zct_f (p := (fun t9 => zis (zSz nw (6 + en)) (zKd nw (6 + en)) (zSz nw t9) (zKd nw t9))) c_6
          have e9_4 : (i + 1) = ((i + 1)) := by omega
          exact ih36 (i + 1) (by omega) (by omega) ls (by rw [← e9_3, ← e9_4]; exact hl9)
        · refine lv_iconst (v := nI (1)) hx hb dX6_entry_54 (by decide) ?_
          refine lv_goto (tgt := 59) hx hb dX6_entry_55 (by decide) ?_
          refine z_iadd hx hb dX6_entry_59 ?_
          refine lv_istore_n (lv' := [(3, .int (nI ((zct (fun t9 => zis (zSz nw (6 + en)) (zKd nw (6 + en)) (zSz nw t9) (zKd nw t9)) i) + 1))), (0, .ref (am 0)), (1, .int (nI (en))), (2, .int (nI (2))), (4, .int (nI (i)))]) hx hb dX6_entry_60 rfl hl (by decide) rfl (fun ls hl => ?_)
          refine lv_iinc (v := nI (i + 1)) (lv' := [(4, .int (nI (i + 1))), (3, .int (nI ((zct (fun t9 => zis (zSz nw (6 + en)) (zKd nw (6 + en)) (zSz nw t9) (zKd nw t9)) i) + 1))), (0, .ref (am 0)), (1, .int (nI (en))), (2, .int (nI (2)))]) hx hb dX6_entry_61 hl (k := 4) rfl (z_inc1 _) (by decide) rfl (fun ls hl => ?_)
          refine lv_goto (tgt := 36) hx hb dX6_entry_64 (by decide) ?_
          have hl9 := lv_sub hl [2, 3, 4, 1, 0] (l' := [(0, .ref (am 0)), (1, .int (nI (en))), (2, .int (nI (2))), (3, .int (nI ((zct (fun t9 => zis (zSz nw (6 + en)) (zKd nw (6 + en)) (zSz nw t9) (zKd nw t9)) i) + 1))), (4, .int (nI (i + 1)))]) rfl
          have e9_3 : ((zct (fun t9 => zis (zSz nw (6 + en)) (zKd nw (6 + en)) (zSz nw t9) (zKd nw t9)) i) + 1) = (zct (fun t9 => zis (zSz nw (6 + en)) (zKd nw (6 + en)) (zSz nw t9) (zKd nw t9)) (i + 1)) := by first | exact zct_t (p := (fun t9 => zis (zSz nw (6 + en)) (zKd nw (6 + en)) (zSz nw t9) (zKd nw t9))) c_6 | exact zct_f (p := (fun t9 => zis (zSz nw (6 + en)) (zKd nw (6 + en)) (zSz nw t9) (zKd nw t9))) c_6
          have e9_4 : (i + 1) = ((i + 1)) := by omega
          exact ih36 (i + 1) (by omega) (by omega) ls (by rw [← e9_3, ← e9_4]; exact hl9)
  exact L36 ((6 - (0)) + 1) (0) (Nat.lt_succ_self _) (by decide) ls (lv_sub hl [2, 3, 4, 1, 0] rfl)

set_option maxHeartbeats 4000000 in
set_option maxRecDepth 100000 in
theorem c_X6_ifHung_0 (E : zEnv) {am : Nat → Nat} {nw sv : zS} {an : Bool} {hs : Nat → zS} {ct ln : Nat} {cd : Nat → Int32} {x y w : Int32} (hok : zOk nw) (hinj : zInM am) (hct : ct ≤ 5) (hq : zfnd (zSz nw) x = none) : zWR E yX6_ifHung wsX6_ifHung 4 90 [.ref (am 0), .int (x), .int (y), .int (w)] (fun H => zMW E am nw sv an hs ct ln cd H) (some (.int (-1))) (fun H => zMW E am nw sv an hs ct ln cd H) (zAM am) := by
  refine zWR.ofI (maxL := 6) rfl (Nat.le_of_ble_eq_true rfl) (fun p e s m args below meth c H Q hF hP hret ls hl => ?_)
  have S : CallFix p m c cX6_ifHung 6 s args wsX6_ifHung RX6 := hF.1
  have hG := hF.2
  obtain ⟨hx, hb, hml, hown, hts⟩ := id S
  have hS : va_S (zAM am) H H [] := va_S.rf
  obtain ⟨locs, hlocs⟩ : ∃ x : List Loc, x = [] := ⟨_, rfl⟩
  rw [← hlocs] at hS ⊢
  have hz : H.size = H.size := rfl
  obtain ⟨z, past, kept, buf, rg, td, tm, nb, ⟨h0, h1, h2, h3, h4, h5, h6⟩, hrep, hpa, hke, hbu⟩ := hP
  obtain ⟨r1, rwt, r3, r4, r5, r6, r7⟩ := id hrep
  have hl : lv_has ls 6 [(0, .ref (am 0)), (1, .int (x)), (2, .int (y)), (3, .int (w))] := hl
  have hin6 : ∀ w ∈ u_ws RX6 TX6 11, w ∈ wsX6_ifHung := by decide +kernel
  refine lv_aload_n hx hb dX6_ifHung_0 rfl (lv_at hl 0 rfl) ?_
  refine lv_iload_n hx hb dX6_ifHung_1 rfl (lv_at hl 1 rfl) ?_
  refine lv_iload_n hx hb dX6_ifHung_2 rfl (lv_at hl 2 rfl) ?_
  refine z_roV (As := [.int (x), .int (y)]) (rest := []) (q := (RX6, TX6, 11)) S hG (c_X6_isSlot_0 E (z := z) (fun t ht => (r3 t ht).1) hok.h16 hq) 2 gX6_ifHung_X6_isSlot rfl kX6_isSlot ⟨Nat.le_of_ble_eq_true rfl, Nat.le_of_ble_eq_true rfl⟩ ⟨Nat.zero_le _, Nat.zero_le _⟩ (⟨h0, h1⟩) rfl h0 rfl hl.1 rfl rfl (Nat.le_of_ble_eq_true rfl) dX6_ifHung_3 ?_
  refine z_fne (tgt := 11) hx hb dX6_ifHung_6 (by decide) (by omega) (fun c_1 => by exfalso; omega) (fun c_1 => ?_)
  refine lv_iconst (v := (-1)) hx hb dX6_ifHung_9 (by decide) ?_
  exact hret _ _ _ _ _ hS (hz) dX6_ifHung_10 (rfl) (⟨_, _, _, _, _, _, _, _, ⟨h0, h1, h2, h3, h4, h5, h6⟩, hrep, hpa, hke, hbu⟩)

set_option maxHeartbeats 4000000 in
set_option maxRecDepth 100000 in
theorem c_X6_ifHung_1 (E : zEnv) {am : Nat → Nat} {nw sv : zS} {an : Bool} {hs : Nat → zS} {ct ln : Nat} {cd : Nat → Int32} {r : Nat} {y w : Int32} (hok : zOk nw) (hinj : zInM am) (hct : ct ≤ 5) (hr : r < 6) (hr0 : zSz nw r ≠ 0) (hy : zin y 0 ((zSz nw r) - 1) = false) : zWR E yX6_ifHung wsX6_ifHung 4 90 [.ref (am 0), .int (nI (r)), .int (y), .int (w)] (fun H => zMW E am nw sv an hs ct ln cd H) (some (.int (-1))) (fun H => zMW E am nw sv an hs ct ln cd H) (zAM am) := by
  refine zWR.ofI (maxL := 6) rfl (Nat.le_of_ble_eq_true rfl) (fun p e s m args below meth c H Q hF hP hret ls hl => ?_)
  have S : CallFix p m c cX6_ifHung 6 s args wsX6_ifHung RX6 := hF.1
  have hG := hF.2
  obtain ⟨hx, hb, hml, hown, hts⟩ := id S
  have hS : va_S (zAM am) H H [] := va_S.rf
  obtain ⟨locs, hlocs⟩ : ∃ x : List Loc, x = [] := ⟨_, rfl⟩
  rw [← hlocs] at hS ⊢
  have hz : H.size = H.size := rfl
  obtain ⟨z, past, kept, buf, rg, td, tm, nb, ⟨h0, h1, h2, h3, h4, h5, h6⟩, hrep, hpa, hke, hbu⟩ := hP
  obtain ⟨r1, rwt, r3, r4, r5, r6, r7⟩ := id hrep
  have hn := hok.sz hr hr0
  have hl : lv_has ls 6 [(0, .ref (am 0)), (1, .int (nI (r))), (2, .int (y)), (3, .int (w))] := hl
  have hin6 : ∀ w ∈ u_ws RX6 TX6 11, w ∈ wsX6_ifHung := by decide +kernel
  refine lv_aload_n hx hb dX6_ifHung_0 rfl (lv_at hl 0 rfl) ?_
  refine lv_iload_n hx hb dX6_ifHung_1 rfl (lv_at hl 1 rfl) ?_
  refine lv_iload_n hx hb dX6_ifHung_2 rfl (lv_at hl 2 rfl) ?_
  refine z_roV (As := [.int (nI (r)), .int (y)]) (rest := []) (q := (RX6, TX6, 11)) S hG (c_X6_isSlot_1 E (z := z) (y := y) hr hn (r3 r hr).1) 2 gX6_ifHung_X6_isSlot rfl kX6_isSlot ⟨Nat.le_of_ble_eq_true rfl, Nat.le_of_ble_eq_true rfl⟩ ⟨Nat.zero_le _, Nat.zero_le _⟩ (⟨h0, h1⟩) rfl h0 rfl hl.1 rfl rfl (Nat.le_of_ble_eq_true rfl) dX6_ifHung_3 ?_
  refine z_bne (tgt := 11) hx hb dX6_ifHung_6 (by decide) (fun c_1 => by exfalso; rw [hy] at c_1; cases c_1) (fun c_1 => ?_)
  refine lv_iconst (v := (-1)) hx hb dX6_ifHung_9 (by decide) ?_
  exact hret _ _ _ _ _ hS (hz) dX6_ifHung_10 (rfl) (⟨_, _, _, _, _, _, _, _, ⟨h0, h1, h2, h3, h4, h5, h6⟩, hrep, hpa, hke, hbu⟩)

set_option maxHeartbeats 4000000 in
set_option maxRecDepth 100000 in
theorem c_X6_ifHung_2 (E : zEnv) {am : Nat → Nat} {nw sv : zS} {an : Bool} {hs : Nat → zS} {ct ln : Nat} {cd : Nat → Int32} {r j : Nat} {w : Int32} (hok : zOk nw) (hinj : zInM am) (hct : ct ≤ 5) (hr : r < 6) (hr0 : zSz nw r ≠ 0) (hj : j < (zSz nw r)) (hw : zin w 0 5 = false) : zWR E yX6_ifHung wsX6_ifHung 4 90 [.ref (am 0), .int (nI (r)), .int (nI (j)), .int (w)] (fun H => zMW E am nw sv an hs ct ln cd H) (some (.int (-2))) (fun H => zMW E am nw sv an hs ct ln cd H) (zAM am) := by
  refine zWR.ofI (maxL := 6) rfl (Nat.le_of_ble_eq_true rfl) (fun p e s m args below meth c H Q hF hP hret ls hl => ?_)
  have S : CallFix p m c cX6_ifHung 6 s args wsX6_ifHung RX6 := hF.1
  have hG := hF.2
  obtain ⟨hx, hb, hml, hown, hts⟩ := id S
  have hS : va_S (zAM am) H H [] := va_S.rf
  obtain ⟨locs, hlocs⟩ : ∃ x : List Loc, x = [] := ⟨_, rfl⟩
  rw [← hlocs] at hS ⊢
  have hz : H.size = H.size := rfl
  obtain ⟨z, past, kept, buf, rg, td, tm, nb, ⟨h0, h1, h2, h3, h4, h5, h6⟩, hrep, hpa, hke, hbu⟩ := hP
  obtain ⟨r1, rwt, r3, r4, r5, r6, r7⟩ := id hrep
  have hn := hok.sz hr hr0
  have hl : lv_has ls 6 [(0, .ref (am 0)), (1, .int (nI (r))), (2, .int (nI (j))), (3, .int (w))] := hl
  have hin6 : ∀ w ∈ u_ws RX6 TX6 11, w ∈ wsX6_ifHung := by decide +kernel
  refine lv_aload_n hx hb dX6_ifHung_0 rfl (lv_at hl 0 rfl) ?_
  refine lv_iload_n hx hb dX6_ifHung_1 rfl (lv_at hl 1 rfl) ?_
  refine lv_iload_n hx hb dX6_ifHung_2 rfl (lv_at hl 2 rfl) ?_
  refine z_roV (As := [.int (nI (r)), .int (nI (j))]) (rest := []) (q := (RX6, TX6, 11)) S hG (c_X6_isSlot_1 E (z := z) (y := (nI j)) hr hn (r3 r hr).1) 2 gX6_ifHung_X6_isSlot rfl kX6_isSlot ⟨Nat.le_of_ble_eq_true rfl, Nat.le_of_ble_eq_true rfl⟩ ⟨Nat.zero_le _, Nat.zero_le _⟩ (⟨h0, h1⟩) rfl h0 rfl hl.1 rfl rfl (Nat.le_of_ble_eq_true rfl) dX6_ifHung_3 ?_
  refine z_bne (tgt := 11) hx hb dX6_ifHung_6 (by decide) (fun c_1 => ?_) (fun c_1 => by exfalso; rw [zin_y (Nat.zero_le _) (by omega) (by omega)] at c_1; cases c_1)
  refine lv_iload_n hx hb dX6_ifHung_11 rfl (lv_at hl 3 rfl) ?_
  refine lv_iconst (v := nI (0)) hx hb dX6_ifHung_12 (by decide) ?_
  refine lv_iconst (v := nI (5)) hx hb dX6_ifHung_13 (by decide) ?_
  refine z_roSX (As := [.int (w), .int (nI (0)), .int (nI (5))]) (rest := []) S hG (c_X6_in E) 3 gX6_ifHung_X6_in rfl kX6_in.2 ⟨Nat.le_of_ble_eq_true rfl, Nat.le_of_ble_eq_true rfl⟩ ⟨Nat.zero_le _, Nat.zero_le _⟩ (trivial) rfl hl.1 rfl rfl (Nat.le_of_ble_eq_true rfl) dX6_ifHung_14 ?_
  refine z_bne (tgt := 23) hx hb dX6_ifHung_17 (by decide) (fun c_2 => by exfalso; rw [hw] at c_2; cases c_2) (fun c_2 => ?_)
  refine lv_bipush (v := (-2)) hx hb dX6_ifHung_20 (by decide) ?_
  exact hret _ _ _ _ _ hS (hz) dX6_ifHung_22 (rfl) (⟨_, _, _, _, _, _, _, _, ⟨h0, h1, h2, h3, h4, h5, h6⟩, hrep, hpa, hke, hbu⟩)

set_option maxHeartbeats 4000000 in
set_option maxRecDepth 100000 in
theorem c_X6_ifHung_3 (E : zEnv) {am : Nat → Nat} {nw sv : zS} {an : Bool} {hs : Nat → zS} {ct ln : Nat} {cd : Nat → Int32} {r j w : Nat} (hok : zOk nw) (hinj : zInM am) (hct : ct ≤ 5) (hr : r < 6) (hr0 : zSz nw r ≠ 0) (hj : j < (zSz nw r)) (hw : w ≤ 5) : zWR E yX6_ifHung wsX6_ifHung 4 90 [.ref (am 0), .int (nI (r)), .int (nI (j)), .int (nI (w))] (fun H => zMW E am nw sv an hs ct ln cd H) (some (.int (zjb (zset (zmt (zMl nw) (zSg nw) (zSz nw r) (upd (zKd nw r) j (nI w))) (zSz nw r))))) (fun H => zMW E am nw sv an hs ct ln cd H) (zAM am) := by
  refine zWR.ofI (maxL := 6) rfl (Nat.le_of_ble_eq_true rfl) (fun p e s m args below meth c H Q hF hP hret ls hl => ?_)
  have S : CallFix p m c cX6_ifHung 6 s args wsX6_ifHung RX6 := hF.1
  have hG := hF.2
  obtain ⟨hx, hb, hml, hown, hts⟩ := id S
  have hS : va_S (zAM am) H H [] := va_S.rf
  obtain ⟨locs, hlocs⟩ : ∃ x : List Loc, x = [] := ⟨_, rfl⟩
  rw [← hlocs] at hS ⊢
  have hz : H.size = H.size := rfl
  obtain ⟨z, past, kept, buf, rg, td, tm, nb, ⟨h0, h1, h2, h3, h4, h5, h6⟩, hrep, hpa, hke, hbu⟩ := hP
  obtain ⟨r1, rwt, r3, r4, r5, r6, r7⟩ := id hrep
  have hn := hok.sz hr hr0
  have hml6 := hok.2.2.2.1
  have hl : lv_has ls 6 [(0, .ref (am 0)), (1, .int (nI (r))), (2, .int (nI (j))), (3, .int (nI (w)))] := hl
  have hin6 : ∀ w ∈ u_ws RX6 TX6 11, w ∈ wsX6_ifHung := by decide +kernel
  refine lv_aload_n hx hb dX6_ifHung_0 rfl (lv_at hl 0 rfl) ?_
  refine lv_iload_n hx hb dX6_ifHung_1 rfl (lv_at hl 1 rfl) ?_
  refine lv_iload_n hx hb dX6_ifHung_2 rfl (lv_at hl 2 rfl) ?_
  refine z_roV (As := [.int (nI (r)), .int (nI (j))]) (rest := []) (q := (RX6, TX6, 11)) S hG (c_X6_isSlot_1 E (z := z) (y := (nI j)) hr hn (r3 r hr).1) 2 gX6_ifHung_X6_isSlot rfl kX6_isSlot ⟨Nat.le_of_ble_eq_true rfl, Nat.le_of_ble_eq_true rfl⟩ ⟨Nat.zero_le _, Nat.zero_le _⟩ (⟨h0, h1⟩) rfl h0 rfl hl.1 rfl rfl (Nat.le_of_ble_eq_true rfl) dX6_ifHung_3 ?_
  refine z_bne (tgt := 11) hx hb dX6_ifHung_6 (by decide) (fun c_1 => ?_) (fun c_1 => by exfalso; rw [zin_y (Nat.zero_le _) (by omega) (by omega)] at c_1; cases c_1)
  refine lv_iload_n hx hb dX6_ifHung_11 rfl (lv_at hl 3 rfl) ?_
  refine lv_iconst (v := nI (0)) hx hb dX6_ifHung_12 (by decide) ?_
  refine lv_iconst (v := nI (5)) hx hb dX6_ifHung_13 (by decide) ?_
  refine z_roSX (As := [.int (nI (w)), .int (nI (0)), .int (nI (5))]) (rest := []) S hG (c_X6_in E) 3 gX6_ifHung_X6_in rfl kX6_in.2 ⟨Nat.le_of_ble_eq_true rfl, Nat.le_of_ble_eq_true rfl⟩ ⟨Nat.zero_le _, Nat.zero_le _⟩ (trivial) rfl hl.1 rfl rfl (Nat.le_of_ble_eq_true rfl) dX6_ifHung_14 ?_
  refine z_bne (tgt := 23) hx hb dX6_ifHung_17 (by decide) (fun c_2 => ?_) (fun c_2 => by exfalso; rw [zin_y (Nat.zero_le _) hw (by decide)] at c_2; cases c_2)
  refine lv_aload_n hx hb dX6_ifHung_23 rfl (lv_at hl 0 rfl) ?_
  refine z_get (ref := RX6) (C := RX6) (T := TX6) (N := 11) hx hb hts hin6 hown hG h0 rfl 0 (by decide) (by decide +kernel) rfl rfl dX6_ifHung_24 ?_
  refine lv_aload_n hx hb dX6_ifHung_27 rfl (lv_at hl 0 rfl) ?_
  refine lv_iload_n hx hb dX6_ifHung_28 rfl (lv_at hl 1 rfl) ?_
  refine lv_iload_n hx hb dX6_ifHung_29 rfl (lv_at hl 2 rfl) ?_
  refine z_roV (As := [.int (nI (r)), .int (nI (j))]) (rest := [.ref (am 1)]) (q := (RX6, TX6, 11)) S hG (c_X6_at E (z := z) (i := r) (n := (zSz nw r)) (j := j) hr (r3 r hr).1 ⟨hj, hn.2⟩) 2 gX6_ifHung_X6_at rfl kX6_at ⟨Nat.le_of_ble_eq_true rfl, Nat.le_of_ble_eq_true rfl⟩ ⟨Nat.zero_le _, Nat.zero_le _⟩ (⟨h0, h1⟩) rfl h0 rfl hl.1 rfl rfl (Nat.le_of_ble_eq_true rfl) dX6_ifHung_30 ?_
  refine z_iald (j := 10 + 17 * r + 1 + j) hx hb hG h1 ⟨by omega, by omega⟩ dX6_ifHung_33 ?_
  refine lv_istore (lv' := [(4, .int (z (10 + 17 * r + 1 + j))), (0, .ref (am 0)), (1, .int (nI (r))), (2, .int (nI (j))), (3, .int (nI (w)))]) hx hb dX6_ifHung_34 hl (by decide) rfl (fun ls hl => ?_)
  refine lv_aload_n hx hb dX6_ifHung_36 rfl (lv_at hl 1 rfl) ?_
  refine z_get (ref := RX6) (C := RX6) (T := TX6) (N := 11) hx hb hts hin6 hown hG h0 rfl 0 (by decide) (by decide +kernel) rfl rfl dX6_ifHung_37 ?_
  refine lv_aload_n hx hb dX6_ifHung_40 rfl (lv_at hl 1 rfl) ?_
  refine lv_iload_n hx hb dX6_ifHung_41 rfl (lv_at hl 2 rfl) ?_
  refine lv_iload_n hx hb dX6_ifHung_42 rfl (lv_at hl 3 rfl) ?_
  refine z_roV (As := [.int (nI (r)), .int (nI (j))]) (rest := [.ref (am 1)]) (q := (RX6, TX6, 11)) S hG (c_X6_at E (z := z) (i := r) (n := (zSz nw r)) (j := j) hr (r3 r hr).1 ⟨hj, hn.2⟩) 2 gX6_ifHung_X6_at rfl kX6_at ⟨Nat.le_of_ble_eq_true rfl, Nat.le_of_ble_eq_true rfl⟩ ⟨Nat.zero_le _, Nat.zero_le _⟩ (⟨h0, h1⟩) rfl h0 rfl hl.1 rfl rfl (Nat.le_of_ble_eq_true rfl) dX6_ifHung_43 ?_
  refine lv_iload_n hx hb dX6_ifHung_46 rfl (lv_at hl 4 rfl) ?_
  refine z_iast (j := 10 + 17 * r + 1 + j) hx hb hG h1 ⟨by omega, by omega⟩ hS (⟨1, by decide, rfl⟩) dX6_ifHung_47 (fun Hn locs h_3 o_4 hS => ?_)
  have k_5 := va_at.kept h0 (o_4.2 _ (hinj.ne (by decide) (by decide) (by decide)))
  have k_6 := va_at.kept h2 (o_4.2 _ (hinj.ne (by decide) (by decide) (by decide)))
  have k_7 := va_at.kept h3 (o_4.2 _ (hinj.ne (by decide) (by decide) (by decide)))
  have k_8 := va_at.kept h4 (o_4.2 _ (hinj.ne (by decide) (by decide) (by decide)))
  have k_9 := va_at.kept h5 (o_4.2 _ (hinj.ne (by decide) (by decide) (by decide)))
  have k_10 := va_at.kept h6 (o_4.2 _ (hinj.ne (by decide) (by decide) (by decide)))
  have hz : Hn.size = H.size := o_4.1.trans hz
  refine lv_aload_n hx hb dX6_ifHung_48 rfl (lv_at hl 1 rfl) ?_
  refine lv_iload_n hx hb dX6_ifHung_49 rfl (lv_at hl 2 rfl) ?_
  refine z_roV (As := [.int (nI (r))]) (rest := []) (q := (RX6, TX6, 11)) S hG (c_X6_places E (z := (upd z (10 + 17 * r + 1 + j) (nI w))) (i := r) (n := (zSz nw r)) (f := (upd (zKd nw r) j (nI w))) (ml := zMl nw) (sg := zSg nw) hr hn (zmr_1 (r3 r hr)) ⟨by rw [zup_o (by omega)]; exact r4, hml6⟩ (fun t ht => by rw [zup_o (by omega)]; exact r5 t ht)) 1 gX6_ifHung_X6_places rfl kX6_places ⟨Nat.le_of_ble_eq_true rfl, Nat.le_of_ble_eq_true rfl⟩ ⟨Nat.zero_le _, Nat.zero_le _⟩ (⟨k_5, h_3⟩) rfl k_5 rfl hl.1 rfl rfl (Nat.le_of_ble_eq_true rfl) dX6_ifHung_50 ?_
  refine z_roSX (As := [.int (zset (zmt (zMl nw) (zSg nw) (zSz nw r) (upd (zKd nw r) j (nI w))) (zSz nw r))]) (rest := []) S hG (c_X6_bits E) 1 gX6_ifHung_X6_bits rfl kX6_bits.2 ⟨Nat.le_of_ble_eq_true rfl, Nat.le_of_ble_eq_true rfl⟩ ⟨Nat.zero_le _, Nat.zero_le _⟩ (trivial) rfl hl.1 rfl rfl (Nat.le_of_ble_eq_true rfl) dX6_ifHung_53 ?_
  refine z_top (y := (zjb (zset (zmt (zMl nw) (zSg nw) (zSz nw r) (upd (zKd nw r) j (nI w))) (zSz nw r)))) ((zjb_bc _ hn.2).symm) ?_
  refine lv_istore (lv' := [(5, .int (zjb (zset (zmt (zMl nw) (zSg nw) (zSz nw r) (upd (zKd nw r) j (nI w))) (zSz nw r)))), (4, .int (z (10 + 17 * r + 1 + j))), (0, .ref (am 0)), (1, .int (nI (r))), (2, .int (nI (j))), (3, .int (nI (w)))]) hx hb dX6_ifHung_56 hl (by decide) rfl (fun ls hl => ?_)
  refine lv_aload_n hx hb dX6_ifHung_58 rfl (lv_at hl 2 rfl) ?_
  refine z_get (ref := RX6) (C := RX6) (T := TX6) (N := 11) hx hb hts hin6 hown hG k_5 rfl 0 (by decide) (by decide +kernel) rfl rfl dX6_ifHung_59 ?_
  refine lv_aload_n hx hb dX6_ifHung_62 rfl (lv_at hl 2 rfl) ?_
  refine lv_iload_n hx hb dX6_ifHung_63 rfl (lv_at hl 3 rfl) ?_
  refine lv_iload_n hx hb dX6_ifHung_64 rfl (lv_at hl 4 rfl) ?_
  refine z_roV (As := [.int (nI (r)), .int (nI (j))]) (rest := [.ref (am 1)]) (q := (RX6, TX6, 11)) S hG (c_X6_at E (z := (upd z (10 + 17 * r + 1 + j) (nI w))) (i := r) (n := (zSz nw r)) (j := j) hr ((zmr_1 (r3 r hr)).1) ⟨hj, hn.2⟩) 2 gX6_ifHung_X6_at rfl kX6_at ⟨Nat.le_of_ble_eq_true rfl, Nat.le_of_ble_eq_true rfl⟩ ⟨Nat.zero_le _, Nat.zero_le _⟩ (⟨k_5, h_3⟩) rfl k_5 rfl hl.1 rfl rfl (Nat.le_of_ble_eq_true rfl) dX6_ifHung_65 ?_
  refine lv_iload hx hb dX6_ifHung_68 (lv_at hl 1 rfl) ?_
  refine z_iast (j := 10 + 17 * r + 1 + j) hx hb hG h_3 ⟨by omega, by omega⟩ hS (⟨1, by decide, rfl⟩) dX6_ifHung_70 (fun Hn locs h_11 o_12 hS => ?_)
  have k_13 := va_at.kept k_5 (o_12.2 _ (hinj.ne (by decide) (by decide) (by decide)))
  have k_14 := va_at.kept k_6 (o_12.2 _ (hinj.ne (by decide) (by decide) (by decide)))
  have k_15 := va_at.kept k_7 (o_12.2 _ (hinj.ne (by decide) (by decide) (by decide)))
  have k_16 := va_at.kept k_8 (o_12.2 _ (hinj.ne (by decide) (by decide) (by decide)))
  have k_17 := va_at.kept k_9 (o_12.2 _ (hinj.ne (by decide) (by decide) (by decide)))
  have k_18 := va_at.kept k_10 (o_12.2 _ (hinj.ne (by decide) (by decide) (by decide)))
  have hz : Hn.size = H.size := o_12.1.trans hz
  refine lv_iload hx hb dX6_ifHung_71 (lv_at hl 0 rfl) ?_
  exact hret _ _ _ _ _ hS (hz) dX6_ifHung_73 (rfl) (⟨_, _, _, _, _, _, _, _, ⟨k_13, h_11, k_14, k_15, k_16, k_17, k_18⟩, by rw [zup_2]; exact hrep, hpa, hke, hbu⟩)

set_option maxHeartbeats 4000000 in
set_option maxRecDepth 100000 in
theorem c_X6_bestSwap_0 (E : zEnv) {am : Nat → Nat} {nw sv : zS} {an : Bool} {hs : Nat → zS} {ct ln : Nat} {cd : Nat → Int32} {x : Int32} (hok : zOk nw) (hinj : zInM am) (hct : ct ≤ 5) (hq : zfnd (zSz nw) x = none) : zWR E yX6_bestSwap wsX6_bestSwap 4 89 [.ref (am 0), .int (x)] (fun H => zMW E am nw sv an hs ct ln cd H) (some (.int (-1))) (fun H => zMW E am nw sv an hs ct ln cd H) (zAM am) := by
  refine zWR.ofI (maxL := 7) rfl (Nat.le_of_ble_eq_true rfl) (fun p e s m args below meth c H Q hF hP hret ls hl => ?_)
  have S : CallFix p m c cX6_bestSwap 7 s args wsX6_bestSwap RX6 := hF.1
  have hG := hF.2
  obtain ⟨hx, hb, hml, hown, hts⟩ := id S
  have hS : va_S (zAM am) H H [] := va_S.rf
  obtain ⟨locs, hlocs⟩ : ∃ x : List Loc, x = [] := ⟨_, rfl⟩
  rw [← hlocs] at hS ⊢
  have hz : H.size = H.size := rfl
  obtain ⟨z, past, kept, buf, rg, td, tm, nb, ⟨h0, h1, h2, h3, h4, h5, h6⟩, hrep, hpa, hke, hbu⟩ := hP
  obtain ⟨r1, rwt, r3, r4, r5, r6, r7⟩ := id hrep
  have hl : lv_has ls 7 [(0, .ref (am 0)), (1, .int (x))] := hl
  refine lv_aload_n hx hb dX6_bestSwap_0 rfl (lv_at hl 0 rfl) ?_
  refine lv_iload_n hx hb dX6_bestSwap_1 rfl (lv_at hl 1 rfl) ?_
  refine z_roV (As := [.int (x)]) (rest := []) (q := (RX6, TX6, 11)) S hG (c_X6_isBracelet_0 E (z := z) (fun t ht => (r3 t ht).1) hok.h16 hq) 1 gX6_bestSwap_X6_isBracelet rfl kX6_isBracelet ⟨Nat.le_of_ble_eq_true rfl, Nat.le_of_ble_eq_true rfl⟩ ⟨Nat.zero_le _, Nat.zero_le _⟩ (⟨h0, h1⟩) rfl h0 rfl hl.1 rfl rfl (Nat.le_of_ble_eq_true rfl) dX6_bestSwap_2 ?_
  refine z_fne (tgt := 10) hx hb dX6_bestSwap_5 (by decide) (by omega) (fun c_1 => by exfalso; omega) (fun c_1 => ?_)
  refine lv_iconst (v := (-1)) hx hb dX6_bestSwap_8 (by decide) ?_
  exact hret _ _ _ _ _ hS (hz) dX6_bestSwap_9 (rfl) (⟨_, _, _, _, _, _, _, _, ⟨h0, h1, h2, h3, h4, h5, h6⟩, hrep, hpa, hke, hbu⟩)

set_option maxHeartbeats 4000000 in
set_option maxRecDepth 100000 in
theorem c_X6_bestSwap_1 (E : zEnv) {am : Nat → Nat} {nw sv : zS} {an : Bool} {hs : Nat → zS} {ct ln : Nat} {cd : Nat → Int32} {r : Nat} (hok : zOk nw) (hinj : zInM am) (hct : ct ≤ 5) (hr : r < 6) (hr0 : zSz nw r ≠ 0) : zWR E yX6_bestSwap wsX6_bestSwap 4 89 [.ref (am 0), .int (nI (r))] (fun H => zMW E am nw sv an hs ct ln cd H) (some (.int ((zbsA (zWt nw) (zSz nw r) (zKd nw r) (zSz nw r)).1))) (fun H => zMW E am nw sv an hs ct ln cd H) (zAM am) := by
  refine zWR.ofI (maxL := 7) rfl (Nat.le_of_ble_eq_true rfl) (fun p e s m args below meth c H Q hF hP hret ls hl => ?_)
  have S : CallFix p m c cX6_bestSwap 7 s args wsX6_bestSwap RX6 := hF.1
  have hG := hF.2
  obtain ⟨hx, hb, hml, hown, hts⟩ := id S
  have hS : va_S (zAM am) H H [] := va_S.rf
  obtain ⟨locs, hlocs⟩ : ∃ x : List Loc, x = [] := ⟨_, rfl⟩
  rw [← hlocs] at hS ⊢
  have hz : H.size = H.size := rfl
  obtain ⟨z, past, kept, buf, rg, td, tm, nb, ⟨h0, h1, h2, h3, h4, h5, h6⟩, hrep, hpa, hke, hbu⟩ := hP
  obtain ⟨r1, rwt, r3, r4, r5, r6, r7⟩ := id hrep
  have hn := hok.sz hr hr0
  have hm4 := hok.m4 hr
  have hl : lv_has ls 7 [(0, .ref (am 0)), (1, .int (nI (r)))] := hl
  refine lv_aload_n hx hb dX6_bestSwap_0 rfl (lv_at hl 0 rfl) ?_
  refine lv_iload_n hx hb dX6_bestSwap_1 rfl (lv_at hl 1 rfl) ?_
  refine z_roV (As := [.int (nI (r))]) (rest := []) (q := (RX6, TX6, 11)) S hG (c_X6_isBracelet_1 E (z := z) hr (hok.sz hr hr0) (r3 r hr).1) 1 gX6_bestSwap_X6_isBracelet rfl kX6_isBracelet ⟨Nat.le_of_ble_eq_true rfl, Nat.le_of_ble_eq_true rfl⟩ ⟨Nat.zero_le _, Nat.zero_le _⟩ (⟨h0, h1⟩) rfl h0 rfl hl.1 rfl rfl (Nat.le_of_ble_eq_true rfl) dX6_bestSwap_2 ?_
  refine z_fne (tgt := 10) hx hb dX6_bestSwap_5 (by decide) (by omega) (fun c_1 => ?_) (fun c_1 => by exfalso; omega)
  refine lv_bipush (v := (-6)) hx hb dX6_bestSwap_10 (by decide) ?_
  refine lv_istore_n (lv' := [(2, .int (-6)), (0, .ref (am 0)), (1, .int (nI (r)))]) hx hb dX6_bestSwap_12 rfl hl (by decide) rfl (fun ls hl => ?_)
  refine lv_aload_n hx hb dX6_bestSwap_13 rfl (lv_at hl 1 rfl) ?_
  refine lv_iload_n hx hb dX6_bestSwap_14 rfl (lv_at hl 2 rfl) ?_
  refine z_roV (As := [.int (nI (r))]) (rest := []) (q := (RX6, TX6, 11)) S hG (c_X6_lean E (z := z) (i := r) (n := (zSz nw r)) (f := (zKd nw r)) (wt := zWt nw) hr hn (r3 r hr) hm4 (fun s hs => hok.2.1 r hr s hs) (fun t a b => rwt t a b)) 1 gX6_bestSwap_X6_lean rfl kX6_lean ⟨Nat.le_of_ble_eq_true rfl, Nat.le_of_ble_eq_true rfl⟩ ⟨Nat.zero_le _, Nat.zero_le _⟩ (⟨h0, h1⟩) rfl h0 rfl hl.1 rfl rfl (Nat.le_of_ble_eq_true rfl) dX6_bestSwap_15 ?_
  refine lv_istore_n (lv' := [(3, .int (zlean (zWt nw) (zSz nw r) (zKd nw r))), (2, .int (-6)), (0, .ref (am 0)), (1, .int (nI (r)))]) hx hb dX6_bestSwap_18 rfl hl (by decide) rfl (fun ls hl => ?_)
  refine lv_iconst (v := nI (0)) hx hb dX6_bestSwap_19 (by decide) ?_
  refine lv_istore (lv' := [(4, .int (nI (0))), (3, .int (zlean (zWt nw) (zSz nw r) (zKd nw r))), (2, .int (-6)), (0, .ref (am 0)), (1, .int (nI (r)))]) hx hb dX6_bestSwap_20 hl (by decide) rfl (fun ls hl => ?_)
  have L22 : ∀ (dd : Nat) (i : Nat), (zSz nw r) - i < dd → (i ≤ (zSz nw r)) → ∀ (Hn : Heap) (locs : List Loc) (hS : va_S (zAM am) H Hn locs) (hz : Hn.size = H.size) (hX : zMX E am z past ct kept an buf ln rg td tm nb Hn) (ls : Array Slot), lv_has ls 7 [(0, .ref (am 0)), (1, .int (nI (r))), (2, .int ((zbsA (zWt nw) (zSz nw r) (zKd nw r) i).1)), (3, .int ((zbsA (zWt nw) (zSz nw r) (zKd nw r) i).2)), (4, .int (nI (i)))] → W p (zl E) e (zRm 4 89) s m args below meth c Hn locs 0 0 Q (F0 m 22 ls []) := by
    intro dd
    induction dd with
    | zero => intro i hdd; exact absurd hdd (Nat.not_lt_zero _)
    | succ dd ih22 =>
      intro i hdd22 hi Hn locs hS hz hX ls hl
      obtain ⟨h0, h1, h2, h3, h4x, h5, h6⟩ := hX
      refine lv_iload hx hb dX6_bestSwap_22 (lv_at hl 4 rfl) ?_
      refine lv_aload_n hx hb dX6_bestSwap_24 rfl (lv_at hl 0 rfl) ?_
      refine lv_iload_n hx hb dX6_bestSwap_25 rfl (lv_at hl 1 rfl) ?_
      refine z_roV (As := [.int (nI (r))]) (rest := [.int (nI (i))]) (q := (RX6, TX6, 11)) S hG (c_X6_slots E (z := z) (i := r) (n := (zSz nw r)) hr (r3 r hr).1) 1 gX6_bestSwap_X6_slots rfl kX6_slots ⟨Nat.le_of_ble_eq_true rfl, Nat.le_of_ble_eq_true rfl⟩ ⟨Nat.zero_le _, Nat.zero_le _⟩ (⟨h0, h1⟩) rfl h0 rfl hl.1 rfl rfl (Nat.le_of_ble_eq_true rfl) dX6_bestSwap_26 ?_
      refine z_cge (tgt := 117) hx hb dX6_bestSwap_29 (by decide) ⟨by omega, by omega⟩ (fun c_2 => ?_) (fun c_2 => ?_)
      · refine lv_iload_n hx hb dX6_bestSwap_117 rfl (lv_at hl 2 rfl) ?_
        exact hret _ _ _ _ _ hS (hz) dX6_bestSwap_118 (by rw [show i = (zSz nw r) by omega]) (⟨_, _, _, _, _, _, _, _, ⟨h0, h1, h2, h3, h4x, h5, h6⟩, hrep, hpa, hke, hbu⟩)
      · refine lv_iload hx hb dX6_bestSwap_32 (lv_at hl 4 rfl) ?_
        refine lv_iconst (v := nI (1)) hx hb dX6_bestSwap_34 (by decide) ?_
        refine z_iadd hx hb dX6_bestSwap_35 ?_
        refine lv_istore (lv' := [(5, .int (nI (i + 1))), (0, .ref (am 0)), (1, .int (nI (r))), (2, .int ((zbsA (zWt nw) (zSz nw r) (zKd nw r) i).1)), (3, .int ((zbsA (zWt nw) (zSz nw r) (zKd nw r) i).2)), (4, .int (nI (i)))]) hx hb dX6_bestSwap_36 hl (by decide) rfl (fun ls hl => ?_)
        have L38 : ∀ (dd : Nat) (j : Nat), (zSz nw r) - j < dd → (i + 1 ≤ j ∧ j ≤ (zSz nw r)) → ∀ (Hn : Heap) (locs : List Loc) (hS : va_S (zAM am) H Hn locs) (hz : Hn.size = H.size) (hX : zMX E am z past ct kept an buf ln rg td tm nb Hn) (ls : Array Slot), lv_has ls 7 [(0, .ref (am 0)), (1, .int (nI (r))), (2, .int ((zbsB (zWt nw) (zSz nw r) (zKd nw r) i (zbsA (zWt nw) (zSz nw r) (zKd nw r) i) j).1)), (3, .int ((zbsB (zWt nw) (zSz nw r) (zKd nw r) i (zbsA (zWt nw) (zSz nw r) (zKd nw r) i) j).2)), (4, .int (nI (i))), (5, .int (nI (j)))] → W p (zl E) e (zRm 4 89) s m args below meth c Hn locs 0 0 Q (F0 m 38 ls []) := by
          intro dd
          induction dd with
          | zero => intro j hdd; exact absurd hdd (Nat.not_lt_zero _)
          | succ dd ih38 =>
            intro j hdd38 hj Hn locs hS hz hX ls hl
            obtain ⟨h0, h1, h2, h3, h4x, h5, h6⟩ := hX
            refine lv_iload hx hb dX6_bestSwap_38 (lv_at hl 5 rfl) ?_
            refine lv_aload_n hx hb dX6_bestSwap_40 rfl (lv_at hl 0 rfl) ?_
            refine lv_iload_n hx hb dX6_bestSwap_41 rfl (lv_at hl 1 rfl) ?_
            refine z_roV (As := [.int (nI (r))]) (rest := [.int (nI (j))]) (q := (RX6, TX6, 11)) S hG (c_X6_slots E (z := z) (i := r) (n := (zSz nw r)) hr (r3 r hr).1) 1 gX6_bestSwap_X6_slots rfl kX6_slots ⟨Nat.le_of_ble_eq_true rfl, Nat.le_of_ble_eq_true rfl⟩ ⟨Nat.zero_le _, Nat.zero_le _⟩ (⟨h0, h1⟩) rfl h0 rfl hl.1 rfl rfl (Nat.le_of_ble_eq_true rfl) dX6_bestSwap_42 ?_
            refine z_cge (tgt := 111) hx hb dX6_bestSwap_45 (by decide) ⟨by omega, by omega⟩ (fun c_3 => ?_) (fun c_3 => ?_)
            · refine lv_iinc (v := nI (i + 1)) (lv' := [(4, .int (nI (i + 1))), (0, .ref (am 0)), (1, .int (nI (r))), (2, .int ((zbsB (zWt nw) (zSz nw r) (zKd nw r) i (zbsA (zWt nw) (zSz nw r) (zKd nw r) i) j).1)), (3, .int ((zbsB (zWt nw) (zSz nw r) (zKd nw r) i (zbsA (zWt nw) (zSz nw r) (zKd nw r) i) j).2)), (5, .int (nI (j)))]) hx hb dX6_bestSwap_111 hl (k := 4) rfl (z_inc1 _) (by decide) rfl (fun ls hl => ?_)
              refine lv_goto (tgt := 22) hx hb dX6_bestSwap_114 (by decide) ?_
              have hl9 := lv_sub hl [1, 2, 3, 4, 0] (l' := [(0, .ref (am 0)), (1, .int (nI (r))), (2, .int ((zbsB (zWt nw) (zSz nw r) (zKd nw r) i (zbsA (zWt nw) (zSz nw r) (zKd nw r) i) j).1)), (3, .int ((zbsB (zWt nw) (zSz nw r) (zKd nw r) i (zbsA (zWt nw) (zSz nw r) (zKd nw r) i) j).2)), (4, .int (nI (i + 1)))]) rfl
              have e9_2 : ((zbsB (zWt nw) (zSz nw r) (zKd nw r) i (zbsA (zWt nw) (zSz nw r) (zKd nw r) i) j).1) = ((zbsA (zWt nw) (zSz nw r) (zKd nw r) (i + 1)).1) := by rw [show j = (zSz nw r) by omega]; rfl
              have e9_3 : ((zbsB (zWt nw) (zSz nw r) (zKd nw r) i (zbsA (zWt nw) (zSz nw r) (zKd nw r) i) j).2) = ((zbsA (zWt nw) (zSz nw r) (zKd nw r) (i + 1)).2) := by rw [show j = (zSz nw r) by omega]; rfl
              have e9_4 : (i + 1) = ((i + 1)) := by omega
              exact ih22 (i + 1) (by omega) (by omega) _ _ hS hz (⟨h0, h1, h2, h3, h4x, h5, h6⟩) ls (by rw [← e9_2, ← e9_3, ← e9_4]; exact hl9)
            · refine lv_aload_n hx hb dX6_bestSwap_48 rfl (lv_at hl 0 rfl) ?_
              refine lv_iload_n hx hb dX6_bestSwap_49 rfl (lv_at hl 1 rfl) ?_
              refine lv_iload hx hb dX6_bestSwap_50 (lv_at hl 4 rfl) ?_
              refine lv_iload hx hb dX6_bestSwap_52 (lv_at hl 5 rfl) ?_
              refine z_wrV (As := [.int (nI (r)), .int (nI (i)), .int (nI (j))]) (rest := []) (q := (RX6, TX6, 11)) S hG (c_X6_exchange E hinj (i := r) (n := (zSz nw r)) (x := i) (y := j) hr (r3 r hr).1 ⟨by omega, hn.2⟩ ⟨by omega, hn.2⟩) 3 gX6_bestSwap_X6_exchange rfl kX6_exchange ⟨Nat.le_of_ble_eq_true rfl, Nat.le_of_ble_eq_true rfl⟩ ⟨Nat.zero_le _, Nat.zero_le _⟩ (⟨h0, h1, h2, h3, h4x, h5, h6⟩) rfl h0 rfl hl.1 rfl rfl (Nat.le_of_ble_eq_true rfl) dX6_bestSwap_54 hS (fun _ h => h) (fun Hn locs h_5 q_4 o_6 hS => ?_)
              have hz : Hn.size = H.size := q_4.trans hz
              obtain ⟨h0, h1, h2, h3, h4x, h5, h6⟩ := h_5
              refine lv_aload_n hx hb dX6_bestSwap_57 rfl (lv_at hl 0 rfl) ?_
              refine lv_iload_n hx hb dX6_bestSwap_58 rfl (lv_at hl 1 rfl) ?_
              refine z_roV (As := [.int (nI (r))]) (rest := []) (q := (RX6, TX6, 11)) S hG (c_X6_lean E (z := (upd (upd z (10 + 17 * r + 1 + i) (z (10 + 17 * r + 1 + j))) (10 + 17 * r + 1 + j) (z (10 + 17 * r + 1 + i)))) (i := r) (n := (zSz nw r)) (f := zxc (zKd nw r) i j) (wt := zWt nw) hr hn (zmr_xc (r3 r hr) (by omega) (by omega)) hm4 (fun s hs => zxc_k (fun s hs => hok.2.1 r hr s hs) (by omega) (by omega) hs) (fun t a b => by rw [zup_o (by omega), zup_o (by omega)]; exact rwt t a b)) 1 gX6_bestSwap_X6_lean rfl kX6_lean ⟨Nat.le_of_ble_eq_true rfl, Nat.le_of_ble_eq_true rfl⟩ ⟨Nat.zero_le _, Nat.zero_le _⟩ (⟨h0, h1⟩) rfl h0 rfl hl.1 rfl rfl (Nat.le_of_ble_eq_true rfl) dX6_bestSwap_59 ?_
              refine lv_istore (lv' := [(6, .int (zlean (zWt nw) (zSz nw r) (zxc (zKd nw r) i j))), (0, .ref (am 0)), (1, .int (nI (r))), (2, .int ((zbsB (zWt nw) (zSz nw r) (zKd nw r) i (zbsA (zWt nw) (zSz nw r) (zKd nw r) i) j).1)), (3, .int ((zbsB (zWt nw) (zSz nw r) (zKd nw r) i (zbsA (zWt nw) (zSz nw r) (zKd nw r) i) j).2)), (4, .int (nI (i))), (5, .int (nI (j)))]) hx hb dX6_bestSwap_62 hl (by decide) rfl (fun ls hl => ?_)
              refine lv_aload_n hx hb dX6_bestSwap_64 rfl (lv_at hl 1 rfl) ?_
              refine lv_iload_n hx hb dX6_bestSwap_65 rfl (lv_at hl 2 rfl) ?_
              refine lv_iload hx hb dX6_bestSwap_66 (lv_at hl 5 rfl) ?_
              refine lv_iload hx hb dX6_bestSwap_68 (lv_at hl 6 rfl) ?_
              refine z_wrV (As := [.int (nI (r)), .int (nI (i)), .int (nI (j))]) (rest := []) (q := (RX6, TX6, 11)) S hG (c_X6_exchange E (z := (upd (upd z (10 + 17 * r + 1 + i) (z (10 + 17 * r + 1 + j))) (10 + 17 * r + 1 + j) (z (10 + 17 * r + 1 + i)))) hinj (i := r) (n := (zSz nw r)) (x := i) (y := j) hr (zmr_xc (r3 r hr) (by omega) (by omega)).1 ⟨by omega, hn.2⟩ ⟨by omega, hn.2⟩) 3 gX6_bestSwap_X6_exchange rfl kX6_exchange ⟨Nat.le_of_ble_eq_true rfl, Nat.le_of_ble_eq_true rfl⟩ ⟨Nat.zero_le _, Nat.zero_le _⟩ (⟨h0, h1, h2, h3, h4x, h5, h6⟩) rfl h0 rfl hl.1 rfl rfl (Nat.le_of_ble_eq_true rfl) dX6_bestSwap_70 hS (fun _ h => h) (fun Hn locs h_8 q_7 o_9 hS => ?_)
              have hz : Hn.size = H.size := q_7.trans hz
              obtain ⟨h0, h1, h2, h3, h4x, h5, h6⟩ := h_8
              rw [zex_2] at h1
              refine lv_iload hx hb dX6_bestSwap_73 (lv_at hl 0 rfl) ?_
              refine lv_iload_n hx hb dX6_bestSwap_75 rfl (lv_at hl 4 rfl) ?_
              refine lv_icmp_ge (tgt := 90) hx hb dX6_bestSwap_76 (by decide) (fun c_10 => ?_) (fun c_10 => ?_)
              · refine lv_iload_n hx hb dX6_bestSwap_90 rfl (lv_at hl 3 rfl) ?_
                refine lv_istore_n (lv' := [(2, .int ((zbsB (zWt nw) (zSz nw r) (zKd nw r) i (zbsA (zWt nw) (zSz nw r) (zKd nw r) i) j).1)), (6, .int (zlean (zWt nw) (zSz nw r) (zxc (zKd nw r) i j))), (0, .ref (am 0)), (1, .int (nI (r))), (3, .int ((zbsB (zWt nw) (zSz nw r) (zKd nw r) i (zbsA (zWt nw) (zSz nw r) (zKd nw r) i) j).2)), (4, .int (nI (i))), (5, .int (nI (j)))]) hx hb dX6_bestSwap_91 rfl hl (by decide) rfl (fun ls hl => ?_)
                refine lv_iload hx hb dX6_bestSwap_92 (lv_at hl 1 rfl) ?_
                refine lv_iload_n hx hb dX6_bestSwap_94 rfl (lv_at hl 4 rfl) ?_
                refine lv_icmp_ge (tgt := 103) hx hb dX6_bestSwap_95 (by decide) (fun c_11 => ?_) (fun c_11 => by exfalso; exact c_11 c_10)
                refine lv_iload_n hx hb dX6_bestSwap_103 rfl (lv_at hl 4 rfl) ?_
                refine lv_istore_n (lv' := [(3, .int ((zbsB (zWt nw) (zSz nw r) (zKd nw r) i (zbsA (zWt nw) (zSz nw r) (zKd nw r) i) j).2)), (2, .int ((zbsB (zWt nw) (zSz nw r) (zKd nw r) i (zbsA (zWt nw) (zSz nw r) (zKd nw r) i) j).1)), (6, .int (zlean (zWt nw) (zSz nw r) (zxc (zKd nw r) i j))), (0, .ref (am 0)), (1, .int (nI (r))), (4, .int (nI (i))), (5, .int (nI (j)))]) hx hb dX6_bestSwap_104 rfl hl (by decide) rfl (fun ls hl => ?_)
                refine lv_iinc (v := nI (j + 1)) (lv' := [(5, .int (nI (j + 1))), (3, .int ((zbsB (zWt nw) (zSz nw r) (zKd nw r) i (zbsA (zWt nw) (zSz nw r) (zKd nw r) i) j).2)), (2, .int ((zbsB (zWt nw) (zSz nw r) (zKd nw r) i (zbsA (zWt nw) (zSz nw r) (zKd nw r) i) j).1)), (6, .int (zlean (zWt nw) (zSz nw r) (zxc (zKd nw r) i j))), (0, .ref (am 0)), (1, .int (nI (r))), (4, .int (nI (i)))]) hx hb dX6_bestSwap_105 hl (k := 6) rfl (z_inc1 _) (by decide) rfl (fun ls hl => ?_)
                refine lv_goto (tgt := 38) hx hb dX6_bestSwap_108 (by decide) ?_
                have hl9 := lv_sub hl [4, 5, 2, 1, 6, 0] (l' := [(0, .ref (am 0)), (1, .int (nI (r))), (2, .int ((zbsB (zWt nw) (zSz nw r) (zKd nw r) i (zbsA (zWt nw) (zSz nw r) (zKd nw r) i) j).1)), (3, .int ((zbsB (zWt nw) (zSz nw r) (zKd nw r) i (zbsA (zWt nw) (zSz nw r) (zKd nw r) i) j).2)), (4, .int (nI (i))), (5, .int (nI (j + 1)))]) rfl
                have e9_2 : ((zbsB (zWt nw) (zSz nw r) (zKd nw r) i (zbsA (zWt nw) (zSz nw r) (zKd nw r) i) j).1) = ((zbsB (zWt nw) (zSz nw r) (zKd nw r) i (zbsA (zWt nw) (zSz nw r) (zKd nw r) i) (j + 1)).1) := by rw [zbsB_n hj.1 c_11]
                have e9_3 : ((zbsB (zWt nw) (zSz nw r) (zKd nw r) i (zbsA (zWt nw) (zSz nw r) (zKd nw r) i) j).2) = ((zbsB (zWt nw) (zSz nw r) (zKd nw r) i (zbsA (zWt nw) (zSz nw r) (zKd nw r) i) (j + 1)).2) := by rw [zbsB_n hj.1 c_11]
                have e9_5 : (j + 1) = ((j + 1)) := by omega
                exact ih38 (j + 1) (by omega) (⟨by omega, by omega⟩) _ _ hS hz (⟨h0, h1, h2, h3, h4x, h5, h6⟩) ls (by rw [← e9_2, ← e9_3, ← e9_5]; exact hl9)
              · refine lv_bipush (v := nI (100)) hx hb dX6_bestSwap_79 (by decide) ?_
                refine lv_iload hx hb dX6_bestSwap_81 (lv_at hl 5 rfl) ?_
                refine z_imul hx hb dX6_bestSwap_83 ?_
                refine lv_iload hx hb dX6_bestSwap_84 (lv_at hl 6 rfl) ?_
                refine z_iadd hx hb dX6_bestSwap_86 ?_
                refine lv_goto (tgt := 91) hx hb dX6_bestSwap_87 (by decide) ?_
                refine lv_istore_n (lv' := [(2, .int (nI ((100 * i) + j))), (6, .int (zlean (zWt nw) (zSz nw r) (zxc (zKd nw r) i j))), (0, .ref (am 0)), (1, .int (nI (r))), (3, .int ((zbsB (zWt nw) (zSz nw r) (zKd nw r) i (zbsA (zWt nw) (zSz nw r) (zKd nw r) i) j).2)), (4, .int (nI (i))), (5, .int (nI (j)))]) hx hb dX6_bestSwap_91 rfl hl (by decide) rfl (fun ls hl => ?_)
                refine lv_iload hx hb dX6_bestSwap_92 (lv_at hl 1 rfl) ?_
                refine lv_iload_n hx hb dX6_bestSwap_94 rfl (lv_at hl 4 rfl) ?_
                refine lv_icmp_ge (tgt := 103) hx hb dX6_bestSwap_95 (by decide) (fun c_12 => by exfalso; exact c_10 c_12) (fun c_12 => ?_)
                refine lv_iload hx hb dX6_bestSwap_98 (lv_at hl 1 rfl) ?_
                refine lv_goto (tgt := 104) hx hb dX6_bestSwap_100 (by decide) ?_
                refine lv_istore_n (lv' := [(3, .int (zlean (zWt nw) (zSz nw r) (zxc (zKd nw r) i j))), (2, .int (nI ((100 * i) + j))), (6, .int (zlean (zWt nw) (zSz nw r) (zxc (zKd nw r) i j))), (0, .ref (am 0)), (1, .int (nI (r))), (4, .int (nI (i))), (5, .int (nI (j)))]) hx hb dX6_bestSwap_104 rfl hl (by decide) rfl (fun ls hl => ?_)
                refine lv_iinc (v := nI (j + 1)) (lv' := [(5, .int (nI (j + 1))), (3, .int (zlean (zWt nw) (zSz nw r) (zxc (zKd nw r) i j))), (2, .int (nI ((100 * i) + j))), (6, .int (zlean (zWt nw) (zSz nw r) (zxc (zKd nw r) i j))), (0, .ref (am 0)), (1, .int (nI (r))), (4, .int (nI (i)))]) hx hb dX6_bestSwap_105 hl (k := 6) rfl (z_inc1 _) (by decide) rfl (fun ls hl => ?_)
                refine lv_goto (tgt := 38) hx hb dX6_bestSwap_108 (by decide) ?_
                have hl9 := lv_sub hl [4, 5, 2, 1, 6, 0] (l' := [(0, .ref (am 0)), (1, .int (nI (r))), (2, .int (nI ((100 * i) + j))), (3, .int (zlean (zWt nw) (zSz nw r) (zxc (zKd nw r) i j))), (4, .int (nI (i))), (5, .int (nI (j + 1)))]) rfl
                have e9_2 : (nI ((100 * i) + j)) = (((zbsB (zWt nw) (zSz nw r) (zKd nw r) i (zbsA (zWt nw) (zSz nw r) (zKd nw r) i) (j + 1)).1)) := by rw [zbsB_y hj.1 (Int32.not_le.mp c_12)]
                have e9_3 : (zlean (zWt nw) (zSz nw r) (zxc (zKd nw r) i j)) = ((zbsB (zWt nw) (zSz nw r) (zKd nw r) i (zbsA (zWt nw) (zSz nw r) (zKd nw r) i) (j + 1)).2) := by rw [zbsB_y hj.1 (Int32.not_le.mp c_12)]
                have e9_5 : (j + 1) = ((j + 1)) := by omega
                exact ih38 (j + 1) (by omega) (⟨by omega, by omega⟩) _ _ hS hz (⟨h0, h1, h2, h3, h4x, h5, h6⟩) ls (by rw [← e9_2, ← e9_3, ← e9_5]; exact hl9)
        rw [show (zbsA (zWt nw) (zSz nw r) (zKd nw r) i).1 = (zbsB (zWt nw) (zSz nw r) (zKd nw r) i (zbsA (zWt nw) (zSz nw r) (zKd nw r) i) (i + 1)).1 by rw [zbsB_i], show (zbsA (zWt nw) (zSz nw r) (zKd nw r) i).2 = (zbsB (zWt nw) (zSz nw r) (zKd nw r) i (zbsA (zWt nw) (zSz nw r) (zKd nw r) i) (i + 1)).2 by rw [zbsB_i]] at hl
        exact L38 (((zSz nw r) - (i + 1)) + 1) (i + 1) (Nat.lt_succ_self _) (⟨Nat.le_refl _, by omega⟩) _ _ hS hz (⟨h0, h1, h2, h3, h4x, h5, h6⟩) ls (lv_sub hl [1, 2, 3, 4, 5, 0] rfl)
  exact L22 (((zSz nw r) - (0)) + 1) (0) (Nat.lt_succ_self _) (Nat.zero_le _) _ _ hS hz (⟨h0, h1, h2, h3, h4, h5, h6⟩) ls (lv_sub hl [3, 4, 2, 1, 0] rfl)

set_option maxHeartbeats 4000000 in
set_option maxRecDepth 100000 in
theorem c_X6_append_0 (E : zEnv) {am : Nat → Nat} {nw sv : zS} {an : Bool} {hs : Nat → zS} {ct ln : Nat} {cd : Nat → Int32} {x : Int32} (hok : zOk nw) (hinj : zInM am) (hct : ct ≤ 5) (hln : ln ≤ 60) (hx1 : zin x 33 126 = false) : zWR E yX6_append wsX6_append 1 22 [.ref (am 0), .int (x)] (fun H => zMW E am nw sv an hs ct ln cd H) (some (.int (-2))) (fun H => zMW E am nw sv an hs ct ln cd H) (zAM am) := by
  refine zWR.ofI (maxL := 2) rfl (Nat.le_of_ble_eq_true rfl) (fun p e s m args below meth c H Q hF hP hret ls hl => ?_)
  have S : CallFix p m c cX6_append 2 s args wsX6_append RX6 := hF.1
  have hG := hF.2
  obtain ⟨hx, hb, hml, hown, hts⟩ := id S
  have hS : va_S (zAM am) H H [] := va_S.rf
  obtain ⟨locs, hlocs⟩ : ∃ x : List Loc, x = [] := ⟨_, rfl⟩
  rw [← hlocs] at hS ⊢
  have hz : H.size = H.size := rfl
  obtain ⟨z, past, kept, buf, rg, td, tm, nb, ⟨h0, h1, h2, h3, h4, h5, h6⟩, hrep, hpa, hke, hbu⟩ := hP
  obtain ⟨r1, rwt, r3, r4, r5, r6, r7⟩ := id hrep
  have hl : lv_has ls 2 [(0, .ref (am 0)), (1, .int (x))] := hl
  have hin6 : ∀ w ∈ u_ws RX6 TX6 11, w ∈ wsX6_append := by decide +kernel
  refine lv_iload_n hx hb dX6_append_0 rfl (lv_at hl 1 rfl) ?_
  refine lv_bipush (v := nI (33)) hx hb dX6_append_1 (by decide) ?_
  refine lv_bipush (v := nI (126)) hx hb dX6_append_3 (by decide) ?_
  refine z_roSX (As := [.int (x), .int (nI (33)), .int (nI (126))]) (rest := []) S hG (c_X6_in E) 3 gX6_append_X6_in rfl kX6_in.2 ⟨Nat.le_of_ble_eq_true rfl, Nat.le_of_ble_eq_true rfl⟩ ⟨Nat.zero_le _, Nat.zero_le _⟩ (trivial) rfl hl.1 rfl rfl (Nat.le_of_ble_eq_true rfl) dX6_append_5 ?_
  refine z_bne (tgt := 14) hx hb dX6_append_8 (by decide) (fun c_1 => by exfalso; rw [hx1] at c_1; cases c_1) (fun c_1 => ?_)
  refine lv_bipush (v := (-2)) hx hb dX6_append_11 (by decide) ?_
  exact hret _ _ _ _ _ hS (hz) dX6_append_13 (rfl) (⟨_, _, _, _, _, _, _, _, ⟨h0, h1, h2, h3, h4, h5, h6⟩, hrep, hpa, hke, hbu⟩)

set_option maxHeartbeats 4000000 in
set_option maxRecDepth 100000 in
theorem c_X6_append_1 (E : zEnv) {am : Nat → Nat} {nw sv : zS} {an : Bool} {hs : Nat → zS} {ct ln : Nat} {cd : Nat → Int32} {w : Nat} (hok : zOk nw) (hinj : zInM am) (hct : ct ≤ 5) (hln : ln = 60) (hw : 33 ≤ w ∧ w ≤ 126) : zWR E yX6_append wsX6_append 1 22 [.ref (am 0), .int (nI (w))] (fun H => zMW E am nw sv an hs ct ln cd H) (some (.int (-4))) (fun H => zMW E am nw sv an hs ct ln cd H) (zAM am) := by
  refine zWR.ofI (maxL := 2) rfl (Nat.le_of_ble_eq_true rfl) (fun p e s m args below meth c H Q hF hP hret ls hl => ?_)
  have S : CallFix p m c cX6_append 2 s args wsX6_append RX6 := hF.1
  have hG := hF.2
  obtain ⟨hx, hb, hml, hown, hts⟩ := id S
  have hS : va_S (zAM am) H H [] := va_S.rf
  obtain ⟨locs, hlocs⟩ : ∃ x : List Loc, x = [] := ⟨_, rfl⟩
  rw [← hlocs] at hS ⊢
  have hz : H.size = H.size := rfl
  obtain ⟨z, past, kept, buf, rg, td, tm, nb, ⟨h0, h1, h2, h3, h4, h5, h6⟩, hrep, hpa, hke, hbu⟩ := hP
  obtain ⟨r1, rwt, r3, r4, r5, r6, r7⟩ := id hrep
  have hl : lv_has ls 2 [(0, .ref (am 0)), (1, .int (nI (w)))] := hl
  have hin6 : ∀ w ∈ u_ws RX6 TX6 11, w ∈ wsX6_append := by decide +kernel
  refine lv_iload_n hx hb dX6_append_0 rfl (lv_at hl 1 rfl) ?_
  refine lv_bipush (v := nI (33)) hx hb dX6_append_1 (by decide) ?_
  refine lv_bipush (v := nI (126)) hx hb dX6_append_3 (by decide) ?_
  refine z_roSX (As := [.int (nI (w)), .int (nI (33)), .int (nI (126))]) (rest := []) S hG (c_X6_in E) 3 gX6_append_X6_in rfl kX6_in.2 ⟨Nat.le_of_ble_eq_true rfl, Nat.le_of_ble_eq_true rfl⟩ ⟨Nat.zero_le _, Nat.zero_le _⟩ (trivial) rfl hl.1 rfl rfl (Nat.le_of_ble_eq_true rfl) dX6_append_5 ?_
  refine z_bne (tgt := 14) hx hb dX6_append_8 (by decide) (fun c_1 => ?_) (fun c_1 => by exfalso; rw [zin_y hw.1 hw.2 (by decide)] at c_1; cases c_1)
  refine lv_aload_n hx hb dX6_append_14 rfl (lv_at hl 0 rfl) ?_
  refine z_get (ref := RX6) (C := RX6) (T := TX6) (N := 11) hx hb hts hin6 hown hG h0 rfl 6 (by decide) (by decide +kernel) rfl rfl dX6_append_15 ?_
  refine lv_bipush (v := nI (60)) hx hb dX6_append_18 (by decide) ?_
  refine z_cne (tgt := 26) hx hb dX6_append_20 (by decide) ⟨by omega, by omega⟩ (fun c_2 => by exfalso; omega) (fun c_2 => ?_)
  refine lv_bipush (v := (-4)) hx hb dX6_append_23 (by decide) ?_
  exact hret _ _ _ _ _ hS (hz) dX6_append_25 (rfl) (⟨_, _, _, _, _, _, _, _, ⟨h0, h1, h2, h3, h4, h5, h6⟩, hrep, hpa, hke, hbu⟩)

set_option maxHeartbeats 4000000 in
set_option maxRecDepth 100000 in
theorem c_X6_append_2 (E : zEnv) {am : Nat → Nat} {nw sv : zS} {an : Bool} {hs : Nat → zS} {ct ln : Nat} {cd : Nat → Int32} {w : Nat} (hok : zOk nw) (hinj : zInM am) (hct : ct ≤ 5) (hln : ln < 60) (hw : 33 ≤ w ∧ w ≤ 126) : zWR E yX6_append wsX6_append 1 22 [.ref (am 0), .int (nI (w))] (fun H => zMW E am nw sv an hs ct ln cd H) (some (.int (nI (ln + 1)))) (fun H => zMW E am nw sv an hs ct (ln + 1) (upd cd ln (nI w)) H) (zAM am) := by
  refine zWR.ofI (maxL := 2) rfl (Nat.le_of_ble_eq_true rfl) (fun p e s m args below meth c H Q hF hP hret ls hl => ?_)
  have S : CallFix p m c cX6_append 2 s args wsX6_append RX6 := hF.1
  have hG := hF.2
  obtain ⟨hx, hb, hml, hown, hts⟩ := id S
  have hS : va_S (zAM am) H H [] := va_S.rf
  obtain ⟨locs, hlocs⟩ : ∃ x : List Loc, x = [] := ⟨_, rfl⟩
  rw [← hlocs] at hS ⊢
  have hz : H.size = H.size := rfl
  obtain ⟨z, past, kept, buf, rg, td, tm, nb, ⟨h0, h1, h2, h3, h4, h5, h6⟩, hrep, hpa, hke, hbu⟩ := hP
  obtain ⟨r1, rwt, r3, r4, r5, r6, r7⟩ := id hrep
  have hl : lv_has ls 2 [(0, .ref (am 0)), (1, .int (nI (w)))] := hl
  have hin6 : ∀ w ∈ u_ws RX6 TX6 11, w ∈ wsX6_append := by decide +kernel
  refine lv_iload_n hx hb dX6_append_0 rfl (lv_at hl 1 rfl) ?_
  refine lv_bipush (v := nI (33)) hx hb dX6_append_1 (by decide) ?_
  refine lv_bipush (v := nI (126)) hx hb dX6_append_3 (by decide) ?_
  refine z_roSX (As := [.int (nI (w)), .int (nI (33)), .int (nI (126))]) (rest := []) S hG (c_X6_in E) 3 gX6_append_X6_in rfl kX6_in.2 ⟨Nat.le_of_ble_eq_true rfl, Nat.le_of_ble_eq_true rfl⟩ ⟨Nat.zero_le _, Nat.zero_le _⟩ (trivial) rfl hl.1 rfl rfl (Nat.le_of_ble_eq_true rfl) dX6_append_5 ?_
  refine z_bne (tgt := 14) hx hb dX6_append_8 (by decide) (fun c_1 => ?_) (fun c_1 => by exfalso; rw [zin_y hw.1 hw.2 (by decide)] at c_1; cases c_1)
  refine lv_aload_n hx hb dX6_append_14 rfl (lv_at hl 0 rfl) ?_
  refine z_get (ref := RX6) (C := RX6) (T := TX6) (N := 11) hx hb hts hin6 hown hG h0 rfl 6 (by decide) (by decide +kernel) rfl rfl dX6_append_15 ?_
  refine lv_bipush (v := nI (60)) hx hb dX6_append_18 (by decide) ?_
  refine z_cne (tgt := 26) hx hb dX6_append_20 (by decide) ⟨by omega, by omega⟩ (fun c_2 => ?_) (fun c_2 => by exfalso; omega)
  refine lv_aload_n hx hb dX6_append_26 rfl (lv_at hl 0 rfl) ?_
  refine z_get (ref := RX6) (C := RX6) (T := TX6) (N := 11) hx hb hts hin6 hown hG h0 rfl 5 (by decide) (by decide +kernel) rfl rfl dX6_append_27 ?_
  refine lv_aload_n hx hb dX6_append_30 rfl (lv_at hl 0 rfl) ?_
  refine z_get (ref := RX6) (C := RX6) (T := TX6) (N := 11) hx hb hts hin6 hown hG h0 rfl 6 (by decide) (by decide +kernel) rfl rfl dX6_append_31 ?_
  refine lv_iload_n hx hb dX6_append_34 rfl (lv_at hl 1 rfl) ?_
  refine lv_i2c (v := nI (w)) hx hb dX6_append_35 (zi2c hw.2) ?_
  refine z_cast (j := ln) hx hb hG h4 ⟨by omega, by omega⟩ (by omega) hS (⟨4, by decide, rfl⟩) dX6_append_36 (fun Hn locs h_3 o_4 hS => ?_)
  have k_5 := va_at.kept h0 (o_4.2 _ (hinj.ne (by decide) (by decide) (by decide)))
  have k_6 := va_at.kept h1 (o_4.2 _ (hinj.ne (by decide) (by decide) (by decide)))
  have k_7 := va_at.kept h2 (o_4.2 _ (hinj.ne (by decide) (by decide) (by decide)))
  have k_8 := va_at.kept h3 (o_4.2 _ (hinj.ne (by decide) (by decide) (by decide)))
  have k_9 := va_at.kept h5 (o_4.2 _ (hinj.ne (by decide) (by decide) (by decide)))
  have k_10 := va_at.kept h6 (o_4.2 _ (hinj.ne (by decide) (by decide) (by decide)))
  have hz : Hn.size = H.size := o_4.1.trans hz
  refine lv_aload_n hx hb dX6_append_37 rfl (lv_at hl 0 rfl) ?_
  refine lv_dup hx hb dX6_append_38 rfl ?_
  refine z_get (ref := RX6) (C := RX6) (T := TX6) (N := 11) hx hb hts hin6 hown hG k_5 rfl 6 (by decide) (by decide +kernel) rfl rfl dX6_append_39 ?_
  refine lv_iconst (v := nI (1)) hx hb dX6_append_42 (by decide) ?_
  refine z_iadd hx hb dX6_append_43 ?_
  refine z_put (ref := RX6) (C := RX6) (T := TX6) (N := 11) hx hb hts hin6 tyX6_ok nmX6 hown hG k_5 rfl 6 (by decide) (by decide +kernel) rfl rfl rfl rfl (Nat.le_of_ble_eq_true rfl) hS (⟨0, by decide, rfl⟩) dX6_append_44 (fun Hn locs h_11 o_12 hS => ?_)
  have k_13 := va_at.kept k_6 (o_12.2 _ (hinj.ne (by decide) (by decide) (by decide)))
  have k_14 := va_at.kept k_7 (o_12.2 _ (hinj.ne (by decide) (by decide) (by decide)))
  have k_15 := va_at.kept k_8 (o_12.2 _ (hinj.ne (by decide) (by decide) (by decide)))
  have k_16 := va_at.kept h_3 (o_12.2 _ (hinj.ne (by decide) (by decide) (by decide)))
  have k_17 := va_at.kept k_9 (o_12.2 _ (hinj.ne (by decide) (by decide) (by decide)))
  have k_18 := va_at.kept k_10 (o_12.2 _ (hinj.ne (by decide) (by decide) (by decide)))
  have hz : Hn.size = H.size := o_12.1.trans hz
  refine lv_aload_n hx hb dX6_append_47 rfl (lv_at hl 0 rfl) ?_
  refine z_get (ref := RX6) (C := RX6) (T := TX6) (N := 11) hx hb hts hin6 hown hG h_11 rfl 6 (by decide) (by decide +kernel) rfl rfl dX6_append_48 ?_
  exact hret _ _ _ _ _ hS (hz) dX6_append_51 (rfl) (⟨_, _, _, _, _, _, _, _, ⟨h_11, k_13, k_14, k_15, k_16, k_17, k_18⟩, hrep, hpa, hke, zbu_s hbu⟩)

set_option maxHeartbeats 4000000 in
set_option maxRecDepth 100000 in
theorem c_X6_clearText_0 (E : zEnv) {am : Nat → Nat} {nw sv : zS} {an : Bool} {hs : Nat → zS} {ct ln : Nat} {cd : Nat → Int32}  (hok : zOk nw) (hinj : zInM am) (hct : ct ≤ 5) (hln : ln ≤ 60) : zWR E yX6_clearText wsX6_clearText 0 0 [.ref (am 0)] (fun H => zMW E am nw sv an hs ct ln cd H) (some (.int (nI ln))) (fun H => zMW E am nw sv an hs ct 0 cd H) (zAM am) := by
  refine zWR.ofI (maxL := 2) rfl (Nat.le_of_ble_eq_true rfl) (fun p e s m args below meth c H Q hF hP hret ls hl => ?_)
  have S : CallFix p m c cX6_clearText 2 s args wsX6_clearText RX6 := hF.1
  have hG := hF.2
  obtain ⟨hx, hb, hml, hown, hts⟩ := id S
  have hS : va_S (zAM am) H H [] := va_S.rf
  obtain ⟨locs, hlocs⟩ : ∃ x : List Loc, x = [] := ⟨_, rfl⟩
  rw [← hlocs] at hS ⊢
  have hz : H.size = H.size := rfl
  obtain ⟨z, past, kept, buf, rg, td, tm, nb, ⟨h0, h1, h2, h3, h4, h5, h6⟩, hrep, hpa, hke, hbu⟩ := hP
  obtain ⟨r1, rwt, r3, r4, r5, r6, r7⟩ := id hrep
  have hl : lv_has ls 2 [(0, .ref (am 0))] := hl
  have hin6 : ∀ w ∈ u_ws RX6 TX6 11, w ∈ wsX6_clearText := by decide +kernel
  refine lv_aload_n hx hb dX6_clearText_0 rfl (lv_at hl 0 rfl) ?_
  refine z_get (ref := RX6) (C := RX6) (T := TX6) (N := 11) hx hb hts hin6 hown hG h0 rfl 6 (by decide) (by decide +kernel) rfl rfl dX6_clearText_1 ?_
  refine lv_istore_n (lv' := [(1, .int (nI (ln))), (0, .ref (am 0))]) hx hb dX6_clearText_4 rfl hl (by decide) rfl (fun ls hl => ?_)
  refine lv_aload_n hx hb dX6_clearText_5 rfl (lv_at hl 1 rfl) ?_
  refine lv_iconst (v := nI (0)) hx hb dX6_clearText_6 (by decide) ?_
  refine z_put (ref := RX6) (C := RX6) (T := TX6) (N := 11) hx hb hts hin6 tyX6_ok nmX6 hown hG h0 rfl 6 (by decide) (by decide +kernel) rfl rfl rfl rfl (Nat.le_of_ble_eq_true rfl) hS (⟨0, by decide, rfl⟩) dX6_clearText_7 (fun Hn locs h_1 o_2 hS => ?_)
  have k_3 := va_at.kept h1 (o_2.2 _ (hinj.ne (by decide) (by decide) (by decide)))
  have k_4 := va_at.kept h2 (o_2.2 _ (hinj.ne (by decide) (by decide) (by decide)))
  have k_5 := va_at.kept h3 (o_2.2 _ (hinj.ne (by decide) (by decide) (by decide)))
  have k_6 := va_at.kept h4 (o_2.2 _ (hinj.ne (by decide) (by decide) (by decide)))
  have k_7 := va_at.kept h5 (o_2.2 _ (hinj.ne (by decide) (by decide) (by decide)))
  have k_8 := va_at.kept h6 (o_2.2 _ (hinj.ne (by decide) (by decide) (by decide)))
  have hz : Hn.size = H.size := o_2.1.trans hz
  refine lv_iload_n hx hb dX6_clearText_10 rfl (lv_at hl 0 rfl) ?_
  exact hret _ _ _ _ _ hS (hz) dX6_clearText_11 (rfl) (⟨_, _, _, _, _, _, _, _, ⟨h_1, k_3, k_4, k_5, k_6, k_7, k_8⟩, hrep, hpa, hke, fun j hj => absurd hj (Nat.not_lt_zero j)⟩)

set_option maxHeartbeats 4000000 in
set_option maxRecDepth 100000 in
theorem c_X6_undo_0 (E : zEnv) {am : Nat → Nat} {nw sv : zS} {an : Bool} {hs : Nat → zS} {ct ln : Nat} {cd : Nat → Int32}  (hok : zOk nw) (hinj : zInM am) (hct : ct ≤ 5) (hc0 : ct = 0) : zWR E yX6_undo wsX6_undo 0 0 [.ref (am 0)] (fun H => zMW E am nw sv an hs ct ln cd H) (some (.int (-3))) (fun H => zMW E am nw sv an hs ct ln cd H) (zAM am) := by
  refine zWR.ofI (maxL := 2) rfl (Nat.le_of_ble_eq_true rfl) (fun p e s m args below meth c H Q hF hP hret ls hl => ?_)
  have S : CallFix p m c cX6_undo 2 s args wsX6_undo RX6 := hF.1
  have hG := hF.2
  obtain ⟨hx, hb, hml, hown, hts⟩ := id S
  have hS : va_S (zAM am) H H [] := va_S.rf
  obtain ⟨locs, hlocs⟩ : ∃ x : List Loc, x = [] := ⟨_, rfl⟩
  rw [← hlocs] at hS ⊢
  have hz : H.size = H.size := rfl
  obtain ⟨z, past, kept, buf, rg, td, tm, nb, ⟨h0, h1, h2, h3, h4, h5, h6⟩, hrep, hpa, hke, hbu⟩ := hP
  obtain ⟨r1, rwt, r3, r4, r5, r6, r7⟩ := id hrep
  have hl : lv_has ls 2 [(0, .ref (am 0))] := hl
  have hin6 : ∀ w ∈ u_ws RX6 TX6 11, w ∈ wsX6_undo := by decide +kernel
  refine lv_aload_n hx hb dX6_undo_0 rfl (lv_at hl 0 rfl) ?_
  refine z_get (ref := RX6) (C := RX6) (T := TX6) (N := 11) hx hb hts hin6 hown hG h0 rfl 2 (by decide) (by decide +kernel) rfl rfl dX6_undo_1 ?_
  refine z_fne (tgt := 10) hx hb dX6_undo_4 (by decide) (by omega) (fun c_1 => by exfalso; omega) (fun c_1 => ?_)
  refine lv_bipush (v := (-3)) hx hb dX6_undo_7 (by decide) ?_
  exact hret _ _ _ _ _ hS (hz) dX6_undo_9 (rfl) (⟨_, _, _, _, _, _, _, _, ⟨h0, h1, h2, h3, h4, h5, h6⟩, hrep, hpa, hke, hbu⟩)

set_option maxHeartbeats 4000000 in
set_option maxRecDepth 100000 in
theorem c_X6_undo_1 (E : zEnv) {am : Nat → Nat} {nw sv : zS} {an : Bool} {hs : Nat → zS} {ct ln : Nat} {cd : Nat → Int32}  (hok : zOk nw) (hinj : zInM am) (hct : ct ≤ 5) (hc0 : 0 < ct) : zWR E yX6_undo wsX6_undo 0 0 [.ref (am 0)] (fun H => zMW E am nw sv an hs ct ln cd H) (some (.int (nI (ct - 1)))) (fun H => zMW E am (hs (ct - 1)) sv an hs (ct - 1) ln cd H) (zAM am) := by
  refine zWR.ofI (maxL := 2) rfl (Nat.le_of_ble_eq_true rfl) (fun p e s m args below meth c H Q hF hP hret ls hl => ?_)
  have S : CallFix p m c cX6_undo 2 s args wsX6_undo RX6 := hF.1
  have hG := hF.2
  obtain ⟨hx, hb, hml, hown, hts⟩ := id S
  have hS : va_S (zAM am) H H [] := va_S.rf
  obtain ⟨locs, hlocs⟩ : ∃ x : List Loc, x = [] := ⟨_, rfl⟩
  rw [← hlocs] at hS ⊢
  have hz : H.size = H.size := rfl
  obtain ⟨z, past, kept, buf, rg, td, tm, nb, ⟨h0, h1, h2, h3, h4, h5, h6⟩, hrep, hpa, hke, hbu⟩ := hP
  obtain ⟨r1, rwt, r3, r4, r5, r6, r7⟩ := id hrep
  have hl : lv_has ls 2 [(0, .ref (am 0))] := hl
  have hin6 : ∀ w ∈ u_ws RX6 TX6 11, w ∈ wsX6_undo := by decide +kernel
  refine lv_aload_n hx hb dX6_undo_0 rfl (lv_at hl 0 rfl) ?_
  refine z_get (ref := RX6) (C := RX6) (T := TX6) (N := 11) hx hb hts hin6 hown hG h0 rfl 2 (by decide) (by decide +kernel) rfl rfl dX6_undo_1 ?_
  refine z_fne (tgt := 10) hx hb dX6_undo_4 (by decide) (by omega) (fun c_1 => ?_) (fun c_1 => by exfalso; omega)
  refine lv_aload_n hx hb dX6_undo_10 rfl (lv_at hl 0 rfl) ?_
  refine lv_dup hx hb dX6_undo_11 rfl ?_
  refine z_get (ref := RX6) (C := RX6) (T := TX6) (N := 11) hx hb hts hin6 hown hG h0 rfl 2 (by decide) (by decide +kernel) rfl rfl dX6_undo_12 ?_
  refine lv_iconst (v := nI (1)) hx hb dX6_undo_15 (by decide) ?_
  refine z_isub hx hb dX6_undo_16 (by omega) ?_
  refine z_put (ref := RX6) (C := RX6) (T := TX6) (N := 11) hx hb hts hin6 tyX6_ok nmX6 hown hG h0 rfl 2 (by decide) (by decide +kernel) rfl rfl rfl rfl (Nat.le_of_ble_eq_true rfl) hS (⟨0, by decide, rfl⟩) dX6_undo_17 (fun Hn locs h_2 o_3 hS => ?_)
  have k_4 := va_at.kept h1 (o_3.2 _ (hinj.ne (by decide) (by decide) (by decide)))
  have k_5 := va_at.kept h2 (o_3.2 _ (hinj.ne (by decide) (by decide) (by decide)))
  have k_6 := va_at.kept h3 (o_3.2 _ (hinj.ne (by decide) (by decide) (by decide)))
  have k_7 := va_at.kept h4 (o_3.2 _ (hinj.ne (by decide) (by decide) (by decide)))
  have k_8 := va_at.kept h5 (o_3.2 _ (hinj.ne (by decide) (by decide) (by decide)))
  have k_9 := va_at.kept h6 (o_3.2 _ (hinj.ne (by decide) (by decide) (by decide)))
  have hz : Hn.size = H.size := o_3.1.trans hz
  refine lv_iconst (v := nI (0)) hx hb dX6_undo_20 (by decide) ?_
  refine lv_istore_n (lv' := [(1, .int (nI (0))), (0, .ref (am 0))]) hx hb dX6_undo_21 rfl hl (by decide) rfl (fun ls hl => ?_)
  have L22 : ∀ (dd : Nat) (i : Nat), 300 - i < dd → (i ≤ 300) → ∀ (Hn : Heap) (locs : List Loc) (hS : va_S (zAM am) H Hn locs) (hz : Hn.size = H.size) (hX : zMX E am (zcp z past ((ct - 1) * 300) i) past (ct - 1) kept an buf ln rg td tm nb Hn) (ls : Array Slot), lv_has ls 2 [(0, .ref (am 0)), (1, .int (nI (i)))] → W p (zl E) e (zRm 0 0) s m args below meth c Hn locs 0 0 Q (F0 m 22 ls []) := by
    intro dd
    induction dd with
    | zero => intro i hdd; exact absurd hdd (Nat.not_lt_zero _)
    | succ dd ih22 =>
      intro i hdd22 hi Hn locs hS hz hX ls hl
      obtain ⟨h0, h1, h2, h3, h4, h5, h6⟩ := hX
      refine lv_iload_n hx hb dX6_undo_22 rfl (lv_at hl 1 rfl) ?_
      refine lv_sipush (v := nI (300)) hx hb dX6_undo_23 (by decide) ?_
      refine z_cge (tgt := 56) hx hb dX6_undo_26 (by decide) ⟨by omega, by omega⟩ (fun c_10 => ?_) (fun c_10 => ?_)
      · obtain rfl : i = 300 := by omega
        refine lv_aload_n hx hb dX6_undo_56 rfl (lv_at hl 0 rfl) ?_
        refine z_get (ref := RX6) (C := RX6) (T := TX6) (N := 11) hx hb hts hin6 hown hG h0 rfl 2 (by decide) (by decide +kernel) rfl rfl dX6_undo_57 ?_
        exact hret _ _ _ _ _ hS (hz) dX6_undo_60 (rfl) (⟨_, _, _, _, _, _, _, _, ⟨h0, h1, h2, h3, h4, h5, h6⟩, zRep_c (hpa (ct - 1) (by omega)).1.B (fun j hj => if_pos hj) (hpa (ct - 1) (by omega)).2, fun i hi => hpa i (by omega), hke, hbu⟩)
      · refine lv_aload_n hx hb dX6_undo_29 rfl (lv_at hl 0 rfl) ?_
        refine z_get (ref := RX6) (C := RX6) (T := TX6) (N := 11) hx hb hts hin6 hown hG h0 rfl 0 (by decide) (by decide +kernel) rfl rfl dX6_undo_30 ?_
        refine lv_iload_n hx hb dX6_undo_33 rfl (lv_at hl 1 rfl) ?_
        refine lv_aload_n hx hb dX6_undo_34 rfl (lv_at hl 0 rfl) ?_
        refine z_get (ref := RX6) (C := RX6) (T := TX6) (N := 11) hx hb hts hin6 hown hG h0 rfl 1 (by decide) (by decide +kernel) rfl rfl dX6_undo_35 ?_
        refine lv_aload_n hx hb dX6_undo_38 rfl (lv_at hl 0 rfl) ?_
        refine z_get (ref := RX6) (C := RX6) (T := TX6) (N := 11) hx hb hts hin6 hown hG h0 rfl 2 (by decide) (by decide +kernel) rfl rfl dX6_undo_39 ?_
        refine lv_sipush (v := nI (300)) hx hb dX6_undo_42 (by decide) ?_
        refine z_imul hx hb dX6_undo_45 ?_
        refine lv_iload_n hx hb dX6_undo_46 rfl (lv_at hl 1 rfl) ?_
        refine z_iadd hx hb dX6_undo_47 ?_
        refine z_iald (j := ((ct - 1) * 300) + i) hx hb hG h2 ⟨by omega, by omega⟩ dX6_undo_48 ?_
        refine z_iast (j := i) hx hb hG h1 ⟨by omega, by omega⟩ hS (⟨1, by decide, rfl⟩) dX6_undo_49 (fun Hn locs h_11 o_12 hS => ?_)
        have k_13 := va_at.kept h0 (o_12.2 _ (hinj.ne (by decide) (by decide) (by decide)))
        have k_14 := va_at.kept h2 (o_12.2 _ (hinj.ne (by decide) (by decide) (by decide)))
        have k_15 := va_at.kept h3 (o_12.2 _ (hinj.ne (by decide) (by decide) (by decide)))
        have k_16 := va_at.kept h4 (o_12.2 _ (hinj.ne (by decide) (by decide) (by decide)))
        have k_17 := va_at.kept h5 (o_12.2 _ (hinj.ne (by decide) (by decide) (by decide)))
        have k_18 := va_at.kept h6 (o_12.2 _ (hinj.ne (by decide) (by decide) (by decide)))
        have hz : Hn.size = H.size := o_12.1.trans hz
        refine lv_iinc (v := nI (i + 1)) (lv' := [(1, .int (nI (i + 1))), (0, .ref (am 0))]) hx hb dX6_undo_50 hl (k := 1) rfl (z_inc1 _) (by decide) rfl (fun ls hl => ?_)
        refine lv_goto (tgt := 22) hx hb dX6_undo_53 (by decide) ?_
        have hl9 := lv_sub hl [1, 0] (l' := [(0, .ref (am 0)), (1, .int (nI (i + 1)))]) rfl
        have e9_1 : (i + 1) = ((i + 1)) := by omega
        exact ih22 (i + 1) (by omega) (by omega) _ _ hS hz (by rw [← zcp_s]; exact ⟨k_13, h_11, k_14, k_15, k_16, k_17, k_18⟩) ls (by rw [← e9_1]; exact hl9)
  exact L22 ((300 - (0)) + 1) (0) (Nat.lt_succ_self _) (by decide) _ _ hS hz (by rw [zcp_0]; exact ⟨h_2, k_4, k_5, k_6, k_7, k_8, k_9⟩) ls (lv_sub hl [1, 0] rfl)

set_option maxHeartbeats 4000000 in
set_option maxRecDepth 100000 in
theorem c_X6_save_0 (E : zEnv) {am : Nat → Nat} {nw sv : zS} {an : Bool} {hs : Nat → zS} {ct ln : Nat} {cd : Nat → Int32}  (hok : zOk nw) (hinj : zInM am) (hct : ct ≤ 5)  : zWR E yX6_save wsX6_save 2 43 [.ref (am 0)] (fun H => zMW E am nw sv an hs ct ln cd H) (some (.int (nI (zct (fun t => decide (zSz nw t ≠ 0)) 6)))) (fun H => zMW E am nw nw true hs ct ln cd H) (zAM am) := by
  refine zWR.ofI (maxL := 2) rfl (Nat.le_of_ble_eq_true rfl) (fun p e s m args below meth c H Q hF hP hret ls hl => ?_)
  have S : CallFix p m c cX6_save 2 s args wsX6_save RX6 := hF.1
  have hG := hF.2
  obtain ⟨hx, hb, hml, hown, hts⟩ := id S
  have hS : va_S (zAM am) H H [] := va_S.rf
  obtain ⟨locs, hlocs⟩ : ∃ x : List Loc, x = [] := ⟨_, rfl⟩
  rw [← hlocs] at hS ⊢
  have hz : H.size = H.size := rfl
  obtain ⟨z, past, kept, buf, rg, td, tm, nb, ⟨h0, h1, h2, h3, h4, h5, h6⟩, hrep, hpa, hke, hbu⟩ := hP
  obtain ⟨r1, rwt, r3, r4, r5, r6, r7⟩ := id hrep
  have hl : lv_has ls 2 [(0, .ref (am 0))] := hl
  have hin6 : ∀ w ∈ u_ws RX6 TX6 11, w ∈ wsX6_save := by decide +kernel
  refine lv_aload_n hx hb dX6_save_0 rfl (lv_at hl 0 rfl) ?_
  refine lv_iconst (v := nI (1)) hx hb dX6_save_1 (by decide) ?_
  refine z_put (ref := RX6) (C := RX6) (T := TX6) (N := 11) hx hb hts hin6 tyX6_ok nmX6 hown hG h0 rfl 4 (by decide) (by decide +kernel) rfl rfl rfl rfl (Nat.le_of_ble_eq_true rfl) hS (⟨0, by decide, rfl⟩) dX6_save_2 (fun Hn locs h_1 o_2 hS => ?_)
  have k_3 := va_at.kept h1 (o_2.2 _ (hinj.ne (by decide) (by decide) (by decide)))
  have k_4 := va_at.kept h2 (o_2.2 _ (hinj.ne (by decide) (by decide) (by decide)))
  have k_5 := va_at.kept h3 (o_2.2 _ (hinj.ne (by decide) (by decide) (by decide)))
  have k_6 := va_at.kept h4 (o_2.2 _ (hinj.ne (by decide) (by decide) (by decide)))
  have k_7 := va_at.kept h5 (o_2.2 _ (hinj.ne (by decide) (by decide) (by decide)))
  have k_8 := va_at.kept h6 (o_2.2 _ (hinj.ne (by decide) (by decide) (by decide)))
  have hz : Hn.size = H.size := o_2.1.trans hz
  refine lv_iconst (v := nI (0)) hx hb dX6_save_5 (by decide) ?_
  refine lv_istore_n (lv' := [(1, .int (nI (0))), (0, .ref (am 0))]) hx hb dX6_save_6 rfl hl (by decide) rfl (fun ls hl => ?_)
  have L7 : ∀ (dd : Nat) (i : Nat), 300 - i < dd → (i ≤ 300) → ∀ (Hn : Heap) (locs : List Loc) (hS : va_S (zAM am) H Hn locs) (hz : Hn.size = H.size) (hX : zMX E am z past ct (zcq kept z i) true buf ln rg td tm nb Hn) (ls : Array Slot), lv_has ls 2 [(0, .ref (am 0)), (1, .int (nI (i)))] → W p (zl E) e (zRm 2 43) s m args below meth c Hn locs 0 0 Q (F0 m 7 ls []) := by
    intro dd
    induction dd with
    | zero => intro i hdd; exact absurd hdd (Nat.not_lt_zero _)
    | succ dd ih7 =>
      intro i hdd7 hi Hn locs hS hz hX ls hl
      obtain ⟨h0, h1, h2, h3, h4, h5, h6⟩ := hX
      refine lv_iload_n hx hb dX6_save_7 rfl (lv_at hl 1 rfl) ?_
      refine lv_sipush (v := nI (300)) hx hb dX6_save_8 (by decide) ?_
      refine z_cge (tgt := 32) hx hb dX6_save_11 (by decide) ⟨by omega, by omega⟩ (fun c_9 => ?_) (fun c_9 => ?_)
      · obtain rfl : i = 300 := by omega
        refine lv_aload_n hx hb dX6_save_32 rfl (lv_at hl 0 rfl) ?_
        refine z_roV (As := []) (rest := []) (q := (RX6, TX6, 11)) S hG (c_X6_many E (z := z) (sz := zSz nw) (fun t ht => (r3 t ht).1) hok.h16) 0 gX6_save_X6_many rfl kX6_many ⟨Nat.le_of_ble_eq_true rfl, Nat.le_of_ble_eq_true rfl⟩ ⟨Nat.zero_le _, Nat.zero_le _⟩ (⟨h0, h1⟩) rfl h0 rfl hl.1 rfl rfl (Nat.le_of_ble_eq_true rfl) dX6_save_33 ?_
        exact hret _ _ _ _ _ hS (hz) dX6_save_36 (by rw [zct_ps]) (⟨_, _, _, _, _, _, _, _, ⟨h0, h1, h2, h3, h4, h5, h6⟩, hrep, hpa, fun _ => zRep_c hok.B (fun j hj => if_pos hj) hrep, hbu⟩)
      · refine lv_aload_n hx hb dX6_save_14 rfl (lv_at hl 0 rfl) ?_
        refine z_get (ref := RX6) (C := RX6) (T := TX6) (N := 11) hx hb hts hin6 hown hG h0 rfl 3 (by decide) (by decide +kernel) rfl rfl dX6_save_15 ?_
        refine lv_iload_n hx hb dX6_save_18 rfl (lv_at hl 1 rfl) ?_
        refine lv_aload_n hx hb dX6_save_19 rfl (lv_at hl 0 rfl) ?_
        refine z_get (ref := RX6) (C := RX6) (T := TX6) (N := 11) hx hb hts hin6 hown hG h0 rfl 0 (by decide) (by decide +kernel) rfl rfl dX6_save_20 ?_
        refine lv_iload_n hx hb dX6_save_23 rfl (lv_at hl 1 rfl) ?_
        refine z_iald (j := i) hx hb hG h1 ⟨by omega, by omega⟩ dX6_save_24 ?_
        refine z_iast (j := i) hx hb hG h3 ⟨by omega, by omega⟩ hS (⟨3, by decide, rfl⟩) dX6_save_25 (fun Hn locs h_10 o_11 hS => ?_)
        have k_12 := va_at.kept h0 (o_11.2 _ (hinj.ne (by decide) (by decide) (by decide)))
        have k_13 := va_at.kept h1 (o_11.2 _ (hinj.ne (by decide) (by decide) (by decide)))
        have k_14 := va_at.kept h2 (o_11.2 _ (hinj.ne (by decide) (by decide) (by decide)))
        have k_15 := va_at.kept h4 (o_11.2 _ (hinj.ne (by decide) (by decide) (by decide)))
        have k_16 := va_at.kept h5 (o_11.2 _ (hinj.ne (by decide) (by decide) (by decide)))
        have k_17 := va_at.kept h6 (o_11.2 _ (hinj.ne (by decide) (by decide) (by decide)))
        have hz : Hn.size = H.size := o_11.1.trans hz
        refine lv_iinc (v := nI (i + 1)) (lv' := [(1, .int (nI (i + 1))), (0, .ref (am 0))]) hx hb dX6_save_26 hl (k := 1) rfl (z_inc1 _) (by decide) rfl (fun ls hl => ?_)
        refine lv_goto (tgt := 7) hx hb dX6_save_29 (by decide) ?_
        have hl9 := lv_sub hl [1, 0] (l' := [(0, .ref (am 0)), (1, .int (nI (i + 1)))]) rfl
        have e9_1 : (i + 1) = ((i + 1)) := by omega
        exact ih7 (i + 1) (by omega) (by omega) _ _ hS hz (by rw [← zcq_s]; exact ⟨k_12, k_13, k_14, h_10, k_15, k_16, k_17⟩) ls (by rw [← e9_1]; exact hl9)
  exact L7 ((300 - (0)) + 1) (0) (Nat.lt_succ_self _) (by decide) _ _ hS hz (by rw [zcq_0]; exact ⟨h_1, k_3, k_4, k_5, k_6, k_7, k_8⟩) ls (lv_sub hl [1, 0] rfl)

set_option maxHeartbeats 4000000 in
set_option maxRecDepth 100000 in
theorem c_X6_restore_0 (E : zEnv) {am : Nat → Nat} {nw sv : zS} {an : Bool} {hs : Nat → zS} {ct ln : Nat} {cd : Nat → Int32}  (hok : zOk nw) (hinj : zInM am) (hct : ct ≤ 5) (ha : an = false) : zWR E yX6_restore wsX6_restore 2 43 [.ref (am 0)] (fun H => zMW E am nw sv an hs ct ln cd H) (some (.int (-3))) (fun H => zMW E am nw sv an hs ct ln cd H) (zAM am) := by
  refine zWR.ofI (maxL := 2) rfl (Nat.le_of_ble_eq_true rfl) (fun p e s m args below meth c H Q hF hP hret ls hl => ?_)
  have S : CallFix p m c cX6_restore 2 s args wsX6_restore RX6 := hF.1
  have hG := hF.2
  obtain ⟨hx, hb, hml, hown, hts⟩ := id S
  have hS : va_S (zAM am) H H [] := va_S.rf
  obtain ⟨locs, hlocs⟩ : ∃ x : List Loc, x = [] := ⟨_, rfl⟩
  rw [← hlocs] at hS ⊢
  have hz : H.size = H.size := rfl
  obtain ⟨z, past, kept, buf, rg, td, tm, nb, ⟨h0, h1, h2, h3, h4, h5, h6⟩, hrep, hpa, hke, hbu⟩ := hP
  obtain ⟨r1, rwt, r3, r4, r5, r6, r7⟩ := id hrep
  have hl : lv_has ls 2 [(0, .ref (am 0))] := hl
  have hin6 : ∀ w ∈ u_ws RX6 TX6 11, w ∈ wsX6_restore := by decide +kernel
  refine lv_aload_n hx hb dX6_restore_0 rfl (lv_at hl 0 rfl) ?_
  refine z_get (ref := RX6) (C := RX6) (T := TX6) (N := 11) hx hb hts hin6 hown hG h0 rfl 4 (by decide) (by decide +kernel) rfl rfl dX6_restore_1 ?_
  refine z_bne (tgt := 10) hx hb dX6_restore_4 (by decide) (fun c_1 => by exfalso; rw [ha] at c_1; cases c_1) (fun c_1 => ?_)
  refine lv_bipush (v := (-3)) hx hb dX6_restore_7 (by decide) ?_
  exact hret _ _ _ _ _ hS (hz) dX6_restore_9 (rfl) (⟨_, _, _, _, _, _, _, _, ⟨h0, h1, h2, h3, h4, h5, h6⟩, hrep, hpa, hke, hbu⟩)

set_option maxHeartbeats 4000000 in
set_option maxRecDepth 100000 in
theorem c_X6_restore_1 (E : zEnv) {am : Nat → Nat} {nw sv : zS} {an : Bool} {hs : Nat → zS} {ct ln : Nat} {cd : Nat → Int32}  (hok : zOk nw) (hinj : zInM am) (hct : ct ≤ 5) (ha : an = true) (hoks : zOk sv) : zWR E yX6_restore wsX6_restore 2 43 [.ref (am 0)] (fun H => zMW E am nw sv an hs ct ln cd H) (some (.int (nI (zct (fun t => decide (zSz sv t ≠ 0)) 6)))) (fun H => zMW E am sv sv an (zrH hs ct nw) (zrC ct) ln cd H) (zAM am) := by
  refine zWR.ofI (maxL := 2) rfl (Nat.le_of_ble_eq_true rfl) (fun p e s m args below meth c H Q hF hP hret ls hl => ?_)
  have S : CallFix p m c cX6_restore 2 s args wsX6_restore RX6 := hF.1
  have hG := hF.2
  obtain ⟨hx, hb, hml, hown, hts⟩ := id S
  have hS : va_S (zAM am) H H [] := va_S.rf
  obtain ⟨locs, hlocs⟩ : ∃ x : List Loc, x = [] := ⟨_, rfl⟩
  rw [← hlocs] at hS ⊢
  have hz : H.size = H.size := rfl
  obtain ⟨z, past, kept, buf, rg, td, tm, nb, ⟨h0, h1, h2, h3, h4, h5, h6⟩, hrep, hpa, hke, hbu⟩ := hP
  obtain ⟨r1, rwt, r3, r4, r5, r6, r7⟩ := id hrep
  have hl : lv_has ls 2 [(0, .ref (am 0))] := hl
  have hin6 : ∀ w ∈ u_ws RX6 TX6 11, w ∈ wsX6_restore := by decide +kernel
  refine lv_aload_n hx hb dX6_restore_0 rfl (lv_at hl 0 rfl) ?_
  refine z_get (ref := RX6) (C := RX6) (T := TX6) (N := 11) hx hb hts hin6 hown hG h0 rfl 4 (by decide) (by decide +kernel) rfl rfl dX6_restore_1 ?_
  refine z_bne (tgt := 10) hx hb dX6_restore_4 (by decide) (fun c_1 => ?_) (fun c_1 => by exfalso; rw [ha] at c_1; cases c_1)
  refine lv_aload_n hx hb dX6_restore_10 rfl (lv_at hl 0 rfl) ?_
  refine z_wrV (As := []) (rest := []) (q := (RX6, TX6, 11)) S hG (c_X6_record E hinj hct hok hrep hpa) 0 gX6_restore_X6_record rfl kX6_record ⟨Nat.le_of_ble_eq_true rfl, Nat.le_of_ble_eq_true rfl⟩ ⟨Nat.zero_le _, Nat.zero_le _⟩ (⟨h0, h1, h2, h3, h4, h5, h6⟩) rfl h0 rfl hl.1 rfl rfl (Nat.le_of_ble_eq_true rfl) dX6_restore_11 hS (fun _ h => h) (fun Hn locs h_3 q_2 o_4 hS => ?_)
  have hz : Hn.size = H.size := q_2.trans hz
  obtain ⟨past, ⟨h0, h1, h2, h3, h4, h5, h6⟩, hpa⟩ := h_3
  refine lv_iconst (v := nI (0)) hx hb dX6_restore_14 (by decide) ?_
  refine lv_istore_n (lv' := [(1, .int (nI (0))), (0, .ref (am 0))]) hx hb dX6_restore_15 rfl hl (by decide) rfl (fun ls hl => ?_)
  have L16 : ∀ (dd : Nat) (i : Nat), 300 - i < dd → (i ≤ 300) → ∀ (Hn : Heap) (locs : List Loc) (hS : va_S (zAM am) H Hn locs) (hz : Hn.size = H.size) (hX : zMX E am (zcq z kept i) past (zrC ct) kept an buf ln rg td tm nb Hn) (ls : Array Slot), lv_has ls 2 [(0, .ref (am 0)), (1, .int (nI (i)))] → W p (zl E) e (zRm 2 43) s m args below meth c Hn locs 0 0 Q (F0 m 16 ls []) := by
    intro dd
    induction dd with
    | zero => intro i hdd; exact absurd hdd (Nat.not_lt_zero _)
    | succ dd ih16 =>
      intro i hdd16 hi Hn locs hS hz hX ls hl
      obtain ⟨h0, h1, h2, h3, h4, h5, h6⟩ := hX
      refine lv_iload_n hx hb dX6_restore_16 rfl (lv_at hl 1 rfl) ?_
      refine lv_sipush (v := nI (300)) hx hb dX6_restore_17 (by decide) ?_
      refine z_cge (tgt := 41) hx hb dX6_restore_20 (by decide) ⟨by omega, by omega⟩ (fun c_5 => ?_) (fun c_5 => ?_)
      · obtain rfl : i = 300 := by omega
        refine lv_aload_n hx hb dX6_restore_41 rfl (lv_at hl 0 rfl) ?_
        refine z_roV (As := []) (rest := []) (q := (RX6, TX6, 11)) S hG (c_X6_many E (z := (zcq z kept 300)) (sz := zSz sv) (fun t ht => ((zRep_c hoks.B (fun j hj => if_pos hj) (hke ha) : zRep (zcq z kept 300) sv).2.2.1 t ht).1) hoks.h16) 0 gX6_restore_X6_many rfl kX6_many ⟨Nat.le_of_ble_eq_true rfl, Nat.le_of_ble_eq_true rfl⟩ ⟨Nat.zero_le _, Nat.zero_le _⟩ (⟨h0, h1⟩) rfl h0 rfl hl.1 rfl rfl (Nat.le_of_ble_eq_true rfl) dX6_restore_42 ?_
        exact hret _ _ _ _ _ hS (hz) dX6_restore_45 (by rw [zct_ps]) (⟨_, _, _, _, _, _, _, _, ⟨h0, h1, h2, h3, h4, h5, h6⟩, zRep_c hoks.B (fun j hj => if_pos hj) (hke ha), hpa, hke, hbu⟩)
      · refine lv_aload_n hx hb dX6_restore_23 rfl (lv_at hl 0 rfl) ?_
        refine z_get (ref := RX6) (C := RX6) (T := TX6) (N := 11) hx hb hts hin6 hown hG h0 rfl 0 (by decide) (by decide +kernel) rfl rfl dX6_restore_24 ?_
        refine lv_iload_n hx hb dX6_restore_27 rfl (lv_at hl 1 rfl) ?_
        refine lv_aload_n hx hb dX6_restore_28 rfl (lv_at hl 0 rfl) ?_
        refine z_get (ref := RX6) (C := RX6) (T := TX6) (N := 11) hx hb hts hin6 hown hG h0 rfl 3 (by decide) (by decide +kernel) rfl rfl dX6_restore_29 ?_
        refine lv_iload_n hx hb dX6_restore_32 rfl (lv_at hl 1 rfl) ?_
        refine z_iald (j := i) hx hb hG h3 ⟨by omega, by omega⟩ dX6_restore_33 ?_
        refine z_iast (j := i) hx hb hG h1 ⟨by omega, by omega⟩ hS (⟨1, by decide, rfl⟩) dX6_restore_34 (fun Hn locs h_6 o_7 hS => ?_)
        have k_8 := va_at.kept h0 (o_7.2 _ (hinj.ne (by decide) (by decide) (by decide)))
        have k_9 := va_at.kept h2 (o_7.2 _ (hinj.ne (by decide) (by decide) (by decide)))
        have k_10 := va_at.kept h3 (o_7.2 _ (hinj.ne (by decide) (by decide) (by decide)))
        have k_11 := va_at.kept h4 (o_7.2 _ (hinj.ne (by decide) (by decide) (by decide)))
        have k_12 := va_at.kept h5 (o_7.2 _ (hinj.ne (by decide) (by decide) (by decide)))
        have k_13 := va_at.kept h6 (o_7.2 _ (hinj.ne (by decide) (by decide) (by decide)))
        have hz : Hn.size = H.size := o_7.1.trans hz
        refine lv_iinc (v := nI (i + 1)) (lv' := [(1, .int (nI (i + 1))), (0, .ref (am 0))]) hx hb dX6_restore_35 hl (k := 1) rfl (z_inc1 _) (by decide) rfl (fun ls hl => ?_)
        refine lv_goto (tgt := 16) hx hb dX6_restore_38 (by decide) ?_
        have hl9 := lv_sub hl [1, 0] (l' := [(0, .ref (am 0)), (1, .int (nI (i + 1)))]) rfl
        have e9_1 : (i + 1) = ((i + 1)) := by omega
        exact ih16 (i + 1) (by omega) (by omega) _ _ hS hz (by rw [← zcq_s]; exact ⟨k_8, h_6, k_9, k_10, k_11, k_12, k_13⟩) ls (by rw [← e9_1]; exact hl9)
  exact L16 ((300 - (0)) + 1) (0) (Nat.lt_succ_self _) (by decide) _ _ hS hz (by rw [zcq_0]; exact ⟨h0, h1, h2, h3, h4, h5, h6⟩) ls (lv_sub hl [1, 0] rfl)
