set_option maxHeartbeats 4000000 in
set_option maxRecDepth 100000 in
theorem c_X6_in (E : zEnv) {x : Int32} {lo hi : Nat}  : zRO E yX6_in wsX6_in 0 0 [.int (x), .int (nI (lo)), .int (nI (hi))] (fun _ => True) (some (.int (zb (zin x lo hi)))) := by
  refine zRO.ofZ (maxL := 3) rfl (Nat.le_of_ble_eq_true rfl) (fun p e s m args below meth c H Q hF hP hret ls hl => ?_)
  have S : CallFix p m c cX6_in 3 s args wsX6_in RX6 := hF.1
  have hG := hF.2
  obtain ⟨hx, hb, hml, hown, hts⟩ := id S
  have hl : lv_has ls 3 [(0, .int (x)), (1, .int (nI (lo))), (2, .int (nI (hi)))] := hl
  refine lv_iload_n hx hb dX6_in_0 rfl (lv_at hl 0 rfl) ?_
  refine lv_iload_n hx hb dX6_in_1 rfl (lv_at hl 1 rfl) ?_
  refine lv_icmp_lt (tgt := 14) hx hb dX6_in_2 (by decide) (fun c_1 => ?_) (fun c_1 => ?_)
  · refine lv_iconst (v := nI (0)) hx hb dX6_in_14 (by decide) ?_
    exact hret _ _ _ dX6_in_15 (by first | exact Or.inl rfl | exact Or.inr rfl) (by first | exact zrf (zin_f1 c_1) | exact zrf (zin_f2 c_1))
  · refine lv_iload_n hx hb dX6_in_5 rfl (lv_at hl 0 rfl) ?_
    refine lv_iload_n hx hb dX6_in_6 rfl (lv_at hl 2 rfl) ?_
    refine lv_icmp_gt (tgt := 14) hx hb dX6_in_7 (by decide) (fun c_2 => ?_) (fun c_2 => ?_)
    · refine lv_iconst (v := nI (0)) hx hb dX6_in_14 (by decide) ?_
      exact hret _ _ _ dX6_in_15 (by first | exact Or.inl rfl | exact Or.inr rfl) (by first | exact zrf (zin_f1 c_2) | exact zrf (zin_f2 c_2))
    · refine lv_iconst (v := nI (1)) hx hb dX6_in_10 (by decide) ?_
      refine lv_goto (tgt := 15) hx hb dX6_in_11 (by decide) ?_
      exact hret _ _ _ dX6_in_15 (by first | exact Or.inl rfl | exact Or.inr rfl) (zrt (zin_t c_1 c_2))

set_option maxHeartbeats 4000000 in
set_option maxRecDepth 100000 in
theorem c_X6_isKind (E : zEnv) {x : Int32}  : zRO E yX6_isKind wsX6_isKind 1 22 [.int (x)] (fun _ => True) (some (.int (zb (zin x 1 5)))) := by
  refine zRO.ofZ (maxL := 1) rfl (Nat.le_of_ble_eq_true rfl) (fun p e s m args below meth c H Q hF hP hret ls hl => ?_)
  have S : CallFix p m c cX6_isKind 1 s args wsX6_isKind RX6 := hF.1
  have hG := hF.2
  obtain ⟨hx, hb, hml, hown, hts⟩ := id S
  have hl : lv_has ls 1 [(0, .int (x))] := hl
  refine lv_iload_n hx hb dX6_isKind_0 rfl (lv_at hl 0 rfl) ?_
  refine lv_iconst (v := nI (1)) hx hb dX6_isKind_1 (by decide) ?_
  refine lv_iconst (v := nI (5)) hx hb dX6_isKind_2 (by decide) ?_
  refine z_roSX (As := [.int (x), .int (nI (1)), .int (nI (5))]) (rest := []) S hG (c_X6_in E) 3 gX6_isKind_X6_in rfl kX6_in.2 ⟨Nat.le_of_ble_eq_true rfl, Nat.le_of_ble_eq_true rfl⟩ ⟨Nat.zero_le _, Nat.zero_le _⟩ (trivial) rfl hl.1 rfl rfl (Nat.le_of_ble_eq_true rfl) dX6_isKind_3 ?_
  exact hret _ _ _ dX6_isKind_6 (by cases zin x 1 5; exact Or.inl rfl; exact Or.inr rfl) (rfl)

set_option maxHeartbeats 4000000 in
set_option maxRecDepth 100000 in
theorem c_X6_isLevel (E : zEnv) {x : Int32}  : zRO E yX6_isLevel wsX6_isLevel 1 22 [.int (x)] (fun _ => True) (some (.int (zb (zin x 0 2)))) := by
  refine zRO.ofZ (maxL := 1) rfl (Nat.le_of_ble_eq_true rfl) (fun p e s m args below meth c H Q hF hP hret ls hl => ?_)
  have S : CallFix p m c cX6_isLevel 1 s args wsX6_isLevel RX6 := hF.1
  have hG := hF.2
  obtain ⟨hx, hb, hml, hown, hts⟩ := id S
  have hl : lv_has ls 1 [(0, .int (x))] := hl
  refine lv_iload_n hx hb dX6_isLevel_0 rfl (lv_at hl 0 rfl) ?_
  refine lv_iconst (v := nI (0)) hx hb dX6_isLevel_1 (by decide) ?_
  refine lv_iconst (v := nI (2)) hx hb dX6_isLevel_2 (by decide) ?_
  refine z_roSX (As := [.int (x), .int (nI (0)), .int (nI (2))]) (rest := []) S hG (c_X6_in E) 3 gX6_isLevel_X6_in rfl kX6_in.2 ⟨Nat.le_of_ble_eq_true rfl, Nat.le_of_ble_eq_true rfl⟩ ⟨Nat.zero_le _, Nat.zero_le _⟩ (trivial) rfl hl.1 rfl rfl (Nat.le_of_ble_eq_true rfl) dX6_isLevel_3 ?_
  exact hret _ _ _ dX6_isLevel_6 (by cases zin x 0 2; exact Or.inl rfl; exact Or.inr rfl) (rfl)

set_option maxHeartbeats 4000000 in
set_option maxRecDepth 100000 in
theorem c_X6_isRing (E : zEnv) {x : Int32}  : zRO E yX6_isRing wsX6_isRing 1 22 [.int (x)] (fun _ => True) (some (.int (zb (zsz x)))) := by
  refine zRO.ofZ (maxL := 1) rfl (Nat.le_of_ble_eq_true rfl) (fun p e s m args below meth c H Q hF hP hret ls hl => ?_)
  have S : CallFix p m c cX6_isRing 1 s args wsX6_isRing RX6 := hF.1
  have hG := hF.2
  obtain ⟨hx, hb, hml, hown, hts⟩ := id S
  have hl : lv_has ls 1 [(0, .int (x))] := hl
  refine lv_iload_n hx hb dX6_isRing_0 rfl (lv_at hl 0 rfl) ?_
  refine lv_iconst (v := nI (4)) hx hb dX6_isRing_1 (by decide) ?_
  refine lv_bipush (v := nI (16)) hx hb dX6_isRing_2 (by decide) ?_
  refine z_roSX (As := [.int (x), .int (nI (4)), .int (nI (16))]) (rest := []) S hG (c_X6_in E) 3 gX6_isRing_X6_in rfl kX6_in.2 ⟨Nat.le_of_ble_eq_true rfl, Nat.le_of_ble_eq_true rfl⟩ ⟨Nat.zero_le _, Nat.zero_le _⟩ (trivial) rfl hl.1 rfl rfl (Nat.le_of_ble_eq_true rfl) dX6_isRing_4 ?_
  refine z_beq (tgt := 20) hx hb dX6_isRing_7 (by decide) (fun c_1 => ?_) (fun c_1 => ?_)
  · refine lv_iconst (v := nI (0)) hx hb dX6_isRing_20 (by decide) ?_
    exact hret _ _ _ dX6_isRing_21 (by first | exact Or.inl rfl | exact Or.inr rfl) (by first | exact zrf (zsz_o c_1))
  · refine lv_iload_n hx hb dX6_isRing_10 rfl (lv_at hl 0 rfl) ?_
    refine lv_iconst (v := nI (4)) hx hb dX6_isRing_11 (by decide) ?_
    refine lv_irem hx hb dX6_isRing_12 (by decide) ?_
    refine lv_if_ne (tgt := 20) hx hb dX6_isRing_13 (by decide) (fun c_2 => ?_) (fun c_2 => ?_)
    · refine lv_iconst (v := nI (0)) hx hb dX6_isRing_20 (by decide) ?_
      exact hret _ _ _ dX6_isRing_21 (by first | exact Or.inl rfl | exact Or.inr rfl) (by first | exact zrf (zsz_o c_2) | exact zrf (zsz_f c_1 c_2))
    · refine lv_iconst (v := nI (1)) hx hb dX6_isRing_16 (by decide) ?_
      refine lv_goto (tgt := 21) hx hb dX6_isRing_17 (by decide) ?_
      exact hret _ _ _ dX6_isRing_21 (by first | exact Or.inl rfl | exact Or.inr rfl) (zrt (zsz_t c_1 c_2))

set_option maxHeartbeats 4000000 in
set_option maxRecDepth 100000 in
theorem c_X6_size (E : zEnv) {x : Int32}  : zRO E yX6_size wsX6_size 0 0 [.int (x)] (fun _ => True) (some (.int (zabs x))) := by
  refine zRO.ofI (maxL := 1) rfl (Nat.le_of_ble_eq_true rfl) (fun p e s m args below meth c H Q hF hP hret ls hl => ?_)
  have S : CallFix p m c cX6_size 1 s args wsX6_size RX6 := hF.1
  have hG := hF.2
  obtain ⟨hx, hb, hml, hown, hts⟩ := id S
  have hl : lv_has ls 1 [(0, .int (x))] := hl
  refine lv_iload_n hx hb dX6_size_0 rfl (lv_at hl 0 rfl) ?_
  refine lv_if_ge (tgt := 9) hx hb dX6_size_1 (by decide) (fun c_1 => ?_) (fun c_1 => ?_)
  · refine lv_iload_n hx hb dX6_size_9 rfl (lv_at hl 0 rfl) ?_
    exact hret _ _ _ dX6_size_10 (zsi (zabs_p c_1))
  · refine lv_iload_n hx hb dX6_size_4 rfl (lv_at hl 0 rfl) ?_
    refine lv_ineg hx hb dX6_size_5 ?_
    refine lv_goto (tgt := 10) hx hb dX6_size_6 (by decide) ?_
    exact hret _ _ _ dX6_size_10 (zsi (zabs_n c_1))

set_option maxHeartbeats 4000000 in
set_option maxRecDepth 100000 in
theorem c_X6_changes (E : zEnv) {n lv : Nat} (hlv : lv ≤ 2) : zRO E yX6_changes wsX6_changes 0 0 [.int (nI (n)), .int (nI (lv))] (fun _ => True) (some (.int (nI (znc lv n)))) := by
  refine zRO.ofI (maxL := 2) rfl (Nat.le_of_ble_eq_true rfl) (fun p e s m args below meth c H Q hF hP hret ls hl => ?_)
  have S : CallFix p m c cX6_changes 2 s args wsX6_changes RX6 := hF.1
  have hG := hF.2
  obtain ⟨hx, hb, hml, hown, hts⟩ := id S
  have hl : lv_has ls 2 [(0, .int (nI (n))), (1, .int (nI (lv)))] := hl
  refine lv_iload_n hx hb dX6_changes_0 rfl (lv_at hl 1 rfl) ?_
  refine z_fne (tgt := 8) hx hb dX6_changes_1 (by decide) (by omega) (fun c_1 => ?_) (fun c_1 => ?_)
  · refine lv_iload_n hx hb dX6_changes_8 rfl (lv_at hl 1 rfl) ?_
    refine lv_iload_n hx hb dX6_changes_9 rfl (lv_at hl 0 rfl) ?_
    refine z_imul hx hb dX6_changes_10 ?_
    exact hret _ _ _ dX6_changes_11 (by rw [← zmc hlv]; simp [c_1])
  · refine lv_iconst (v := nI (4)) hx hb dX6_changes_4 (by decide) ?_
    refine lv_goto (tgt := 11) hx hb dX6_changes_5 (by decide) ?_
    exact hret _ _ _ dX6_changes_11 (by rw [← zmc hlv]; simp [c_1])

set_option maxHeartbeats 4000000 in
set_option maxRecDepth 100000 in
theorem c_X6_slots (E : zEnv) {o za : Nat} {fs : List Value} {z : Nat → Int32} {i n : Nat} (hi : i < 6) (hs : z (10 + 17 * i) = nI n) : zRO E yX6_slots wsX6_slots 0 0 [.ref (o), .int (nI (i))] (fun H => zMz E o za fs z H) (some (.int (nI n))) := by
  refine zRO.ofI (maxL := 2) rfl (Nat.le_of_ble_eq_true rfl) (fun p e s m args below meth c H Q hF hP hret ls hl => ?_)
  have S : CallFix p m c cX6_slots 2 s args wsX6_slots RX6 := hF.1
  have hG := hF.2
  obtain ⟨hx, hb, hml, hown, hts⟩ := id S
  obtain ⟨h1, h2⟩ := hP
  have hl : lv_has ls 2 [(0, .ref (o)), (1, .int (nI (i)))] := hl
  have hin6 : ∀ w ∈ u_ws RX6 TX6 11, w ∈ wsX6_slots := by decide +kernel
  refine lv_aload_n hx hb dX6_slots_0 rfl (lv_at hl 0 rfl) ?_
  refine z_get (ref := RX6) (C := RX6) (T := TX6) (N := 11) hx hb hts hin6 hown hG h1 rfl 0 (by decide) (by decide +kernel) rfl rfl dX6_slots_1 ?_
  refine lv_bipush (v := nI (10)) hx hb dX6_slots_4 (by decide) ?_
  refine lv_bipush (v := nI (17)) hx hb dX6_slots_6 (by decide) ?_
  refine lv_iload_n hx hb dX6_slots_8 rfl (lv_at hl 1 rfl) ?_
  refine z_imul hx hb dX6_slots_9 ?_
  refine z_iadd hx hb dX6_slots_10 ?_
  refine z_iald (j := 10 + (17 * i)) hx hb hG h2 ⟨by omega, by omega⟩ dX6_slots_11 ?_
  refine z_top (y := nI (n)) (hs) ?_
  exact hret _ _ _ dX6_slots_12 (rfl)

set_option maxHeartbeats 4000000 in
set_option maxRecDepth 100000 in
theorem c_X6_at (E : zEnv) {o za : Nat} {fs : List Value} {z : Nat → Int32} {i n j : Nat} (hi : i < 6) (hs : z (10 + 17 * i) = nI n) (hj : j < n ∧ n ≤ 16) : zRO E yX6_at wsX6_at 1 21 [.ref (o), .int (nI (i)), .int (nI (j))] (fun H => zMz E o za fs z H) (some (.int (nI (10 + 17 * i + 1 + j)))) := by
  refine zRO.ofI (maxL := 3) rfl (Nat.le_of_ble_eq_true rfl) (fun p e s m args below meth c H Q hF hP hret ls hl => ?_)
  have S : CallFix p m c cX6_at 3 s args wsX6_at RX6 := hF.1
  have hG := hF.2
  obtain ⟨hx, hb, hml, hown, hts⟩ := id S
  obtain ⟨h1, h2⟩ := hP
  have hl : lv_has ls 3 [(0, .ref (o)), (1, .int (nI (i))), (2, .int (nI (j)))] := hl
  refine lv_bipush (v := nI (10)) hx hb dX6_at_0 (by decide) ?_
  refine lv_bipush (v := nI (17)) hx hb dX6_at_2 (by decide) ?_
  refine lv_iload_n hx hb dX6_at_4 rfl (lv_at hl 1 rfl) ?_
  refine z_imul hx hb dX6_at_5 ?_
  refine z_iadd hx hb dX6_at_6 ?_
  refine lv_iconst (v := nI (1)) hx hb dX6_at_7 (by decide) ?_
  refine z_iadd hx hb dX6_at_8 ?_
  refine lv_iload_n hx hb dX6_at_9 rfl (lv_at hl 2 rfl) ?_
  refine lv_aload_n hx hb dX6_at_10 rfl (lv_at hl 0 rfl) ?_
  refine lv_iload_n hx hb dX6_at_11 rfl (lv_at hl 1 rfl) ?_
  refine z_roV (As := [.int (nI (i))]) (rest := [.int (nI (j)), .int (nI ((10 + (17 * i)) + 1))]) (q := (RX6, TX6, 11)) S hG (c_X6_slots E hi hs) 1 gX6_at_X6_slots rfl kX6_slots ⟨Nat.le_of_ble_eq_true rfl, Nat.le_of_ble_eq_true rfl⟩ ⟨Nat.zero_le _, Nat.zero_le _⟩ (⟨h1, h2⟩) rfl h1 rfl hl.1 rfl rfl (Nat.le_of_ble_eq_true rfl) dX6_at_12 ?_
  refine z_irem hx hb dX6_at_15 ⟨by omega, by omega, by omega⟩ ?_
  refine z_top (y := nI (j)) (by rw [Nat.mod_eq_of_lt hj.1]) ?_
  refine z_iadd hx hb dX6_at_16 ?_
  exact hret _ _ _ dX6_at_17 (rfl)

set_option maxHeartbeats 4000000 in
set_option maxRecDepth 100000 in
theorem c_X6_at_m (E : zEnv) {o za : Nat} {fs : List Value} {z : Nat → Int32} {i n j : Nat} (hi : i < 6) (hs : z (10 + 17 * i) = nI n) (hj : j < 100 ∧ 0 < n ∧ n ≤ 16) : zRO E yX6_at wsX6_at 1 21 [.ref (o), .int (nI (i)), .int (nI (j))] (fun H => zMz E o za fs z H) (some (.int (nI (10 + 17 * i + 1 + j % n)))) := by
  refine zRO.ofI (maxL := 3) rfl (Nat.le_of_ble_eq_true rfl) (fun p e s m args below meth c H Q hF hP hret ls hl => ?_)
  have S : CallFix p m c cX6_at 3 s args wsX6_at RX6 := hF.1
  have hG := hF.2
  obtain ⟨hx, hb, hml, hown, hts⟩ := id S
  obtain ⟨h1, h2⟩ := hP
  have hl : lv_has ls 3 [(0, .ref (o)), (1, .int (nI (i))), (2, .int (nI (j)))] := hl
  refine lv_bipush (v := nI (10)) hx hb dX6_at_0 (by decide) ?_
  refine lv_bipush (v := nI (17)) hx hb dX6_at_2 (by decide) ?_
  refine lv_iload_n hx hb dX6_at_4 rfl (lv_at hl 1 rfl) ?_
  refine z_imul hx hb dX6_at_5 ?_
  refine z_iadd hx hb dX6_at_6 ?_
  refine lv_iconst (v := nI (1)) hx hb dX6_at_7 (by decide) ?_
  refine z_iadd hx hb dX6_at_8 ?_
  refine lv_iload_n hx hb dX6_at_9 rfl (lv_at hl 2 rfl) ?_
  refine lv_aload_n hx hb dX6_at_10 rfl (lv_at hl 0 rfl) ?_
  refine lv_iload_n hx hb dX6_at_11 rfl (lv_at hl 1 rfl) ?_
  refine z_roV (As := [.int (nI (i))]) (rest := [.int (nI (j)), .int (nI ((10 + (17 * i)) + 1))]) (q := (RX6, TX6, 11)) S hG (c_X6_slots E hi hs) 1 gX6_at_X6_slots rfl kX6_slots ⟨Nat.le_of_ble_eq_true rfl, Nat.le_of_ble_eq_true rfl⟩ ⟨Nat.zero_le _, Nat.zero_le _⟩ (⟨h1, h2⟩) rfl h1 rfl hl.1 rfl rfl (Nat.le_of_ble_eq_true rfl) dX6_at_12 ?_
  refine z_irem hx hb dX6_at_15 ⟨by omega, by omega, by omega⟩ ?_
  refine z_iadd hx hb dX6_at_16 ?_
  exact hret _ _ _ dX6_at_17 (rfl)

set_option maxHeartbeats 4000000 in
set_option maxRecDepth 100000 in
theorem c_X6_isBracelet_0 (E : zEnv) {o za : Nat} {fs : List Value} {z : Nat → Int32} {sz : Nat → Nat} {x : Int32} (hz : ∀ t, t < 6 → z (10 + 17 * t) = nI (sz t)) (hs16 : ∀ t, t < 6 → sz t ≤ 16) (hq : zfnd sz x = none) : zRO E yX6_isBracelet wsX6_isBracelet 1 22 [.ref (o), .int (x)] (fun H => zMz E o za fs z H) (some (.int (nI 0))) := by
  refine zRO.ofZ (maxL := 2) rfl (Nat.le_of_ble_eq_true rfl) (fun p e s m args below meth c H Q hF hP hret ls hl => ?_)
  have S : CallFix p m c cX6_isBracelet 2 s args wsX6_isBracelet RX6 := hF.1
  have hG := hF.2
  obtain ⟨hx, hb, hml, hown, hts⟩ := id S
  obtain ⟨h1, h2⟩ := hP
  have hl : lv_has ls 2 [(0, .ref (o)), (1, .int (x))] := hl
  refine lv_iload_n hx hb dX6_isBracelet_0 rfl (lv_at hl 1 rfl) ?_
  refine lv_iconst (v := nI (0)) hx hb dX6_isBracelet_1 (by decide) ?_
  refine lv_iconst (v := nI (5)) hx hb dX6_isBracelet_2 (by decide) ?_
  refine z_roSX (As := [.int (x), .int (nI (0)), .int (nI (5))]) (rest := []) S hG (c_X6_in E) 3 gX6_isBracelet_X6_in rfl kX6_in.2 ⟨Nat.le_of_ble_eq_true rfl, Nat.le_of_ble_eq_true rfl⟩ ⟨Nat.zero_le _, Nat.zero_le _⟩ (trivial) rfl hl.1 rfl rfl (Nat.le_of_ble_eq_true rfl) dX6_isBracelet_3 ?_
  refine z_beq (tgt := 21) hx hb dX6_isBracelet_6 (by decide) (fun c_1 => ?_) (fun c_1 => ?_)
  · refine lv_iconst (v := nI (0)) hx hb dX6_isBracelet_21 (by decide) ?_
    exact hret _ _ _ dX6_isBracelet_22 (Or.inl rfl) (rfl)
  · obtain ⟨i, hi, rfl, hsi⟩ : ∃ i, i < 6 ∧ x = nI i ∧ sz i = 0 := (zfnd_none hq).elim (fun w => by rw [c_1] at w; cases w) id
    skip
    · refine lv_aload_n hx hb dX6_isBracelet_9 rfl (lv_at hl 0 rfl) ?_
      refine lv_iload_n hx hb dX6_isBracelet_10 rfl (lv_at hl 1 rfl) ?_
      refine z_roV (As := [.int (nI (i))]) (rest := []) (q := (RX6, TX6, 11)) S hG (c_X6_slots E hi (hz _ hi)) 1 gX6_isBracelet_X6_slots rfl kX6_slots ⟨Nat.le_of_ble_eq_true rfl, Nat.le_of_ble_eq_true rfl⟩ ⟨Nat.zero_le _, Nat.zero_le _⟩ (⟨h1, h2⟩) rfl h1 rfl hl.1 rfl rfl (Nat.le_of_ble_eq_true rfl) dX6_isBracelet_11 ?_
      refine z_fle (tgt := 21) hx hb dX6_isBracelet_14 (by decide) (by have h9 := hs16 i hi; omega) (fun c_2 => ?_) (fun c_2 => by exfalso; omega)
      refine lv_iconst (v := nI (0)) hx hb dX6_isBracelet_21 (by decide) ?_
      exact hret _ _ _ dX6_isBracelet_22 (Or.inl rfl) (rfl)

set_option maxHeartbeats 4000000 in
set_option maxRecDepth 100000 in
theorem c_X6_isBracelet_1 (E : zEnv) {o za : Nat} {fs : List Value} {z : Nat → Int32} {i n : Nat} (hi : i < 6) (hn : 0 < n ∧ n ≤ 16) (hs : z (10 + 17 * i) = nI n) : zRO E yX6_isBracelet wsX6_isBracelet 1 22 [.ref (o), .int (nI (i))] (fun H => zMz E o za fs z H) (some (.int (nI 1))) := by
  refine zRO.ofZ (maxL := 2) rfl (Nat.le_of_ble_eq_true rfl) (fun p e s m args below meth c H Q hF hP hret ls hl => ?_)
  have S : CallFix p m c cX6_isBracelet 2 s args wsX6_isBracelet RX6 := hF.1
  have hG := hF.2
  obtain ⟨hx, hb, hml, hown, hts⟩ := id S
  obtain ⟨h1, h2⟩ := hP
  have hl : lv_has ls 2 [(0, .ref (o)), (1, .int (nI (i)))] := hl
  refine lv_iload_n hx hb dX6_isBracelet_0 rfl (lv_at hl 1 rfl) ?_
  refine lv_iconst (v := nI (0)) hx hb dX6_isBracelet_1 (by decide) ?_
  refine lv_iconst (v := nI (5)) hx hb dX6_isBracelet_2 (by decide) ?_
  refine z_roSX (As := [.int (nI (i)), .int (nI (0)), .int (nI (5))]) (rest := []) S hG (c_X6_in E) 3 gX6_isBracelet_X6_in rfl kX6_in.2 ⟨Nat.le_of_ble_eq_true rfl, Nat.le_of_ble_eq_true rfl⟩ ⟨Nat.zero_le _, Nat.zero_le _⟩ (trivial) rfl hl.1 rfl rfl (Nat.le_of_ble_eq_true rfl) dX6_isBracelet_3 ?_
  refine z_beq (tgt := 21) hx hb dX6_isBracelet_6 (by decide) (fun c_1 => by exfalso; rw [zin_y (by omega) (by omega) (by decide)] at c_1; cases c_1) (fun c_1 => ?_)
  refine lv_aload_n hx hb dX6_isBracelet_9 rfl (lv_at hl 0 rfl) ?_
  refine lv_iload_n hx hb dX6_isBracelet_10 rfl (lv_at hl 1 rfl) ?_
  refine z_roV (As := [.int (nI (i))]) (rest := []) (q := (RX6, TX6, 11)) S hG (c_X6_slots E hi hs) 1 gX6_isBracelet_X6_slots rfl kX6_slots ⟨Nat.le_of_ble_eq_true rfl, Nat.le_of_ble_eq_true rfl⟩ ⟨Nat.zero_le _, Nat.zero_le _⟩ (⟨h1, h2⟩) rfl h1 rfl hl.1 rfl rfl (Nat.le_of_ble_eq_true rfl) dX6_isBracelet_11 ?_
  refine z_fle (tgt := 21) hx hb dX6_isBracelet_14 (by decide) (by omega) (fun c_2 => by exfalso; omega) (fun c_2 => ?_)
  refine lv_iconst (v := nI (1)) hx hb dX6_isBracelet_17 (by decide) ?_
  refine lv_goto (tgt := 22) hx hb dX6_isBracelet_18 (by decide) ?_
  exact hret _ _ _ dX6_isBracelet_22 (Or.inr rfl) (rfl)

set_option maxHeartbeats 4000000 in
set_option maxRecDepth 100000 in
theorem c_X6_isSlot_0 (E : zEnv) {o za : Nat} {fs : List Value} {z : Nat → Int32} {sz : Nat → Nat} {x : Int32} {y : Int32} (hz : ∀ t, t < 6 → z (10 + 17 * t) = nI (sz t)) (hs16 : ∀ t, t < 6 → sz t ≤ 16) (hq : zfnd sz x = none) : zRO E yX6_isSlot wsX6_isSlot 2 43 [.ref (o), .int (x), .int (y)] (fun H => zMz E o za fs z H) (some (.int (nI 0))) := by
  refine zRO.ofZ (maxL := 3) rfl (Nat.le_of_ble_eq_true rfl) (fun p e s m args below meth c H Q hF hP hret ls hl => ?_)
  have S : CallFix p m c cX6_isSlot 3 s args wsX6_isSlot RX6 := hF.1
  have hG := hF.2
  obtain ⟨hx, hb, hml, hown, hts⟩ := id S
  obtain ⟨h1, h2⟩ := hP
  have hl : lv_has ls 3 [(0, .ref (o)), (1, .int (x)), (2, .int (y))] := hl
  refine lv_aload_n hx hb dX6_isSlot_0 rfl (lv_at hl 0 rfl) ?_
  refine lv_iload_n hx hb dX6_isSlot_1 rfl (lv_at hl 1 rfl) ?_
  refine z_roV (As := [.int (x)]) (rest := []) (q := (RX6, TX6, 11)) S hG (c_X6_isBracelet_0 E hz hs16 hq) 1 gX6_isSlot_X6_isBracelet rfl kX6_isBracelet ⟨Nat.le_of_ble_eq_true rfl, Nat.le_of_ble_eq_true rfl⟩ ⟨Nat.zero_le _, Nat.zero_le _⟩ (⟨h1, h2⟩) rfl h1 rfl hl.1 rfl rfl (Nat.le_of_ble_eq_true rfl) dX6_isSlot_2 ?_
  refine z_feq (tgt := 27) hx hb dX6_isSlot_5 (by decide) (by omega) (fun c_1 => ?_) (fun c_1 => by exfalso; omega)
  refine lv_iconst (v := nI (0)) hx hb dX6_isSlot_27 (by decide) ?_
  exact hret _ _ _ dX6_isSlot_28 (Or.inl rfl) (rfl)

set_option maxHeartbeats 4000000 in
set_option maxRecDepth 100000 in
theorem c_X6_isSlot_1 (E : zEnv) {o za : Nat} {fs : List Value} {z : Nat → Int32} {i n : Nat} {y : Int32} (hi : i < 6) (hn : 0 < n ∧ n ≤ 16) (hs : z (10 + 17 * i) = nI n) : zRO E yX6_isSlot wsX6_isSlot 2 43 [.ref (o), .int (nI (i)), .int (y)] (fun H => zMz E o za fs z H) (some (.int (zb (zin y 0 (n - 1))))) := by
  refine zRO.ofZ (maxL := 3) rfl (Nat.le_of_ble_eq_true rfl) (fun p e s m args below meth c H Q hF hP hret ls hl => ?_)
  have S : CallFix p m c cX6_isSlot 3 s args wsX6_isSlot RX6 := hF.1
  have hG := hF.2
  obtain ⟨hx, hb, hml, hown, hts⟩ := id S
  obtain ⟨h1, h2⟩ := hP
  have hl : lv_has ls 3 [(0, .ref (o)), (1, .int (nI (i))), (2, .int (y))] := hl
  refine lv_aload_n hx hb dX6_isSlot_0 rfl (lv_at hl 0 rfl) ?_
  refine lv_iload_n hx hb dX6_isSlot_1 rfl (lv_at hl 1 rfl) ?_
  refine z_roV (As := [.int (nI (i))]) (rest := []) (q := (RX6, TX6, 11)) S hG (c_X6_isBracelet_1 E hi hn hs) 1 gX6_isSlot_X6_isBracelet rfl kX6_isBracelet ⟨Nat.le_of_ble_eq_true rfl, Nat.le_of_ble_eq_true rfl⟩ ⟨Nat.zero_le _, Nat.zero_le _⟩ (⟨h1, h2⟩) rfl h1 rfl hl.1 rfl rfl (Nat.le_of_ble_eq_true rfl) dX6_isSlot_2 ?_
  refine z_feq (tgt := 27) hx hb dX6_isSlot_5 (by decide) (by omega) (fun c_1 => by exfalso; omega) (fun c_1 => ?_)
  refine lv_iload_n hx hb dX6_isSlot_8 rfl (lv_at hl 2 rfl) ?_
  refine lv_iconst (v := nI (0)) hx hb dX6_isSlot_9 (by decide) ?_
  refine lv_aload_n hx hb dX6_isSlot_10 rfl (lv_at hl 0 rfl) ?_
  refine lv_iload_n hx hb dX6_isSlot_11 rfl (lv_at hl 1 rfl) ?_
  refine z_roV (As := [.int (nI (i))]) (rest := [.int (nI (0)), .int (y)]) (q := (RX6, TX6, 11)) S hG (c_X6_slots E hi hs) 1 gX6_isSlot_X6_slots rfl kX6_slots ⟨Nat.le_of_ble_eq_true rfl, Nat.le_of_ble_eq_true rfl⟩ ⟨Nat.zero_le _, Nat.zero_le _⟩ (⟨h1, h2⟩) rfl h1 rfl hl.1 rfl rfl (Nat.le_of_ble_eq_true rfl) dX6_isSlot_12 ?_
  refine lv_iconst (v := nI (1)) hx hb dX6_isSlot_15 (by decide) ?_
  refine z_isub hx hb dX6_isSlot_16 (by omega) ?_
  refine z_roSX (As := [.int (y), .int (nI (0)), .int (nI (n - 1))]) (rest := []) S hG (c_X6_in E) 3 gX6_isSlot_X6_in rfl kX6_in.2 ⟨Nat.le_of_ble_eq_true rfl, Nat.le_of_ble_eq_true rfl⟩ ⟨Nat.zero_le _, Nat.zero_le _⟩ (trivial) rfl hl.1 rfl rfl (Nat.le_of_ble_eq_true rfl) dX6_isSlot_17 ?_
  refine z_beq (tgt := 27) hx hb dX6_isSlot_20 (by decide) (fun c_2 => ?_) (fun c_2 => ?_)
  · refine lv_iconst (v := nI (0)) hx hb dX6_isSlot_27 (by decide) ?_
    exact hret _ _ _ dX6_isSlot_28 (by first | exact Or.inl rfl | exact Or.inr rfl) (by first | exact zrf (c_2))
  · refine lv_iconst (v := nI (1)) hx hb dX6_isSlot_23 (by decide) ?_
    refine lv_goto (tgt := 28) hx hb dX6_isSlot_24 (by decide) ?_
    exact hret _ _ _ dX6_isSlot_28 (by first | exact Or.inl rfl | exact Or.inr rfl) (zrt (c_2))

set_option maxHeartbeats 4000000 in
set_option maxRecDepth 100000 in
theorem c_X6_many (E : zEnv) {o za : Nat} {fs : List Value} {z : Nat → Int32} {sz : Nat → Nat} (hz : ∀ t, t < 6 → z (10 + 17 * t) = nI (sz t)) (hs16 : ∀ t, t < 6 → sz t ≤ 16) : zRO E yX6_many wsX6_many 1 21 [.ref (o)] (fun H => zMz E o za fs z H) (some (.int (nI (zct (fun b => decide (0 < sz b)) 6)))) := by
  refine zRO.ofI (maxL := 3) rfl (Nat.le_of_ble_eq_true rfl) (fun p e s m args below meth c H Q hF hP hret ls hl => ?_)
  have S : CallFix p m c cX6_many 3 s args wsX6_many RX6 := hF.1
  have hG := hF.2
  obtain ⟨hx, hb, hml, hown, hts⟩ := id S
  obtain ⟨h1, h2⟩ := hP
  have hct := zct_le (fun b => decide (0 < sz b))
  have hl : lv_has ls 3 [(0, .ref (o))] := hl
  refine lv_iconst (v := nI (0)) hx hb dX6_many_0 (by decide) ?_
  refine lv_istore_n (lv' := [(1, .int (nI (0))), (0, .ref (o))]) hx hb dX6_many_1 rfl hl (by decide) rfl (fun ls hl => ?_)
  refine lv_iconst (v := nI (0)) hx hb dX6_many_2 (by decide) ?_
  refine lv_istore_n (lv' := [(2, .int (nI (0))), (1, .int (nI (0))), (0, .ref (o))]) hx hb dX6_many_3 rfl hl (by decide) rfl (fun ls hl => ?_)
  have L4 : ∀ (dd : Nat) (i : Nat), 6 - i < dd → i ≤ 6 → ∀ (ls : Array Slot), lv_has ls 3 [(0, .ref (o)), (1, .int (nI (zct (fun b => decide (0 < sz b)) i))), (2, .int (nI (i)))] → W p (zl E) e (zRm 1 21) s m args below meth c H [] 0 0 Q (F0 m 4 ls []) := by
    intro dd
    induction dd with
    | zero => intro i hdd; exact absurd hdd (Nat.not_lt_zero _)
    | succ dd ih4 =>
      intro i hdd4 hi ls hl
      refine lv_iload_n hx hb dX6_many_4 rfl (lv_at hl 2 rfl) ?_
      refine lv_bipush (v := nI (6)) hx hb dX6_many_5 (by decide) ?_
      refine z_cge (tgt := 32) hx hb dX6_many_7 (by decide) ⟨by omega, by omega⟩ (fun c_1 => ?_) (fun c_1 => ?_)
      · refine lv_iload_n hx hb dX6_many_32 rfl (lv_at hl 1 rfl) ?_
        exact hret _ _ _ dX6_many_33 (by rw [show i = 6 by omega])
      · refine lv_iload_n hx hb dX6_many_10 rfl (lv_at hl 1 rfl) ?_
        refine lv_aload_n hx hb dX6_many_11 rfl (lv_at hl 0 rfl) ?_
        refine lv_iload_n hx hb dX6_many_12 rfl (lv_at hl 2 rfl) ?_
        refine z_roV (As := [.int (nI (i))]) (rest := [.int (nI (zct (fun b => decide (0 < sz b)) i))]) (q := (RX6, TX6, 11)) S hG (c_X6_slots E (i := i) (by omega) (hz i (by omega))) 1 gX6_many_X6_slots rfl kX6_slots ⟨Nat.le_of_ble_eq_true rfl, Nat.le_of_ble_eq_true rfl⟩ ⟨Nat.zero_le _, Nat.zero_le _⟩ (⟨h1, h2⟩) rfl h1 rfl hl.1 rfl rfl (Nat.le_of_ble_eq_true rfl) dX6_many_13 ?_
        refine z_fle (tgt := 23) hx hb dX6_many_16 (by decide) (by have h9 := hs16 i (by omega); omega) (fun c_2 => ?_) (fun c_2 => ?_)
        · refine lv_iconst (v := nI (0)) hx hb dX6_many_23 (by decide) ?_
          refine z_iadd hx hb dX6_many_24 ?_
          refine lv_istore_n (lv' := [(1, .int (nI ((zct (fun b => decide (0 < sz b)) i) + 0))), (0, .ref (o)), (2, .int (nI (i)))]) hx hb dX6_many_25 rfl hl (by decide) rfl (fun ls hl => ?_)
          refine lv_iinc (v := nI (i + 1)) (lv' := [(2, .int (nI (i + 1))), (1, .int (nI ((zct (fun b => decide (0 < sz b)) i) + 0))), (0, .ref (o))]) hx hb dX6_many_26 hl (k := 2) rfl (z_inc1 _) (by decide) rfl (fun ls hl => ?_)
          refine lv_goto (tgt := 4) hx hb dX6_many_29 (by decide) ?_
          have hl9 := lv_sub hl [2, 1, 0] (l' := [(0, .ref (o)), (1, .int (nI ((zct (fun b => decide (0 < sz b)) i) + 0))), (2, .int (nI (i + 1)))]) rfl
          have e9_1 : ((zct (fun b => decide (0 < sz b)) i) + 0) = (zct (fun b => decide (0 < sz b)) (i + 1)) := by first | exact zct_t (decide_eq_true c_2) | exact zct_f (decide_eq_false (by omega))
          have e9_2 : (i + 1) = ((i + 1)) := by omega
          exact ih4 (i + 1) (by omega) (by omega) ls (by rw [← e9_1, ← e9_2]; exact hl9)
        · refine lv_iconst (v := nI (1)) hx hb dX6_many_19 (by decide) ?_
          refine lv_goto (tgt := 24) hx hb dX6_many_20 (by decide) ?_
          refine z_iadd hx hb dX6_many_24 ?_
          refine lv_istore_n (lv' := [(1, .int (nI ((zct (fun b => decide (0 < sz b)) i) + 1))), (0, .ref (o)), (2, .int (nI (i)))]) hx hb dX6_many_25 rfl hl (by decide) rfl (fun ls hl => ?_)
          refine lv_iinc (v := nI (i + 1)) (lv' := [(2, .int (nI (i + 1))), (1, .int (nI ((zct (fun b => decide (0 < sz b)) i) + 1))), (0, .ref (o))]) hx hb dX6_many_26 hl (k := 2) rfl (z_inc1 _) (by decide) rfl (fun ls hl => ?_)
          refine lv_goto (tgt := 4) hx hb dX6_many_29 (by decide) ?_
          have hl9 := lv_sub hl [2, 1, 0] (l' := [(0, .ref (o)), (1, .int (nI ((zct (fun b => decide (0 < sz b)) i) + 1))), (2, .int (nI (i + 1)))]) rfl
          have e9_1 : ((zct (fun b => decide (0 < sz b)) i) + 1) = (zct (fun b => decide (0 < sz b)) (i + 1)) := by first | exact zct_t (decide_eq_true c_2) | exact zct_f (decide_eq_false (by omega))
          have e9_2 : (i + 1) = ((i + 1)) := by omega
          exact ih4 (i + 1) (by omega) (by omega) ls (by rw [← e9_1, ← e9_2]; exact hl9)
  exact L4 ((6 - (0)) + 1) (0) (Nat.lt_succ_self _) (by decide) ls (lv_sub hl [2, 1, 0] rfl)

set_option maxHeartbeats 4000000 in
set_option maxRecDepth 100000 in
theorem c_X6_hung (E : zEnv) {o za : Nat} {fs : List Value} {z : Nat → Int32} {i n : Nat} {f : Nat → Int32} {x : Int32} (hi : i < 6) (hn : n ≤ 16) (hr : zmr z i n f) : zRO E yX6_hung wsX6_hung 2 43 [.ref (o), .int (nI (i)), .int (x)] (fun H => zMz E o za fs z H) (some (.int (nI (zcn f x n)))) := by
  refine zRO.ofI (maxL := 5) rfl (Nat.le_of_ble_eq_true rfl) (fun p e s m args below meth c H Q hF hP hret ls hl => ?_)
  have S : CallFix p m c cX6_hung 5 s args wsX6_hung RX6 := hF.1
  have hG := hF.2
  obtain ⟨hx, hb, hml, hown, hts⟩ := id S
  obtain ⟨h1, h2⟩ := hP
  have hl : lv_has ls 5 [(0, .ref (o)), (1, .int (nI (i))), (2, .int (x))] := hl
  have hin6 : ∀ w ∈ u_ws RX6 TX6 11, w ∈ wsX6_hung := by decide +kernel
  refine lv_iconst (v := nI (0)) hx hb dX6_hung_0 (by decide) ?_
  refine lv_istore_n (lv' := [(3, .int (nI (0))), (0, .ref (o)), (1, .int (nI (i))), (2, .int (x))]) hx hb dX6_hung_1 rfl hl (by decide) rfl (fun ls hl => ?_)
  refine lv_iconst (v := nI (0)) hx hb dX6_hung_2 (by decide) ?_
  refine lv_istore (lv' := [(4, .int (nI (0))), (3, .int (nI (0))), (0, .ref (o)), (1, .int (nI (i))), (2, .int (x))]) hx hb dX6_hung_3 hl (by decide) rfl (fun ls hl => ?_)
  have L5 : ∀ (dd : Nat) (j : Nat), n - j < dd → j ≤ n → ∀ (ls : Array Slot), lv_has ls 5 [(0, .ref (o)), (1, .int (nI (i))), (2, .int (x)), (3, .int (nI (zcn f x j))), (4, .int (nI (j)))] → W p (zl E) e (zRm 2 43) s m args below meth c H [] 0 0 Q (F0 m 5 ls []) := by
    intro dd
    induction dd with
    | zero => intro j hdd; exact absurd hdd (Nat.not_lt_zero _)
    | succ dd ih5 =>
      intro j hdd5 hj ls hl
      refine lv_iload hx hb dX6_hung_5 (lv_at hl 4 rfl) ?_
      refine lv_aload_n hx hb dX6_hung_7 rfl (lv_at hl 0 rfl) ?_
      refine lv_iload_n hx hb dX6_hung_8 rfl (lv_at hl 1 rfl) ?_
      refine z_roV (As := [.int (nI (i))]) (rest := [.int (nI (j))]) (q := (RX6, TX6, 11)) S hG (c_X6_slots E hi hr.1) 1 gX6_hung_X6_slots rfl kX6_slots ⟨Nat.le_of_ble_eq_true rfl, Nat.le_of_ble_eq_true rfl⟩ ⟨Nat.zero_le _, Nat.zero_le _⟩ (⟨h1, h2⟩) rfl h1 rfl hl.1 rfl rfl (Nat.le_of_ble_eq_true rfl) dX6_hung_9 ?_
      refine z_cge (tgt := 45) hx hb dX6_hung_12 (by decide) ⟨by omega, by omega⟩ (fun c_1 => ?_) (fun c_1 => ?_)
      · refine lv_iload_n hx hb dX6_hung_45 rfl (lv_at hl 3 rfl) ?_
        exact hret _ _ _ dX6_hung_46 (by rw [show j = n by omega])
      · refine lv_iload_n hx hb dX6_hung_15 rfl (lv_at hl 3 rfl) ?_
        refine lv_aload_n hx hb dX6_hung_16 rfl (lv_at hl 0 rfl) ?_
        refine z_get (ref := RX6) (C := RX6) (T := TX6) (N := 11) hx hb hts hin6 hown hG h1 rfl 0 (by decide) (by decide +kernel) rfl rfl dX6_hung_17 ?_
        refine lv_aload_n hx hb dX6_hung_20 rfl (lv_at hl 0 rfl) ?_
        refine lv_iload_n hx hb dX6_hung_21 rfl (lv_at hl 1 rfl) ?_
        refine lv_iload hx hb dX6_hung_22 (lv_at hl 4 rfl) ?_
        refine z_roV (As := [.int (nI (i)), .int (nI (j))]) (rest := [.ref (za), .int (nI (zcn f x j))]) (q := (RX6, TX6, 11)) S hG (c_X6_at E (j := j) hi hr.1 (by omega)) 2 gX6_hung_X6_at rfl kX6_at ⟨Nat.le_of_ble_eq_true rfl, Nat.le_of_ble_eq_true rfl⟩ ⟨Nat.zero_le _, Nat.zero_le _⟩ (⟨h1, h2⟩) rfl h1 rfl hl.1 rfl rfl (Nat.le_of_ble_eq_true rfl) dX6_hung_24 ?_
        refine z_iald (j := 10 + 17 * i + 1 + j) hx hb hG h2 ⟨by omega, by omega⟩ dX6_hung_27 ?_
        refine z_top (y := (f j)) (hr.2 _ (by omega)) ?_
        refine lv_iload_n hx hb dX6_hung_28 rfl (lv_at hl 2 rfl) ?_
        refine lv_icmp_ne (tgt := 36) hx hb dX6_hung_29 (by decide) (fun c_2 => ?_) (fun c_2 => ?_)
        · refine lv_iconst (v := nI (0)) hx hb dX6_hung_36 (by decide) ?_
          refine z_iadd hx hb dX6_hung_37 ?_
          refine lv_istore_n (lv' := [(3, .int (nI ((zcn f x j) + 0))), (0, .ref (o)), (1, .int (nI (i))), (2, .int (x)), (4, .int (nI (j)))]) hx hb dX6_hung_38 rfl hl (by decide) rfl (fun ls hl => ?_)
          refine lv_iinc (v := nI (j + 1)) (lv' := [(4, .int (nI (j + 1))), (3, .int (nI ((zcn f x j) + 0))), (0, .ref (o)), (1, .int (nI (i))), (2, .int (x))]) hx hb dX6_hung_39 hl (k := 4) rfl (z_inc1 _) (by decide) rfl (fun ls hl => ?_)
          refine lv_goto (tgt := 5) hx hb dX6_hung_42 (by decide) ?_
          have hl9 := lv_sub hl [2, 3, 4, 1, 0] (l' := [(0, .ref (o)), (1, .int (nI (i))), (2, .int (x)), (3, .int (nI ((zcn f x j) + 0))), (4, .int (nI (j + 1)))]) rfl
          have e9_3 : ((zcn f x j) + 0) = (zcn f x (j + 1)) := by first | exact zct_t (decide_eq_true c_2) | exact zct_f (decide_eq_false c_2)
          have e9_4 : (j + 1) = ((j + 1)) := by omega
          exact ih5 (j + 1) (by omega) (by omega) ls (by rw [← e9_3, ← e9_4]; exact hl9)
        · refine lv_iconst (v := nI (1)) hx hb dX6_hung_32 (by decide) ?_
          refine lv_goto (tgt := 37) hx hb dX6_hung_33 (by decide) ?_
          refine z_iadd hx hb dX6_hung_37 ?_
          refine lv_istore_n (lv' := [(3, .int (nI ((zcn f x j) + 1))), (0, .ref (o)), (1, .int (nI (i))), (2, .int (x)), (4, .int (nI (j)))]) hx hb dX6_hung_38 rfl hl (by decide) rfl (fun ls hl => ?_)
          refine lv_iinc (v := nI (j + 1)) (lv' := [(4, .int (nI (j + 1))), (3, .int (nI ((zcn f x j) + 1))), (0, .ref (o)), (1, .int (nI (i))), (2, .int (x))]) hx hb dX6_hung_39 hl (k := 4) rfl (z_inc1 _) (by decide) rfl (fun ls hl => ?_)
          refine lv_goto (tgt := 5) hx hb dX6_hung_42 (by decide) ?_
          have hl9 := lv_sub hl [2, 3, 4, 1, 0] (l' := [(0, .ref (o)), (1, .int (nI (i))), (2, .int (x)), (3, .int (nI ((zcn f x j) + 1))), (4, .int (nI (j + 1)))]) rfl
          have e9_3 : ((zcn f x j) + 1) = (zcn f x (j + 1)) := by first | exact zct_t (decide_eq_true c_2) | exact zct_f (decide_eq_false c_2)
          have e9_4 : (j + 1) = ((j + 1)) := by omega
          exact ih5 (j + 1) (by omega) (by omega) ls (by rw [← e9_3, ← e9_4]; exact hl9)
  exact L5 ((n - (0)) + 1) (0) (Nat.lt_succ_self _) (Nat.zero_le _) ls (lv_sub hl [2, 3, 4, 1, 0] rfl)

set_option maxHeartbeats 4000000 in
set_option maxRecDepth 100000 in
theorem c_X6_charms (E : zEnv) {o za : Nat} {fs : List Value} {z : Nat → Int32} {i n : Nat} {f : Nat → Int32} (hi : i < 6) (hn : 0 < n ∧ n ≤ 16) (hr : zmr z i n f) : zRO E yX6_charms wsX6_charms 3 67 [.ref (o), .int (nI (i))] (fun H => zMz E o za fs z H) (some (.int (nI (n - zcn f 0 n)))) := by
  refine zRO.ofI (maxL := 2) rfl (Nat.le_of_ble_eq_true rfl) (fun p e s m args below meth c H Q hF hP hret ls hl => ?_)
  have S : CallFix p m c cX6_charms 2 s args wsX6_charms RX6 := hF.1
  have hG := hF.2
  obtain ⟨hx, hb, hml, hown, hts⟩ := id S
  obtain ⟨h1, h2⟩ := hP
  have hl : lv_has ls 2 [(0, .ref (o)), (1, .int (nI (i)))] := hl
  refine lv_aload_n hx hb dX6_charms_0 rfl (lv_at hl 0 rfl) ?_
  refine lv_iload_n hx hb dX6_charms_1 rfl (lv_at hl 1 rfl) ?_
  refine z_roV (As := [.int (nI (i))]) (rest := []) (q := (RX6, TX6, 11)) S hG (c_X6_slots E hi hr.1) 1 gX6_charms_X6_slots rfl kX6_slots ⟨Nat.le_of_ble_eq_true rfl, Nat.le_of_ble_eq_true rfl⟩ ⟨Nat.zero_le _, Nat.zero_le _⟩ (⟨h1, h2⟩) rfl h1 rfl hl.1 rfl rfl (Nat.le_of_ble_eq_true rfl) dX6_charms_2 ?_
  refine lv_aload_n hx hb dX6_charms_5 rfl (lv_at hl 0 rfl) ?_
  refine lv_iload_n hx hb dX6_charms_6 rfl (lv_at hl 1 rfl) ?_
  refine lv_iconst (v := nI (0)) hx hb dX6_charms_7 (by decide) ?_
  refine z_roV (As := [.int (nI (i)), .int (nI (0))]) (rest := [.int (nI (n))]) (q := (RX6, TX6, 11)) S hG (c_X6_hung E hi hn.2 hr) 2 gX6_charms_X6_hung rfl kX6_hung ⟨Nat.le_of_ble_eq_true rfl, Nat.le_of_ble_eq_true rfl⟩ ⟨Nat.zero_le _, Nat.zero_le _⟩ (⟨h1, h2⟩) rfl h1 rfl hl.1 rfl rfl (Nat.le_of_ble_eq_true rfl) dX6_charms_8 ?_
  refine z_isub hx hb dX6_charms_11 (zcn_le _ _ _) ?_
  exact hret _ _ _ dX6_charms_12 (rfl)

set_option maxHeartbeats 4000000 in
set_option maxRecDepth 100000 in
theorem c_X6_free (E : zEnv) {o za : Nat} {fs : List Value} {z : Nat → Int32} {sz : Nat → Nat} (hz : ∀ t, t < 6 → z (10 + 17 * t) = nI (sz t)) (hs16 : ∀ t, t < 6 → sz t ≤ 16) : zRO E yX6_free wsX6_free 1 21 [.ref (o)] (fun H => zMz E o za fs z H) (some (.int (zfi (zfd sz 6)))) := by
  refine zRO.ofI (maxL := 3) rfl (Nat.le_of_ble_eq_true rfl) (fun p e s m args below meth c H Q hF hP hret ls hl => ?_)
  have S : CallFix p m c cX6_free 3 s args wsX6_free RX6 := hF.1
  have hG := hF.2
  obtain ⟨hx, hb, hml, hown, hts⟩ := id S
  obtain ⟨h1, h2⟩ := hP
  have hl : lv_has ls 3 [(0, .ref (o))] := hl
  refine lv_bipush (v := (-6)) hx hb dX6_free_0 (by decide) ?_
  refine lv_istore_n (lv' := [(1, .int (-6)), (0, .ref (o))]) hx hb dX6_free_2 rfl hl (by decide) rfl (fun ls hl => ?_)
  refine lv_iconst (v := nI (5)) hx hb dX6_free_3 (by decide) ?_
  refine lv_istore_n (lv' := [(2, .int (nI (5))), (1, .int (-6)), (0, .ref (o))]) hx hb dX6_free_4 rfl hl (by decide) rfl (fun ls hl => ?_)
  have L5 : ∀ (dd : Nat) (j : Nat), 6 - j < dd → j ≤ 6 → ∀ (ls : Array Slot), lv_has ls 3 [(0, .ref (o)), (1, .int (zfi (zfd sz j))), (2, .int (nI (6 - j) - 1))] → W p (zl E) e (zRm 1 21) s m args below meth c H [] 0 0 Q (F0 m 5 ls []) := by
    intro dd
    induction dd with
    | zero => intro j hdd; exact absurd hdd (Nat.not_lt_zero _)
    | succ dd ih5 =>
      intro j hdd5 hj ls hl
      refine lv_iload_n hx hb dX6_free_5 rfl (lv_at hl 2 rfl) ?_
      refine lv_if_lt (tgt := 29) hx hb dX6_free_6 (by decide) (fun c_1 => ?_) (fun c_1 => ?_)
      · have hj6 : j = 6 := by
          rcases Nat.lt_or_ge j 6 with w | w
          · exfalso; rw [show nI (6 - j) - 1 = nI (5 - j) by rw [show 6 - j = (5 - j) + 1 by omega, nI_pred]] at c_1; exact nI_pos (by omega) c_1
          · omega
        refine lv_iload_n hx hb dX6_free_29 rfl (lv_at hl 1 rfl) ?_
        exact hret _ _ _ dX6_free_30 (by rw [hj6])
      · have hj6 : j < 6 := by
          rcases Nat.lt_or_ge j 6 with w | w
          · exact w
          · exfalso; rw [show 6 - j = 0 by omega] at c_1; exact c_1 (by decide)
        have e8 : nI (6 - j) - 1 = nI (5 - j) := by rw [show 6 - j = (5 - j) + 1 by omega, nI_pred]
        rw [e8] at hl
        skip
        · refine lv_aload_n hx hb dX6_free_9 rfl (lv_at hl 0 rfl) ?_
          refine lv_iload_n hx hb dX6_free_10 rfl (lv_at hl 2 rfl) ?_
          refine z_roV (As := [.int (nI (5 - j))]) (rest := []) (q := (RX6, TX6, 11)) S hG (c_X6_slots E (i := 5 - j) (by omega) (hz (5 - j) (by omega))) 1 gX6_free_X6_slots rfl kX6_slots ⟨Nat.le_of_ble_eq_true rfl, Nat.le_of_ble_eq_true rfl⟩ ⟨Nat.zero_le _, Nat.zero_le _⟩ (⟨h1, h2⟩) rfl h1 rfl hl.1 rfl rfl (Nat.le_of_ble_eq_true rfl) dX6_free_11 ?_
          refine z_fne (tgt := 21) hx hb dX6_free_14 (by decide) (by have h9 := hs16 (5 - j) (by omega); omega) (fun c_2 => ?_) (fun c_2 => ?_)
          · refine lv_iload_n hx hb dX6_free_21 rfl (lv_at hl 1 rfl) ?_
            refine lv_istore_n (lv' := [(1, .int (zfi (zfd sz j))), (0, .ref (o)), (2, .int (nI (5 - j)))]) hx hb dX6_free_22 rfl hl (by decide) rfl (fun ls hl => ?_)
            refine lv_iinc (v := (nI (6 - (j + 1)) - 1)) (lv' := [(2, .int (nI (6 - (j + 1)) - 1)), (1, .int (zfi (zfd sz j))), (0, .ref (o))]) hx hb dX6_free_23 hl (k := 2) rfl (by rw [show 6 - (j + 1) = 5 - j by omega, Int32.sub_eq_add_neg]; rfl) (by decide) rfl (fun ls hl => ?_)
            refine lv_goto (tgt := 5) hx hb dX6_free_26 (by decide) ?_
            have hl9 := lv_sub hl [2, 1, 0] (l' := [(0, .ref (o)), (1, .int (zfi (zfd sz j))), (2, .int (nI (6 - (j + 1)) - 1))]) rfl
            have e9_1 : (zfi (zfd sz j)) = (zfi (zfd sz (j + 1))) := by simp [zfd, zfi, c_2]
            exact ih5 (j + 1) (by omega) (by omega) ls (by rw [← e9_1]; exact hl9)
          · refine lv_iload_n hx hb dX6_free_17 rfl (lv_at hl 2 rfl) ?_
            refine lv_goto (tgt := 22) hx hb dX6_free_18 (by decide) ?_
            refine lv_istore_n (lv' := [(1, .int (nI (5 - j))), (0, .ref (o)), (2, .int (nI (5 - j)))]) hx hb dX6_free_22 rfl hl (by decide) rfl (fun ls hl => ?_)
            refine lv_iinc (v := (nI (6 - (j + 1)) - 1)) (lv' := [(2, .int (nI (6 - (j + 1)) - 1)), (1, .int (nI (5 - j))), (0, .ref (o))]) hx hb dX6_free_23 hl (k := 2) rfl (by rw [show 6 - (j + 1) = 5 - j by omega, Int32.sub_eq_add_neg]; rfl) (by decide) rfl (fun ls hl => ?_)
            refine lv_goto (tgt := 5) hx hb dX6_free_26 (by decide) ?_
            have hl9 := lv_sub hl [2, 1, 0] (l' := [(0, .ref (o)), (1, .int (nI (5 - j))), (2, .int (nI (6 - (j + 1)) - 1))]) rfl
            have e9_1 : (nI (5 - j)) = ((zfi (zfd sz (j + 1)))) := by simp only [zfd, if_pos c_2]; unfold zfi; rw [if_neg (by omega)]
            exact ih5 (j + 1) (by omega) (by omega) ls (by rw [← e9_1]; exact hl9)
  rw [show nI (5) = nI (6 - 0) - 1 by decide, show (-6 : Int32) = zfi (zfd sz 0) from rfl] at hl
  exact L5 ((6 - (0)) + 1) (0) (Nat.lt_succ_self _) (by decide) ls (lv_sub hl [2, 1, 0] rfl)

set_option maxHeartbeats 4000000 in
set_option maxRecDepth 100000 in
theorem c_X6_weightOf (E : zEnv) {o za : Nat} {fs : List Value} {z : Nat → Int32} {x : Nat} {wt : Nat → Int32} (hx5 : x ≤ 5) (hw : ∀ t, 1 ≤ t → t ≤ 5 → z (5 + t - 1) = wt t) : zRO E yX6_weightOf wsX6_weightOf 0 0 [.ref (o), .int (nI (x))] (fun H => zMz E o za fs z H) (some (.int (if x = 0 then 0 else wt x))) := by
  refine zRO.ofI (maxL := 2) rfl (Nat.le_of_ble_eq_true rfl) (fun p e s m args below meth c H Q hF hP hret ls hl => ?_)
  have S : CallFix p m c cX6_weightOf 2 s args wsX6_weightOf RX6 := hF.1
  have hG := hF.2
  obtain ⟨hx, hb, hml, hown, hts⟩ := id S
  obtain ⟨h1, h2⟩ := hP
  have hl : lv_has ls 2 [(0, .ref (o)), (1, .int (nI (x)))] := hl
  have hin6 : ∀ w ∈ u_ws RX6 TX6 11, w ∈ wsX6_weightOf := by decide +kernel
  refine lv_iload_n hx hb dX6_weightOf_0 rfl (lv_at hl 1 rfl) ?_
  refine z_fne (tgt := 8) hx hb dX6_weightOf_1 (by decide) (by omega) (fun c_1 => ?_) (fun c_1 => ?_)
  · refine lv_aload_n hx hb dX6_weightOf_8 rfl (lv_at hl 0 rfl) ?_
    refine z_get (ref := RX6) (C := RX6) (T := TX6) (N := 11) hx hb hts hin6 hown hG h1 rfl 0 (by decide) (by decide +kernel) rfl rfl dX6_weightOf_9 ?_
    refine lv_iconst (v := nI (5)) hx hb dX6_weightOf_12 (by decide) ?_
    refine lv_iload_n hx hb dX6_weightOf_13 rfl (lv_at hl 1 rfl) ?_
    refine z_iadd hx hb dX6_weightOf_14 ?_
    refine lv_iconst (v := nI (1)) hx hb dX6_weightOf_15 (by decide) ?_
    refine z_isub hx hb dX6_weightOf_16 (by omega) ?_
    refine z_iald (j := (5 + x) - 1) hx hb hG h2 ⟨by omega, by omega⟩ dX6_weightOf_17 ?_
    exact hret _ _ _ dX6_weightOf_18 (by rw [if_neg c_1, hw x (by omega) hx5])
  · refine lv_iconst (v := nI (0)) hx hb dX6_weightOf_4 (by decide) ?_
    refine lv_goto (tgt := 18) hx hb dX6_weightOf_5 (by decide) ?_
    exact hret _ _ _ dX6_weightOf_18 (by rw [if_pos c_1]; rfl)

set_option maxHeartbeats 4000000 in
set_option maxRecDepth 100000 in
theorem c_X6_quarterOf (E : zEnv) {o za : Nat} {fs : List Value} {z : Nat → Int32} {i n : Nat} {f : Nat → Int32} {q : Nat} {wt : Nat → Int32} (hi : i < 6) (hn : 0 < n ∧ n ≤ 16) (hr : zmr z i n f) (h4 : n % 4 = 0) (hq4 : q < 4) (hk : ∀ s, s < n → zk (f s)) (hw : ∀ t, 1 ≤ t → t ≤ 5 → z (5 + t - 1) = wt t) : zRO E yX6_quarterOf wsX6_quarterOf 2 43 [.ref (o), .int (nI (i)), .int (nI (q))] (fun H => zMz E o za fs z H) (some (.int (zqw wt n f q))) := by
  refine zRO.ofI (maxL := 6) rfl (Nat.le_of_ble_eq_true rfl) (fun p e s m args below meth c H Q hF hP hret ls hl => ?_)
  have S : CallFix p m c cX6_quarterOf 6 s args wsX6_quarterOf RX6 := hF.1
  have hG := hF.2
  obtain ⟨hx, hb, hml, hown, hts⟩ := id S
  obtain ⟨h1, h2⟩ := hP
  have hl : lv_has ls 6 [(0, .ref (o)), (1, .int (nI (i))), (2, .int (nI (q)))] := hl
  have hin6 : ∀ w ∈ u_ws RX6 TX6 11, w ∈ wsX6_quarterOf := by decide +kernel
  refine lv_aload_n hx hb dX6_quarterOf_0 rfl (lv_at hl 0 rfl) ?_
  refine lv_iload_n hx hb dX6_quarterOf_1 rfl (lv_at hl 1 rfl) ?_
  refine z_roV (As := [.int (nI (i))]) (rest := []) (q := (RX6, TX6, 11)) S hG (c_X6_slots E hi hr.1) 1 gX6_quarterOf_X6_slots rfl kX6_slots ⟨Nat.le_of_ble_eq_true rfl, Nat.le_of_ble_eq_true rfl⟩ ⟨Nat.zero_le _, Nat.zero_le _⟩ (⟨h1, h2⟩) rfl h1 rfl hl.1 rfl rfl (Nat.le_of_ble_eq_true rfl) dX6_quarterOf_2 ?_
  refine lv_iconst (v := nI (4)) hx hb dX6_quarterOf_5 (by decide) ?_
  refine z_idiv hx hb dX6_quarterOf_6 ⟨by omega, by omega, by omega⟩ ?_
  refine lv_istore_n (lv' := [(3, .int (nI (n / 4))), (0, .ref (o)), (1, .int (nI (i))), (2, .int (nI (q)))]) hx hb dX6_quarterOf_7 rfl hl (by decide) rfl (fun ls hl => ?_)
  refine lv_iconst (v := nI (0)) hx hb dX6_quarterOf_8 (by decide) ?_
  refine lv_istore (lv' := [(4, .int (nI (0))), (3, .int (nI (n / 4))), (0, .ref (o)), (1, .int (nI (i))), (2, .int (nI (q)))]) hx hb dX6_quarterOf_9 hl (by decide) rfl (fun ls hl => ?_)
  refine lv_iload_n hx hb dX6_quarterOf_11 rfl (lv_at hl 4 rfl) ?_
  refine lv_iload_n hx hb dX6_quarterOf_12 rfl (lv_at hl 1 rfl) ?_
  refine z_imul hx hb dX6_quarterOf_13 ?_
  refine lv_istore (lv' := [(5, .int (nI (q * (n / 4)))), (4, .int (nI (0))), (3, .int (nI (n / 4))), (0, .ref (o)), (1, .int (nI (i))), (2, .int (nI (q)))]) hx hb dX6_quarterOf_14 hl (by decide) rfl (fun ls hl => ?_)
  have L16 : ∀ (dd : Nat) (j : Nat), n / 4 - j < dd → j ≤ n / 4 → ∀ (ls : Array Slot), lv_has ls 6 [(0, .ref (o)), (1, .int (nI (i))), (2, .int (nI (q))), (3, .int (nI (n / 4))), (4, .int (zqs wt f (q * (n / 4)) j)), (5, .int (nI (q * (n / 4) + j)))] → W p (zl E) e (zRm 2 43) s m args below meth c H [] 0 0 Q (F0 m 16 ls []) := by
    intro dd
    induction dd with
    | zero => intro j hdd; exact absurd hdd (Nat.not_lt_zero _)
    | succ dd ih16 =>
      intro j hdd16 hj ls hl
      have hqa : (q + 1) * (n / 4) = q * (n / 4) + n / 4 := Nat.succ_mul _ _
      have hqb : q * (n / 4) ≤ 3 * (n / 4) := Nat.mul_le_mul_right _ (by omega)
      refine lv_iload hx hb dX6_quarterOf_16 (lv_at hl 5 rfl) ?_
      refine lv_iload_n hx hb dX6_quarterOf_18 rfl (lv_at hl 2 rfl) ?_
      refine lv_iconst (v := nI (1)) hx hb dX6_quarterOf_19 (by decide) ?_
      refine z_iadd hx hb dX6_quarterOf_20 ?_
      refine lv_iload_n hx hb dX6_quarterOf_21 rfl (lv_at hl 3 rfl) ?_
      refine z_imul hx hb dX6_quarterOf_22 ?_
      refine z_cge (tgt := 53) hx hb dX6_quarterOf_23 (by decide) ⟨by omega, by rw [hqa]; omega⟩ (fun c_1 => ?_) (fun c_1 => ?_)
      · refine lv_iload hx hb dX6_quarterOf_53 (lv_at hl 4 rfl) ?_
        exact hret _ _ _ dX6_quarterOf_55 (by rw [show j = n / 4 by rw [hqa] at *; omega]; exact zsi (zqw_4 h4))
      · refine lv_iload hx hb dX6_quarterOf_26 (lv_at hl 4 rfl) ?_
        refine lv_aload_n hx hb dX6_quarterOf_28 rfl (lv_at hl 0 rfl) ?_
        refine lv_aload_n hx hb dX6_quarterOf_29 rfl (lv_at hl 0 rfl) ?_
        refine z_get (ref := RX6) (C := RX6) (T := TX6) (N := 11) hx hb hts hin6 hown hG h1 rfl 0 (by decide) (by decide +kernel) rfl rfl dX6_quarterOf_30 ?_
        refine lv_aload_n hx hb dX6_quarterOf_33 rfl (lv_at hl 0 rfl) ?_
        refine lv_iload_n hx hb dX6_quarterOf_34 rfl (lv_at hl 1 rfl) ?_
        refine lv_iload hx hb dX6_quarterOf_35 (lv_at hl 5 rfl) ?_
        refine z_roV (As := [.int (nI (i)), .int (nI (q * (n / 4) + j))]) (rest := [.ref (za), .ref (o), .int (zqs wt f (q * (n / 4)) j)]) (q := (RX6, TX6, 11)) S hG (c_X6_at E (j := q * (n / 4) + j) hi hr.1 (by omega)) 2 gX6_quarterOf_X6_at rfl kX6_at ⟨Nat.le_of_ble_eq_true rfl, Nat.le_of_ble_eq_true rfl⟩ ⟨Nat.zero_le _, Nat.zero_le _⟩ (⟨h1, h2⟩) rfl h1 rfl hl.1 rfl rfl (Nat.le_of_ble_eq_true rfl) dX6_quarterOf_37 ?_
        refine z_iald (j := 10 + 17 * i + 1 + (q * (n / 4) + j)) hx hb hG h2 ⟨by omega, by omega⟩ dX6_quarterOf_40 ?_
        refine z_top (y := (f (q * (n / 4) + j))) (hr.2 _ (by omega)) ?_
        obtain ⟨x, hx5, hxe⟩ := hk (q * (n / 4) + j) (by omega)
        · refine z_top hxe ?_
          refine z_roV (As := [.int (nI (x))]) (rest := [.int (zqs wt f (q * (n / 4)) j)]) (q := (RX6, TX6, 11)) S hG (c_X6_weightOf E hx5 hw) 1 gX6_quarterOf_X6_weightOf rfl kX6_weightOf ⟨Nat.le_of_ble_eq_true rfl, Nat.le_of_ble_eq_true rfl⟩ ⟨Nat.zero_le _, Nat.zero_le _⟩ (⟨h1, h2⟩) rfl h1 rfl hl.1 rfl rfl (Nat.le_of_ble_eq_true rfl) dX6_quarterOf_41 ?_
          refine z_top (y := (zw wt f (q * (n / 4) + j))) ((zw_x hx5 hxe).symm) ?_
          refine lv_iadd hx hb dX6_quarterOf_44 ?_
          refine lv_istore (lv' := [(4, .int ((zqs wt f (q * (n / 4)) j) + (zw wt f (q * (n / 4) + j)))), (0, .ref (o)), (1, .int (nI (i))), (2, .int (nI (q))), (3, .int (nI (n / 4))), (5, .int (nI (q * (n / 4) + j)))]) hx hb dX6_quarterOf_45 hl (by decide) rfl (fun ls hl => ?_)
          refine lv_iinc (v := nI (q * (n / 4) + j + 1)) (lv' := [(5, .int (nI (q * (n / 4) + j + 1))), (4, .int ((zqs wt f (q * (n / 4)) j) + (zw wt f (q * (n / 4) + j)))), (0, .ref (o)), (1, .int (nI (i))), (2, .int (nI (q))), (3, .int (nI (n / 4)))]) hx hb dX6_quarterOf_47 hl (k := 5) rfl (z_inc1 _) (by decide) rfl (fun ls hl => ?_)
          refine lv_goto (tgt := 16) hx hb dX6_quarterOf_50 (by decide) ?_
          have hl9 := lv_sub hl [2, 3, 4, 5, 1, 0] (l' := [(0, .ref (o)), (1, .int (nI (i))), (2, .int (nI (q))), (3, .int (nI (n / 4))), (4, .int ((zqs wt f (q * (n / 4)) j) + (zw wt f (q * (n / 4) + j)))), (5, .int (nI (q * (n / 4) + j + 1)))]) rfl
          have e9_4 : ((zqs wt f (q * (n / 4)) j) + (zw wt f (q * (n / 4) + j))) = (zqs wt f (q * (n / 4)) (j + 1)) := rfl
          have e9_5 : (q * (n / 4) + j + 1) = (q * (n / 4) + (j + 1)) := Nat.add_assoc _ _ _
          exact ih16 (j + 1) (by omega) (by omega) ls (by rw [← e9_4, ← e9_5]; exact hl9)
  exact L16 ((n / 4 - (0)) + 1) (0) (Nat.lt_succ_self _) (Nat.zero_le _) ls (lv_sub hl [3, 4, 5, 2, 1, 0] rfl)

set_option maxHeartbeats 4000000 in
set_option maxRecDepth 100000 in
theorem c_X6_lean (E : zEnv) {o za : Nat} {fs : List Value} {z : Nat → Int32} {i n : Nat} {f : Nat → Int32} {wt : Nat → Int32} (hi : i < 6) (hn : 0 < n ∧ n ≤ 16) (hr : zmr z i n f) (h4 : n % 4 = 0) (hk : ∀ s, s < n → zk (f s)) (hw : ∀ t, 1 ≤ t → t ≤ 5 → z (5 + t - 1) = wt t) : zRO E yX6_lean wsX6_lean 3 68 [.ref (o), .int (nI (i))] (fun H => zMz E o za fs z H) (some (.int (zlean wt n f))) := by
  refine zRO.ofI (maxL := 2) rfl (Nat.le_of_ble_eq_true rfl) (fun p e s m args below meth c H Q hF hP hret ls hl => ?_)
  have S : CallFix p m c cX6_lean 2 s args wsX6_lean RX6 := hF.1
  have hG := hF.2
  obtain ⟨hx, hb, hml, hown, hts⟩ := id S
  obtain ⟨h1, h2⟩ := hP
  have hl : lv_has ls 2 [(0, .ref (o)), (1, .int (nI (i)))] := hl
  refine lv_aload_n hx hb dX6_lean_0 rfl (lv_at hl 0 rfl) ?_
  refine lv_iload_n hx hb dX6_lean_1 rfl (lv_at hl 1 rfl) ?_
  refine lv_iconst (v := nI (0)) hx hb dX6_lean_2 (by decide) ?_
  refine z_roV (As := [.int (nI (i)), .int (nI (0))]) (rest := []) (q := (RX6, TX6, 11)) S hG (c_X6_quarterOf E (q := 0) hi hn hr h4 (by decide) hk hw) 2 gX6_lean_X6_quarterOf rfl kX6_quarterOf ⟨Nat.le_of_ble_eq_true rfl, Nat.le_of_ble_eq_true rfl⟩ ⟨Nat.zero_le _, Nat.zero_le _⟩ (⟨h1, h2⟩) rfl h1 rfl hl.1 rfl rfl (Nat.le_of_ble_eq_true rfl) dX6_lean_3 ?_
  refine lv_aload_n hx hb dX6_lean_6 rfl (lv_at hl 0 rfl) ?_
  refine lv_iload_n hx hb dX6_lean_7 rfl (lv_at hl 1 rfl) ?_
  refine lv_iconst (v := nI (2)) hx hb dX6_lean_8 (by decide) ?_
  refine z_roV (As := [.int (nI (i)), .int (nI (2))]) (rest := [.int (zqw wt n f 0)]) (q := (RX6, TX6, 11)) S hG (c_X6_quarterOf E (q := 2) hi hn hr h4 (by decide) hk hw) 2 gX6_lean_X6_quarterOf rfl kX6_quarterOf ⟨Nat.le_of_ble_eq_true rfl, Nat.le_of_ble_eq_true rfl⟩ ⟨Nat.zero_le _, Nat.zero_le _⟩ (⟨h1, h2⟩) rfl h1 rfl hl.1 rfl rfl (Nat.le_of_ble_eq_true rfl) dX6_lean_9 ?_
  refine lv_isub hx hb dX6_lean_12 ?_
  refine z_roSX (As := [.int ((zqw wt n f 0) - (zqw wt n f 2))]) (rest := []) S hG (c_X6_size E) 1 gX6_lean_X6_size rfl kX6_size.2 ⟨Nat.le_of_ble_eq_true rfl, Nat.le_of_ble_eq_true rfl⟩ ⟨Nat.zero_le _, Nat.zero_le _⟩ (trivial) rfl hl.1 rfl rfl (Nat.le_of_ble_eq_true rfl) dX6_lean_13 ?_
  refine lv_aload_n hx hb dX6_lean_16 rfl (lv_at hl 0 rfl) ?_
  refine lv_iload_n hx hb dX6_lean_17 rfl (lv_at hl 1 rfl) ?_
  refine lv_iconst (v := nI (1)) hx hb dX6_lean_18 (by decide) ?_
  refine z_roV (As := [.int (nI (i)), .int (nI (1))]) (rest := [.int (zabs (zqw wt n f 0 - zqw wt n f 2))]) (q := (RX6, TX6, 11)) S hG (c_X6_quarterOf E (q := 1) hi hn hr h4 (by decide) hk hw) 2 gX6_lean_X6_quarterOf rfl kX6_quarterOf ⟨Nat.le_of_ble_eq_true rfl, Nat.le_of_ble_eq_true rfl⟩ ⟨Nat.zero_le _, Nat.zero_le _⟩ (⟨h1, h2⟩) rfl h1 rfl hl.1 rfl rfl (Nat.le_of_ble_eq_true rfl) dX6_lean_19 ?_
  refine lv_aload_n hx hb dX6_lean_22 rfl (lv_at hl 0 rfl) ?_
  refine lv_iload_n hx hb dX6_lean_23 rfl (lv_at hl 1 rfl) ?_
  refine lv_iconst (v := nI (3)) hx hb dX6_lean_24 (by decide) ?_
  refine z_roV (As := [.int (nI (i)), .int (nI (3))]) (rest := [.int (zqw wt n f 1), .int (zabs (zqw wt n f 0 - zqw wt n f 2))]) (q := (RX6, TX6, 11)) S hG (c_X6_quarterOf E (q := 3) hi hn hr h4 (by decide) hk hw) 2 gX6_lean_X6_quarterOf rfl kX6_quarterOf ⟨Nat.le_of_ble_eq_true rfl, Nat.le_of_ble_eq_true rfl⟩ ⟨Nat.zero_le _, Nat.zero_le _⟩ (⟨h1, h2⟩) rfl h1 rfl hl.1 rfl rfl (Nat.le_of_ble_eq_true rfl) dX6_lean_25 ?_
  refine lv_isub hx hb dX6_lean_28 ?_
  refine z_roSX (As := [.int ((zqw wt n f 1) - (zqw wt n f 3))]) (rest := [.int (zabs (zqw wt n f 0 - zqw wt n f 2))]) S hG (c_X6_size E) 1 gX6_lean_X6_size rfl kX6_size.2 ⟨Nat.le_of_ble_eq_true rfl, Nat.le_of_ble_eq_true rfl⟩ ⟨Nat.zero_le _, Nat.zero_le _⟩ (trivial) rfl hl.1 rfl rfl (Nat.le_of_ble_eq_true rfl) dX6_lean_29 ?_
  refine lv_iadd hx hb dX6_lean_32 ?_
  exact hret _ _ _ dX6_lean_33 (rfl)

set_option maxHeartbeats 4000000 in
set_option maxRecDepth 100000 in
theorem c_X6_weightAll (E : zEnv) {o za : Nat} {fs : List Value} {z : Nat → Int32} {i n : Nat} {f : Nat → Int32} {wt : Nat → Int32} (hi : i < 6) (hn : 0 < n ∧ n ≤ 16) (hr : zmr z i n f) (h4 : n % 4 = 0) (hk : ∀ s, s < n → zk (f s)) (hw : ∀ t, 1 ≤ t → t ≤ 5 → z (5 + t - 1) = wt t) : zRO E yX6_weightAll wsX6_weightAll 3 68 [.ref (o), .int (nI (i))] (fun H => zMz E o za fs z H) (some (.int (zqw wt n f 0 + zqw wt n f 1 + zqw wt n f 2 + zqw wt n f 3))) := by
  refine zRO.ofI (maxL := 2) rfl (Nat.le_of_ble_eq_true rfl) (fun p e s m args below meth c H Q hF hP hret ls hl => ?_)
  have S : CallFix p m c cX6_weightAll 2 s args wsX6_weightAll RX6 := hF.1
  have hG := hF.2
  obtain ⟨hx, hb, hml, hown, hts⟩ := id S
  obtain ⟨h1, h2⟩ := hP
  have hl : lv_has ls 2 [(0, .ref (o)), (1, .int (nI (i)))] := hl
  refine lv_aload_n hx hb dX6_weightAll_0 rfl (lv_at hl 0 rfl) ?_
  refine lv_iload_n hx hb dX6_weightAll_1 rfl (lv_at hl 1 rfl) ?_
  refine lv_iconst (v := nI (0)) hx hb dX6_weightAll_2 (by decide) ?_
  refine z_roV (As := [.int (nI (i)), .int (nI (0))]) (rest := []) (q := (RX6, TX6, 11)) S hG (c_X6_quarterOf E (q := 0) hi hn hr h4 (by decide) hk hw) 2 gX6_weightAll_X6_quarterOf rfl kX6_quarterOf ⟨Nat.le_of_ble_eq_true rfl, Nat.le_of_ble_eq_true rfl⟩ ⟨Nat.zero_le _, Nat.zero_le _⟩ (⟨h1, h2⟩) rfl h1 rfl hl.1 rfl rfl (Nat.le_of_ble_eq_true rfl) dX6_weightAll_3 ?_
  refine lv_aload_n hx hb dX6_weightAll_6 rfl (lv_at hl 0 rfl) ?_
  refine lv_iload_n hx hb dX6_weightAll_7 rfl (lv_at hl 1 rfl) ?_
  refine lv_iconst (v := nI (1)) hx hb dX6_weightAll_8 (by decide) ?_
  refine z_roV (As := [.int (nI (i)), .int (nI (1))]) (rest := [.int (zqw wt n f 0)]) (q := (RX6, TX6, 11)) S hG (c_X6_quarterOf E (q := 1) hi hn hr h4 (by decide) hk hw) 2 gX6_weightAll_X6_quarterOf rfl kX6_quarterOf ⟨Nat.le_of_ble_eq_true rfl, Nat.le_of_ble_eq_true rfl⟩ ⟨Nat.zero_le _, Nat.zero_le _⟩ (⟨h1, h2⟩) rfl h1 rfl hl.1 rfl rfl (Nat.le_of_ble_eq_true rfl) dX6_weightAll_9 ?_
  refine lv_iadd hx hb dX6_weightAll_12 ?_
  refine lv_aload_n hx hb dX6_weightAll_13 rfl (lv_at hl 0 rfl) ?_
  refine lv_iload_n hx hb dX6_weightAll_14 rfl (lv_at hl 1 rfl) ?_
  refine lv_iconst (v := nI (2)) hx hb dX6_weightAll_15 (by decide) ?_
  refine z_roV (As := [.int (nI (i)), .int (nI (2))]) (rest := [.int ((zqw wt n f 0) + (zqw wt n f 1))]) (q := (RX6, TX6, 11)) S hG (c_X6_quarterOf E (q := 2) hi hn hr h4 (by decide) hk hw) 2 gX6_weightAll_X6_quarterOf rfl kX6_quarterOf ⟨Nat.le_of_ble_eq_true rfl, Nat.le_of_ble_eq_true rfl⟩ ⟨Nat.zero_le _, Nat.zero_le _⟩ (⟨h1, h2⟩) rfl h1 rfl hl.1 rfl rfl (Nat.le_of_ble_eq_true rfl) dX6_weightAll_16 ?_
  refine lv_iadd hx hb dX6_weightAll_19 ?_
  refine lv_aload_n hx hb dX6_weightAll_20 rfl (lv_at hl 0 rfl) ?_
  refine lv_iload_n hx hb dX6_weightAll_21 rfl (lv_at hl 1 rfl) ?_
  refine lv_iconst (v := nI (3)) hx hb dX6_weightAll_22 (by decide) ?_
  refine z_roV (As := [.int (nI (i)), .int (nI (3))]) (rest := [.int (((zqw wt n f 0) + (zqw wt n f 1)) + (zqw wt n f 2))]) (q := (RX6, TX6, 11)) S hG (c_X6_quarterOf E (q := 3) hi hn hr h4 (by decide) hk hw) 2 gX6_weightAll_X6_quarterOf rfl kX6_quarterOf ⟨Nat.le_of_ble_eq_true rfl, Nat.le_of_ble_eq_true rfl⟩ ⟨Nat.zero_le _, Nat.zero_le _⟩ (⟨h1, h2⟩) rfl h1 rfl hl.1 rfl rfl (Nat.le_of_ble_eq_true rfl) dX6_weightAll_23 ?_
  refine lv_iadd hx hb dX6_weightAll_26 ?_
  exact hret _ _ _ dX6_weightAll_27 (rfl)

set_option maxHeartbeats 4000000 in
set_option maxRecDepth 100000 in
theorem c_X6_behind (E : zEnv) {o za : Nat} {fs : List Value} {z : Nat → Int32} {i n : Nat} {f : Nat → Int32} {lv ch j : Nat} (hi : i < 6) (hn : 0 < n ∧ n ≤ 16) (hr : zmr z i n f) (hlv : lv ≤ 2) (h4 : n % 4 = 0) (hch : ch < znc lv n) (hj : j < n) : zRO E yX6_behind wsX6_behind 2 43 [.ref (o), .int (nI (i)), .int (nI (lv)), .int (nI (ch)), .int (nI (j))] (fun H => zMz E o za fs z H) (some (.int (zimg n f (zchg lv ch n) j))) := by
  refine zRO.ofI (maxL := 8) rfl (Nat.le_of_ble_eq_true rfl) (fun p e s m args below meth c H Q hF hP hret ls hl => ?_)
  have S : CallFix p m c cX6_behind 8 s args wsX6_behind RX6 := hF.1
  have hG := hF.2
  obtain ⟨hx, hb, hml, hown, hts⟩ := id S
  obtain ⟨h1, h2⟩ := hP
  have hl : lv_has ls 8 [(0, .ref (o)), (1, .int (nI (i))), (2, .int (nI (lv))), (3, .int (nI (ch))), (4, .int (nI (j)))] := hl
  have hin6 : ∀ w ∈ u_ws RX6 TX6 11, w ∈ wsX6_behind := by decide +kernel
  refine lv_aload_n hx hb dX6_behind_0 rfl (lv_at hl 0 rfl) ?_
  refine lv_iload_n hx hb dX6_behind_1 rfl (lv_at hl 1 rfl) ?_
  refine z_roV (As := [.int (nI (i))]) (rest := []) (q := (RX6, TX6, 11)) S hG (c_X6_slots E hi hr.1) 1 gX6_behind_X6_slots rfl kX6_slots ⟨Nat.le_of_ble_eq_true rfl, Nat.le_of_ble_eq_true rfl⟩ ⟨Nat.zero_le _, Nat.zero_le _⟩ (⟨h1, h2⟩) rfl h1 rfl hl.1 rfl rfl (Nat.le_of_ble_eq_true rfl) dX6_behind_2 ?_
  refine lv_istore (lv' := [(5, .int (nI (n))), (0, .ref (o)), (1, .int (nI (i))), (2, .int (nI (lv))), (3, .int (nI (ch))), (4, .int (nI (j)))]) hx hb dX6_behind_5 hl (by decide) rfl (fun ls hl => ?_)
  rcases (show lv = 0 ∨ (lv ≠ 0 ∧ ch < n) ∨ (lv = 2 ∧ n ≤ ch) by unfold znc at hch; split at hch; exact Or.inl ‹_›; split at hch; exact Or.inr (Or.inl ⟨‹_›, hch⟩); omega) with q0 | q0 | q0
  · have hw0 := znq_lt hn.1 h4 (show ch < 4 by rw [q0] at hch; exact hch)
    have hm := Nat.mod_lt (j + n - ch * (n / 4)) hn.1
    refine lv_iload_n hx hb dX6_behind_7 rfl (lv_at hl 3 rfl) ?_
    refine z_fne (tgt := 20) hx hb dX6_behind_8 (by decide) (by omega) (fun c_1 => by exfalso; omega) (fun c_1 => ?_)
    refine lv_iload_n hx hb dX6_behind_11 rfl (lv_at hl 4 rfl) ?_
    refine lv_iload hx hb dX6_behind_12 (lv_at hl 0 rfl) ?_
    refine lv_iconst (v := nI (4)) hx hb dX6_behind_14 (by decide) ?_
    refine z_idiv hx hb dX6_behind_15 ⟨by omega, by omega, by omega⟩ ?_
    refine z_imul hx hb dX6_behind_16 ?_
    refine lv_goto (tgt := 24) hx hb dX6_behind_17 (by decide) ?_
    refine lv_istore (lv' := [(6, .int (nI (ch * (n / 4)))), (5, .int (nI (n))), (0, .ref (o)), (1, .int (nI (i))), (2, .int (nI (lv))), (3, .int (nI (ch))), (4, .int (nI (j)))]) hx hb dX6_behind_24 hl (by decide) rfl (fun ls hl => ?_)
    refine lv_iload hx hb dX6_behind_26 (lv_at hl 6 rfl) ?_
    refine lv_iload hx hb dX6_behind_28 (lv_at hl 1 rfl) ?_
    refine z_iadd hx hb dX6_behind_30 ?_
    refine lv_iload hx hb dX6_behind_31 (lv_at hl 0 rfl) ?_
    refine z_isub hx hb dX6_behind_33 (by omega) ?_
    refine lv_iload hx hb dX6_behind_34 (lv_at hl 1 rfl) ?_
    refine z_irem hx hb dX6_behind_36 ⟨by omega, by omega, by omega⟩ ?_
    refine lv_istore (lv' := [(7, .int (nI (((j + n) - (ch * (n / 4))) % n))), (6, .int (nI (ch * (n / 4)))), (5, .int (nI (n))), (0, .ref (o)), (1, .int (nI (i))), (2, .int (nI (lv))), (3, .int (nI (ch))), (4, .int (nI (j)))]) hx hb dX6_behind_37 hl (by decide) rfl (fun ls hl => ?_)
    refine lv_aload_n hx hb dX6_behind_39 rfl (lv_at hl 3 rfl) ?_
    refine z_get (ref := RX6) (C := RX6) (T := TX6) (N := 11) hx hb hts hin6 hown hG h1 rfl 0 (by decide) (by decide +kernel) rfl rfl dX6_behind_40 ?_
    refine lv_aload_n hx hb dX6_behind_43 rfl (lv_at hl 3 rfl) ?_
    refine lv_iload_n hx hb dX6_behind_44 rfl (lv_at hl 4 rfl) ?_
    refine lv_iload_n hx hb dX6_behind_45 rfl (lv_at hl 5 rfl) ?_
    refine lv_iconst (v := nI (2)) hx hb dX6_behind_46 (by decide) ?_
    refine z_cne (tgt := 64) hx hb dX6_behind_47 (by decide) ⟨by omega, by omega⟩ (fun c_2 => ?_) (fun c_2 => by exfalso; omega)
    refine lv_iload hx hb dX6_behind_64 (lv_at hl 0 rfl) ?_
    refine z_roV (As := [.int (nI (i)), .int (nI (((j + n) - (ch * (n / 4))) % n))]) (rest := [.ref (za)]) (q := (RX6, TX6, 11)) S hG (c_X6_at E (j := (j + n - ch * (n / 4)) % n) hi hr.1 (by omega)) 2 gX6_behind_X6_at rfl kX6_at ⟨Nat.le_of_ble_eq_true rfl, Nat.le_of_ble_eq_true rfl⟩ ⟨Nat.zero_le _, Nat.zero_le _⟩ (⟨h1, h2⟩) rfl h1 rfl hl.1 rfl rfl (Nat.le_of_ble_eq_true rfl) dX6_behind_66 ?_
    refine z_iald (j := 10 + 17 * i + 1 + ((j + n - ch * (n / 4)) % n)) hx hb hG h2 ⟨by omega, by omega⟩ dX6_behind_69 ?_
    exact hret _ _ _ dX6_behind_70 (by rw [hr.2 _ hm]; unfold zimg zchg; rw [if_pos q0, znq h4, if_pos hw0])
  · have hm := Nat.mod_lt (j + n - ch) hn.1
    refine lv_iload_n hx hb dX6_behind_7 rfl (lv_at hl 3 rfl) ?_
    refine z_fne (tgt := 20) hx hb dX6_behind_8 (by decide) (by omega) (fun c_3 => ?_) (fun c_3 => by exfalso; omega)
    refine lv_iload_n hx hb dX6_behind_20 rfl (lv_at hl 4 rfl) ?_
    refine lv_iload hx hb dX6_behind_21 (lv_at hl 0 rfl) ?_
    refine z_irem hx hb dX6_behind_23 ⟨by omega, by omega, by omega⟩ ?_
    refine z_top (y := nI (ch)) (by rw [Nat.mod_eq_of_lt q0.2]) ?_
    refine lv_istore (lv' := [(6, .int (nI (ch))), (5, .int (nI (n))), (0, .ref (o)), (1, .int (nI (i))), (2, .int (nI (lv))), (3, .int (nI (ch))), (4, .int (nI (j)))]) hx hb dX6_behind_24 hl (by decide) rfl (fun ls hl => ?_)
    refine lv_iload hx hb dX6_behind_26 (lv_at hl 6 rfl) ?_
    refine lv_iload hx hb dX6_behind_28 (lv_at hl 1 rfl) ?_
    refine z_iadd hx hb dX6_behind_30 ?_
    refine lv_iload hx hb dX6_behind_31 (lv_at hl 0 rfl) ?_
    refine z_isub hx hb dX6_behind_33 (by omega) ?_
    refine lv_iload hx hb dX6_behind_34 (lv_at hl 1 rfl) ?_
    refine z_irem hx hb dX6_behind_36 ⟨by omega, by omega, by omega⟩ ?_
    refine lv_istore (lv' := [(7, .int (nI (((j + n) - ch) % n))), (6, .int (nI (ch))), (5, .int (nI (n))), (0, .ref (o)), (1, .int (nI (i))), (2, .int (nI (lv))), (3, .int (nI (ch))), (4, .int (nI (j)))]) hx hb dX6_behind_37 hl (by decide) rfl (fun ls hl => ?_)
    refine lv_aload_n hx hb dX6_behind_39 rfl (lv_at hl 3 rfl) ?_
    refine z_get (ref := RX6) (C := RX6) (T := TX6) (N := 11) hx hb hts hin6 hown hG h1 rfl 0 (by decide) (by decide +kernel) rfl rfl dX6_behind_40 ?_
    refine lv_aload_n hx hb dX6_behind_43 rfl (lv_at hl 3 rfl) ?_
    refine lv_iload_n hx hb dX6_behind_44 rfl (lv_at hl 4 rfl) ?_
    refine lv_iload_n hx hb dX6_behind_45 rfl (lv_at hl 5 rfl) ?_
    refine lv_iconst (v := nI (2)) hx hb dX6_behind_46 (by decide) ?_
    refine z_cne (tgt := 64) hx hb dX6_behind_47 (by decide) ⟨by omega, by omega⟩ (fun c_4 => ?_) (fun c_4 => ?_)
    · refine lv_iload hx hb dX6_behind_64 (lv_at hl 0 rfl) ?_
      refine z_roV (As := [.int (nI (i)), .int (nI (((j + n) - ch) % n))]) (rest := [.ref (za)]) (q := (RX6, TX6, 11)) S hG (c_X6_at E (j := (j + n - ch) % n) hi hr.1 (by omega)) 2 gX6_behind_X6_at rfl kX6_at ⟨Nat.le_of_ble_eq_true rfl, Nat.le_of_ble_eq_true rfl⟩ ⟨Nat.zero_le _, Nat.zero_le _⟩ (⟨h1, h2⟩) rfl h1 rfl hl.1 rfl rfl (Nat.le_of_ble_eq_true rfl) dX6_behind_66 ?_
      refine z_iald (j := 10 + 17 * i + 1 + ((j + n - ch) % n)) hx hb hG h2 ⟨by omega, by omega⟩ dX6_behind_69 ?_
      exact hret _ _ _ dX6_behind_70 (by rw [hr.2 _ hm]; unfold zimg zchg; rw [if_neg q0.1, if_pos q0.2])
    · refine lv_iload_n hx hb dX6_behind_50 rfl (lv_at hl 6 rfl) ?_
      refine lv_iload hx hb dX6_behind_51 (lv_at hl 2 rfl) ?_
      refine z_clt (tgt := 64) hx hb dX6_behind_53 (by decide) ⟨by omega, by omega⟩ (fun c_5 => ?_) (fun c_5 => by exfalso; omega)
      refine lv_iload hx hb dX6_behind_64 (lv_at hl 0 rfl) ?_
      refine z_roV (As := [.int (nI (i)), .int (nI (((j + n) - ch) % n))]) (rest := [.ref (za)]) (q := (RX6, TX6, 11)) S hG (c_X6_at E (j := (j + n - ch) % n) hi hr.1 (by omega)) 2 gX6_behind_X6_at rfl kX6_at ⟨Nat.le_of_ble_eq_true rfl, Nat.le_of_ble_eq_true rfl⟩ ⟨Nat.zero_le _, Nat.zero_le _⟩ (⟨h1, h2⟩) rfl h1 rfl hl.1 rfl rfl (Nat.le_of_ble_eq_true rfl) dX6_behind_66 ?_
      refine z_iald (j := 10 + 17 * i + 1 + ((j + n - ch) % n)) hx hb hG h2 ⟨by omega, by omega⟩ dX6_behind_69 ?_
      exact hret _ _ _ dX6_behind_70 (by rw [hr.2 _ hm]; unfold zimg zchg; rw [if_neg q0.1, if_pos q0.2])
  · have hc2 : ch < 2 * n := by rw [q0.1] at hch; exact hch
    have hm := Nat.mod_lt (j + n - (ch - n)) hn.1
    have hm2 := Nat.mod_lt (n - (j + n - (ch - n)) % n) hn.1
    refine lv_iload_n hx hb dX6_behind_7 rfl (lv_at hl 3 rfl) ?_
    refine z_fne (tgt := 20) hx hb dX6_behind_8 (by decide) (by omega) (fun c_6 => ?_) (fun c_6 => by exfalso; omega)
    refine lv_iload_n hx hb dX6_behind_20 rfl (lv_at hl 4 rfl) ?_
    refine lv_iload hx hb dX6_behind_21 (lv_at hl 0 rfl) ?_
    refine z_irem hx hb dX6_behind_23 ⟨by omega, by omega, by omega⟩ ?_
    refine z_top (y := nI (ch - n)) (by rw [zmod_1 q0.2 (by omega)]) ?_
    refine lv_istore (lv' := [(6, .int (nI (ch - n))), (5, .int (nI (n))), (0, .ref (o)), (1, .int (nI (i))), (2, .int (nI (lv))), (3, .int (nI (ch))), (4, .int (nI (j)))]) hx hb dX6_behind_24 hl (by decide) rfl (fun ls hl => ?_)
    refine lv_iload hx hb dX6_behind_26 (lv_at hl 6 rfl) ?_
    refine lv_iload hx hb dX6_behind_28 (lv_at hl 1 rfl) ?_
    refine z_iadd hx hb dX6_behind_30 ?_
    refine lv_iload hx hb dX6_behind_31 (lv_at hl 0 rfl) ?_
    refine z_isub hx hb dX6_behind_33 (by omega) ?_
    refine lv_iload hx hb dX6_behind_34 (lv_at hl 1 rfl) ?_
    refine z_irem hx hb dX6_behind_36 ⟨by omega, by omega, by omega⟩ ?_
    refine lv_istore (lv' := [(7, .int (nI (((j + n) - (ch - n)) % n))), (6, .int (nI (ch - n))), (5, .int (nI (n))), (0, .ref (o)), (1, .int (nI (i))), (2, .int (nI (lv))), (3, .int (nI (ch))), (4, .int (nI (j)))]) hx hb dX6_behind_37 hl (by decide) rfl (fun ls hl => ?_)
    refine lv_aload_n hx hb dX6_behind_39 rfl (lv_at hl 3 rfl) ?_
    refine z_get (ref := RX6) (C := RX6) (T := TX6) (N := 11) hx hb hts hin6 hown hG h1 rfl 0 (by decide) (by decide +kernel) rfl rfl dX6_behind_40 ?_
    refine lv_aload_n hx hb dX6_behind_43 rfl (lv_at hl 3 rfl) ?_
    refine lv_iload_n hx hb dX6_behind_44 rfl (lv_at hl 4 rfl) ?_
    refine lv_iload_n hx hb dX6_behind_45 rfl (lv_at hl 5 rfl) ?_
    refine lv_iconst (v := nI (2)) hx hb dX6_behind_46 (by decide) ?_
    refine z_cne (tgt := 64) hx hb dX6_behind_47 (by decide) ⟨by omega, by omega⟩ (fun c_7 => by exfalso; omega) (fun c_7 => ?_)
    refine lv_iload_n hx hb dX6_behind_50 rfl (lv_at hl 6 rfl) ?_
    refine lv_iload hx hb dX6_behind_51 (lv_at hl 2 rfl) ?_
    refine z_clt (tgt := 64) hx hb dX6_behind_53 (by decide) ⟨by omega, by omega⟩ (fun c_8 => by exfalso; omega) (fun c_8 => ?_)
    refine lv_iload hx hb dX6_behind_56 (lv_at hl 2 rfl) ?_
    refine lv_iload hx hb dX6_behind_58 (lv_at hl 0 rfl) ?_
    refine z_isub hx hb dX6_behind_60 (by omega) ?_
    refine lv_goto (tgt := 66) hx hb dX6_behind_61 (by decide) ?_
    refine z_roV (As := [.int (nI (i)), .int (nI (n - (((j + n) - (ch - n)) % n)))]) (rest := [.ref (za)]) (q := (RX6, TX6, 11)) S hG (c_X6_at_m E (j := n - (j + n - (ch - n)) % n) hi hr.1 (by omega)) 2 gX6_behind_X6_at rfl kX6_at ⟨Nat.le_of_ble_eq_true rfl, Nat.le_of_ble_eq_true rfl⟩ ⟨Nat.zero_le _, Nat.zero_le _⟩ (⟨h1, h2⟩) rfl h1 rfl hl.1 rfl rfl (Nat.le_of_ble_eq_true rfl) dX6_behind_66 ?_
    refine z_iald (j := 10 + 17 * i + 1 + (n - (j + n - (ch - n)) % n) % n) hx hb hG h2 ⟨by omega, by omega⟩ dX6_behind_69 ?_
    exact hret _ _ _ dX6_behind_70 (by rw [hr.2 _ hm2, zbk q0.2 hc2 hj]; unfold zimg zchg; rw [if_neg (show ¬ lv = 0 by omega), if_neg (by omega)])

set_option maxHeartbeats 4000000 in
set_option maxRecDepth 100000 in
theorem c_X6_unlike (E : zEnv) {o za : Nat} {fs : List Value} {z : Nat → Int32} {i n : Nat} {f : Nat → Int32} {lv ch i2 : Nat} {g : Nat → Int32} (hi : i < 6) (hn : 0 < n ∧ n ≤ 16) (hr : zmr z i n f) (hlv : lv ≤ 2) (h4 : n % 4 = 0) (hch : ch < znc lv n) (hi2 : i2 < 6) (hr2 : zmr z i2 n g) : zRO E yX6_unlike wsX6_unlike 3 70 [.ref (o), .int (nI (i)), .int (nI (lv)), .int (nI (ch)), .int (nI (i2))] (fun H => zMz E o za fs z H) (some (.int (nI (zdf n f (zchg lv ch n) g)))) := by
  refine zRO.ofI (maxL := 7) rfl (Nat.le_of_ble_eq_true rfl) (fun p e s m args below meth c H Q hF hP hret ls hl => ?_)
  have S : CallFix p m c cX6_unlike 7 s args wsX6_unlike RX6 := hF.1
  have hG := hF.2
  obtain ⟨hx, hb, hml, hown, hts⟩ := id S
  obtain ⟨h1, h2⟩ := hP
  have hl : lv_has ls 7 [(0, .ref (o)), (1, .int (nI (i))), (2, .int (nI (lv))), (3, .int (nI (ch))), (4, .int (nI (i2)))] := hl
  have hin6 : ∀ w ∈ u_ws RX6 TX6 11, w ∈ wsX6_unlike := by decide +kernel
  refine lv_iconst (v := nI (0)) hx hb dX6_unlike_0 (by decide) ?_
  refine lv_istore (lv' := [(5, .int (nI (0))), (0, .ref (o)), (1, .int (nI (i))), (2, .int (nI (lv))), (3, .int (nI (ch))), (4, .int (nI (i2)))]) hx hb dX6_unlike_1 hl (by decide) rfl (fun ls hl => ?_)
  refine lv_iconst (v := nI (0)) hx hb dX6_unlike_3 (by decide) ?_
  refine lv_istore (lv' := [(6, .int (nI (0))), (5, .int (nI (0))), (0, .ref (o)), (1, .int (nI (i))), (2, .int (nI (lv))), (3, .int (nI (ch))), (4, .int (nI (i2)))]) hx hb dX6_unlike_4 hl (by decide) rfl (fun ls hl => ?_)
  have L6 : ∀ (dd : Nat) (j : Nat), n - j < dd → j ≤ n → ∀ (ls : Array Slot), lv_has ls 7 [(0, .ref (o)), (1, .int (nI (i))), (2, .int (nI (lv))), (3, .int (nI (ch))), (4, .int (nI (i2))), (5, .int (nI (zct (fun s => decide (zimg n f (zchg lv ch n) s ≠ g s)) j))), (6, .int (nI (j)))] → W p (zl E) e (zRm 3 70) s m args below meth c H [] 0 0 Q (F0 m 6 ls []) := by
    intro dd
    induction dd with
    | zero => intro j hdd; exact absurd hdd (Nat.not_lt_zero _)
    | succ dd ih6 =>
      intro j hdd6 hj ls hl
      refine lv_iload hx hb dX6_unlike_6 (lv_at hl 6 rfl) ?_
      refine lv_aload_n hx hb dX6_unlike_8 rfl (lv_at hl 0 rfl) ?_
      refine lv_iload_n hx hb dX6_unlike_9 rfl (lv_at hl 1 rfl) ?_
      refine z_roV (As := [.int (nI (i))]) (rest := [.int (nI (j))]) (q := (RX6, TX6, 11)) S hG (c_X6_slots E hi hr.1) 1 gX6_unlike_X6_slots rfl kX6_slots ⟨Nat.le_of_ble_eq_true rfl, Nat.le_of_ble_eq_true rfl⟩ ⟨Nat.zero_le _, Nat.zero_le _⟩ (⟨h1, h2⟩) rfl h1 rfl hl.1 rfl rfl (Nat.le_of_ble_eq_true rfl) dX6_unlike_10 ?_
      refine z_cge (tgt := 57) hx hb dX6_unlike_13 (by decide) ⟨by omega, by omega⟩ (fun c_1 => ?_) (fun c_1 => ?_)
      · refine lv_iload hx hb dX6_unlike_57 (lv_at hl 5 rfl) ?_
        exact hret _ _ _ dX6_unlike_59 (by rw [show j = n by omega]; rfl)
      · refine lv_iload hx hb dX6_unlike_16 (lv_at hl 5 rfl) ?_
        refine lv_aload_n hx hb dX6_unlike_18 rfl (lv_at hl 0 rfl) ?_
        refine lv_iload_n hx hb dX6_unlike_19 rfl (lv_at hl 1 rfl) ?_
        refine lv_iload_n hx hb dX6_unlike_20 rfl (lv_at hl 2 rfl) ?_
        refine lv_iload_n hx hb dX6_unlike_21 rfl (lv_at hl 3 rfl) ?_
        refine lv_iload hx hb dX6_unlike_22 (lv_at hl 6 rfl) ?_
        refine z_roV (As := [.int (nI (i)), .int (nI (lv)), .int (nI (ch)), .int (nI (j))]) (rest := [.int (nI (zct (fun s => decide (zimg n f (zchg lv ch n) s ≠ g s)) j))]) (q := (RX6, TX6, 11)) S hG (c_X6_behind E (ch := ch) (j := j) hi hn hr hlv h4 (by omega) (by omega)) 4 gX6_unlike_X6_behind rfl kX6_behind ⟨Nat.le_of_ble_eq_true rfl, Nat.le_of_ble_eq_true rfl⟩ ⟨Nat.zero_le _, Nat.zero_le _⟩ (⟨h1, h2⟩) rfl h1 rfl hl.1 rfl rfl (Nat.le_of_ble_eq_true rfl) dX6_unlike_24 ?_
        refine lv_aload_n hx hb dX6_unlike_27 rfl (lv_at hl 0 rfl) ?_
        refine z_get (ref := RX6) (C := RX6) (T := TX6) (N := 11) hx hb hts hin6 hown hG h1 rfl 0 (by decide) (by decide +kernel) rfl rfl dX6_unlike_28 ?_
        refine lv_aload_n hx hb dX6_unlike_31 rfl (lv_at hl 0 rfl) ?_
        refine lv_iload hx hb dX6_unlike_32 (lv_at hl 4 rfl) ?_
        refine lv_iload hx hb dX6_unlike_34 (lv_at hl 6 rfl) ?_
        refine z_roV (As := [.int (nI (i2)), .int (nI (j))]) (rest := [.ref (za), .int (zimg n f (zchg lv ch n) j), .int (nI (zct (fun s => decide (zimg n f (zchg lv ch n) s ≠ g s)) j))]) (q := (RX6, TX6, 11)) S hG (c_X6_at E (j := j) hi2 hr2.1 (by omega)) 2 gX6_unlike_X6_at rfl kX6_at ⟨Nat.le_of_ble_eq_true rfl, Nat.le_of_ble_eq_true rfl⟩ ⟨Nat.zero_le _, Nat.zero_le _⟩ (⟨h1, h2⟩) rfl h1 rfl hl.1 rfl rfl (Nat.le_of_ble_eq_true rfl) dX6_unlike_36 ?_
        refine z_iald (j := 10 + 17 * i2 + 1 + j) hx hb hG h2 ⟨by omega, by omega⟩ dX6_unlike_39 ?_
        refine z_top (y := (g j)) (hr2.2 _ (by omega)) ?_
        refine lv_icmp_ne (tgt := 47) hx hb dX6_unlike_40 (by decide) (fun c_2 => ?_) (fun c_2 => ?_)
        · refine lv_iconst (v := nI (1)) hx hb dX6_unlike_47 (by decide) ?_
          refine z_iadd hx hb dX6_unlike_48 ?_
          refine lv_istore (lv' := [(5, .int (nI ((zct (fun s => decide (zimg n f (zchg lv ch n) s ≠ g s)) j) + 1))), (0, .ref (o)), (1, .int (nI (i))), (2, .int (nI (lv))), (3, .int (nI (ch))), (4, .int (nI (i2))), (6, .int (nI (j)))]) hx hb dX6_unlike_49 hl (by decide) rfl (fun ls hl => ?_)
          refine lv_iinc (v := nI (j + 1)) (lv' := [(6, .int (nI (j + 1))), (5, .int (nI ((zct (fun s => decide (zimg n f (zchg lv ch n) s ≠ g s)) j) + 1))), (0, .ref (o)), (1, .int (nI (i))), (2, .int (nI (lv))), (3, .int (nI (ch))), (4, .int (nI (i2)))]) hx hb dX6_unlike_51 hl (k := 6) rfl (z_inc1 _) (by decide) rfl (fun ls hl => ?_)
          refine lv_goto (tgt := 6) hx hb dX6_unlike_54 (by decide) ?_
          have hl9 := lv_sub hl [2, 3, 4, 5, 6, 1, 0] (l' := [(0, .ref (o)), (1, .int (nI (i))), (2, .int (nI (lv))), (3, .int (nI (ch))), (4, .int (nI (i2))), (5, .int (nI ((zct (fun s => decide (zimg n f (zchg lv ch n) s ≠ g s)) j) + 1))), (6, .int (nI (j + 1)))]) rfl
          have e9_5 : ((zct (fun s => decide (zimg n f (zchg lv ch n) s ≠ g s)) j) + 1) = (zct (fun s => decide (zimg n f (zchg lv ch n) s ≠ g s)) (j + 1)) := by first | exact zct_t (decide_eq_true c_2) | exact zct_f (decide_eq_false (fun q => q c_2))
          have e9_6 : (j + 1) = ((j + 1)) := by omega
          exact ih6 (j + 1) (by omega) (by omega) ls (by rw [← e9_5, ← e9_6]; exact hl9)
        · refine lv_iconst (v := nI (0)) hx hb dX6_unlike_43 (by decide) ?_
          refine lv_goto (tgt := 48) hx hb dX6_unlike_44 (by decide) ?_
          refine z_iadd hx hb dX6_unlike_48 ?_
          refine lv_istore (lv' := [(5, .int (nI ((zct (fun s => decide (zimg n f (zchg lv ch n) s ≠ g s)) j) + 0))), (0, .ref (o)), (1, .int (nI (i))), (2, .int (nI (lv))), (3, .int (nI (ch))), (4, .int (nI (i2))), (6, .int (nI (j)))]) hx hb dX6_unlike_49 hl (by decide) rfl (fun ls hl => ?_)
          refine lv_iinc (v := nI (j + 1)) (lv' := [(6, .int (nI (j + 1))), (5, .int (nI ((zct (fun s => decide (zimg n f (zchg lv ch n) s ≠ g s)) j) + 0))), (0, .ref (o)), (1, .int (nI (i))), (2, .int (nI (lv))), (3, .int (nI (ch))), (4, .int (nI (i2)))]) hx hb dX6_unlike_51 hl (k := 6) rfl (z_inc1 _) (by decide) rfl (fun ls hl => ?_)
          refine lv_goto (tgt := 6) hx hb dX6_unlike_54 (by decide) ?_
          have hl9 := lv_sub hl [2, 3, 4, 5, 6, 1, 0] (l' := [(0, .ref (o)), (1, .int (nI (i))), (2, .int (nI (lv))), (3, .int (nI (ch))), (4, .int (nI (i2))), (5, .int (nI ((zct (fun s => decide (zimg n f (zchg lv ch n) s ≠ g s)) j) + 0))), (6, .int (nI (j + 1)))]) rfl
          have e9_5 : ((zct (fun s => decide (zimg n f (zchg lv ch n) s ≠ g s)) j) + 0) = (zct (fun s => decide (zimg n f (zchg lv ch n) s ≠ g s)) (j + 1)) := by first | exact zct_t (decide_eq_true c_2) | exact zct_f (decide_eq_false (fun q => q c_2))
          have e9_6 : (j + 1) = ((j + 1)) := by omega
          exact ih6 (j + 1) (by omega) (by omega) ls (by rw [← e9_5, ← e9_6]; exact hl9)
  exact L6 ((n - (0)) + 1) (0) (Nat.lt_succ_self _) (Nat.zero_le _) ls (lv_sub hl [2, 3, 4, 5, 6, 1, 0] rfl)

set_option maxHeartbeats 4000000 in
set_option maxRecDepth 100000 in
theorem c_X6_areAlike (E : zEnv) {o za : Nat} {fs : List Value} {z : Nat → Int32} {i n : Nat} {f : Nat → Int32} {lv i2 : Nat} {g : Nat → Int32} (hi : i < 6) (hn : 0 < n ∧ n ≤ 16) (hr : zmr z i n f) (hlv : lv ≤ 2) (h4 : n % 4 = 0) (hi2 : i2 < 6) (hr2 : zmr z i2 n g) : zRO E yX6_areAlike wsX6_areAlike 4 96 [.ref (o), .int (nI (i)), .int (nI (i2)), .int (nI (lv))] (fun H => zMz E o za fs z H) (some (.int (zb (zan n f g lv (znc lv n))))) := by
  refine zRO.ofZ (maxL := 6) rfl (Nat.le_of_ble_eq_true rfl) (fun p e s m args below meth c H Q hF hP hret ls hl => ?_)
  have S : CallFix p m c cX6_areAlike 6 s args wsX6_areAlike RX6 := hF.1
  have hG := hF.2
  obtain ⟨hx, hb, hml, hown, hts⟩ := id S
  obtain ⟨h1, h2⟩ := hP
  have hnc := znc_le (lv := lv) hn.2
  have hl : lv_has ls 6 [(0, .ref (o)), (1, .int (nI (i))), (2, .int (nI (i2))), (3, .int (nI (lv)))] := hl
  refine lv_iconst (v := nI (0)) hx hb dX6_areAlike_0 (by decide) ?_
  refine lv_istore (lv' := [(4, .int (nI (0))), (0, .ref (o)), (1, .int (nI (i))), (2, .int (nI (i2))), (3, .int (nI (lv)))]) hx hb dX6_areAlike_1 hl (by decide) rfl (fun ls hl => ?_)
  refine lv_iconst (v := nI (0)) hx hb dX6_areAlike_3 (by decide) ?_
  refine lv_istore (lv' := [(5, .int (nI (0))), (4, .int (nI (0))), (0, .ref (o)), (1, .int (nI (i))), (2, .int (nI (i2))), (3, .int (nI (lv)))]) hx hb dX6_areAlike_4 hl (by decide) rfl (fun ls hl => ?_)
  have L6 : ∀ (dd : Nat) (t : Nat), znc lv n - t < dd → t ≤ znc lv n → ∀ (ls : Array Slot), lv_has ls 6 [(0, .ref (o)), (1, .int (nI (i))), (2, .int (nI (i2))), (3, .int (nI (lv))), (4, .int (zb (zan n f g lv t))), (5, .int (nI (t)))] → W p (zl E) e (zRm 4 96) s m args below meth c H [] 0 0 Q (F0 m 6 ls []) := by
    intro dd
    induction dd with
    | zero => intro t hdd; exact absurd hdd (Nat.not_lt_zero _)
    | succ dd ih6 =>
      intro t hdd6 ht ls hl
      refine lv_iload hx hb dX6_areAlike_6 (lv_at hl 5 rfl) ?_
      refine lv_aload_n hx hb dX6_areAlike_8 rfl (lv_at hl 0 rfl) ?_
      refine lv_iload_n hx hb dX6_areAlike_9 rfl (lv_at hl 1 rfl) ?_
      refine z_roV (As := [.int (nI (i))]) (rest := [.int (nI (t))]) (q := (RX6, TX6, 11)) S hG (c_X6_slots E hi hr.1) 1 gX6_areAlike_X6_slots rfl kX6_slots ⟨Nat.le_of_ble_eq_true rfl, Nat.le_of_ble_eq_true rfl⟩ ⟨Nat.zero_le _, Nat.zero_le _⟩ (⟨h1, h2⟩) rfl h1 rfl hl.1 rfl rfl (Nat.le_of_ble_eq_true rfl) dX6_areAlike_10 ?_
      refine lv_iload_n hx hb dX6_areAlike_13 rfl (lv_at hl 3 rfl) ?_
      refine z_roSX (As := [.int (nI (n)), .int (nI (lv))]) (rest := [.int (nI (t))]) S hG (c_X6_changes E hlv) 2 gX6_areAlike_X6_changes rfl kX6_changes.2 ⟨Nat.le_of_ble_eq_true rfl, Nat.le_of_ble_eq_true rfl⟩ ⟨Nat.zero_le _, Nat.zero_le _⟩ (trivial) rfl hl.1 rfl rfl (Nat.le_of_ble_eq_true rfl) dX6_areAlike_14 ?_
      refine z_cge (tgt := 63) hx hb dX6_areAlike_17 (by decide) ⟨by omega, by omega⟩ (fun c_1 => ?_) (fun c_1 => ?_)
      · refine lv_iload hx hb dX6_areAlike_63 (lv_at hl 4 rfl) ?_
        exact hret _ _ _ dX6_areAlike_65 (by cases zan n f g lv t; exact Or.inl rfl; exact Or.inr rfl) (by rw [show t = znc lv n by omega])
      · refine lv_aload_n hx hb dX6_areAlike_20 rfl (lv_at hl 0 rfl) ?_
        refine lv_iload_n hx hb dX6_areAlike_21 rfl (lv_at hl 1 rfl) ?_
        refine z_roV (As := [.int (nI (i))]) (rest := []) (q := (RX6, TX6, 11)) S hG (c_X6_slots E hi hr.1) 1 gX6_areAlike_X6_slots rfl kX6_slots ⟨Nat.le_of_ble_eq_true rfl, Nat.le_of_ble_eq_true rfl⟩ ⟨Nat.zero_le _, Nat.zero_le _⟩ (⟨h1, h2⟩) rfl h1 rfl hl.1 rfl rfl (Nat.le_of_ble_eq_true rfl) dX6_areAlike_22 ?_
        refine lv_aload_n hx hb dX6_areAlike_25 rfl (lv_at hl 0 rfl) ?_
        refine lv_iload_n hx hb dX6_areAlike_26 rfl (lv_at hl 2 rfl) ?_
        refine z_roV (As := [.int (nI (i2))]) (rest := [.int (nI (n))]) (q := (RX6, TX6, 11)) S hG (c_X6_slots E hi2 hr2.1) 1 gX6_areAlike_X6_slots rfl kX6_slots ⟨Nat.le_of_ble_eq_true rfl, Nat.le_of_ble_eq_true rfl⟩ ⟨Nat.zero_le _, Nat.zero_le _⟩ (⟨h1, h2⟩) rfl h1 rfl hl.1 rfl rfl (Nat.le_of_ble_eq_true rfl) dX6_areAlike_27 ?_
        refine z_cne (tgt := 63) hx hb dX6_areAlike_30 (by decide) ⟨by omega, by omega⟩ (fun c_2 => by exfalso; omega) (fun c_2 => ?_)
        refine lv_iload hx hb dX6_areAlike_33 (lv_at hl 4 rfl) ?_
        refine z_bne (tgt := 50) hx hb dX6_areAlike_35 (by decide) (fun c_3 => ?_) (fun c_3 => ?_)
        · refine lv_iconst (v := nI (1)) hx hb dX6_areAlike_50 (by decide) ?_
          refine lv_goto (tgt := 55) hx hb dX6_areAlike_51 (by decide) ?_
          refine lv_istore (lv' := [(4, .int (nI (1))), (0, .ref (o)), (1, .int (nI (i))), (2, .int (nI (i2))), (3, .int (nI (lv))), (5, .int (nI (t)))]) hx hb dX6_areAlike_55 hl (by decide) rfl (fun ls hl => ?_)
          refine lv_iinc (v := nI (t + 1)) (lv' := [(5, .int (nI (t + 1))), (4, .int (nI (1))), (0, .ref (o)), (1, .int (nI (i))), (2, .int (nI (i2))), (3, .int (nI (lv)))]) hx hb dX6_areAlike_57 hl (k := 5) rfl (z_inc1 _) (by decide) rfl (fun ls hl => ?_)
          refine lv_goto (tgt := 6) hx hb dX6_areAlike_60 (by decide) ?_
          have hl9 := lv_sub hl [2, 3, 4, 5, 1, 0] (l' := [(0, .ref (o)), (1, .int (nI (i))), (2, .int (nI (i2))), (3, .int (nI (lv))), (4, .int (nI (1))), (5, .int (nI (t + 1)))]) rfl
          have e9_4 : (nI (1)) = (zb (zan n f g lv (t + 1))) := by first | exact zan_a c_3 | exact zan_b c_2 c_3 | exact zan_c c_2 c_3
          have e9_5 : (t + 1) = ((t + 1)) := by omega
          exact ih6 (t + 1) (by omega) (by omega) ls (by rw [← e9_4, ← e9_5]; exact hl9)
        · refine lv_aload_n hx hb dX6_areAlike_38 rfl (lv_at hl 0 rfl) ?_
          refine lv_iload_n hx hb dX6_areAlike_39 rfl (lv_at hl 1 rfl) ?_
          refine lv_iload_n hx hb dX6_areAlike_40 rfl (lv_at hl 3 rfl) ?_
          refine lv_iload hx hb dX6_areAlike_41 (lv_at hl 5 rfl) ?_
          refine lv_iload_n hx hb dX6_areAlike_43 rfl (lv_at hl 2 rfl) ?_
          refine z_roV (As := [.int (nI (i)), .int (nI (lv)), .int (nI (t)), .int (nI (i2))]) (rest := []) (q := (RX6, TX6, 11)) S hG (c_X6_unlike E (ch := t) hi hn hr hlv h4 (by omega) hi2 hr2) 4 gX6_areAlike_X6_unlike rfl kX6_unlike ⟨Nat.le_of_ble_eq_true rfl, Nat.le_of_ble_eq_true rfl⟩ ⟨Nat.zero_le _, Nat.zero_le _⟩ (⟨h1, h2⟩) rfl h1 rfl hl.1 rfl rfl (Nat.le_of_ble_eq_true rfl) dX6_areAlike_44 ?_
          refine z_fne (tgt := 54) hx hb dX6_areAlike_47 (by decide) (by have h9 := zdf_le n f (zchg lv t n) g; omega) (fun c_4 => ?_) (fun c_4 => ?_)
          · refine lv_iconst (v := nI (0)) hx hb dX6_areAlike_54 (by decide) ?_
            refine lv_istore (lv' := [(4, .int (nI (0))), (0, .ref (o)), (1, .int (nI (i))), (2, .int (nI (i2))), (3, .int (nI (lv))), (5, .int (nI (t)))]) hx hb dX6_areAlike_55 hl (by decide) rfl (fun ls hl => ?_)
            refine lv_iinc (v := nI (t + 1)) (lv' := [(5, .int (nI (t + 1))), (4, .int (nI (0))), (0, .ref (o)), (1, .int (nI (i))), (2, .int (nI (i2))), (3, .int (nI (lv)))]) hx hb dX6_areAlike_57 hl (k := 5) rfl (z_inc1 _) (by decide) rfl (fun ls hl => ?_)
            refine lv_goto (tgt := 6) hx hb dX6_areAlike_60 (by decide) ?_
            have hl9 := lv_sub hl [2, 3, 4, 5, 1, 0] (l' := [(0, .ref (o)), (1, .int (nI (i))), (2, .int (nI (i2))), (3, .int (nI (lv))), (4, .int (nI (0))), (5, .int (nI (t + 1)))]) rfl
            have e9_4 : (nI (0)) = (zb (zan n f g lv (t + 1))) := by first | exact zan_a c_4 | exact zan_b c_3 c_4 | exact zan_c c_3 c_4
            have e9_5 : (t + 1) = ((t + 1)) := by omega
            exact ih6 (t + 1) (by omega) (by omega) ls (by rw [← e9_4, ← e9_5]; exact hl9)
          · refine lv_iconst (v := nI (1)) hx hb dX6_areAlike_50 (by decide) ?_
            refine lv_goto (tgt := 55) hx hb dX6_areAlike_51 (by decide) ?_
            refine lv_istore (lv' := [(4, .int (nI (1))), (0, .ref (o)), (1, .int (nI (i))), (2, .int (nI (i2))), (3, .int (nI (lv))), (5, .int (nI (t)))]) hx hb dX6_areAlike_55 hl (by decide) rfl (fun ls hl => ?_)
            refine lv_iinc (v := nI (t + 1)) (lv' := [(5, .int (nI (t + 1))), (4, .int (nI (1))), (0, .ref (o)), (1, .int (nI (i))), (2, .int (nI (i2))), (3, .int (nI (lv)))]) hx hb dX6_areAlike_57 hl (k := 5) rfl (z_inc1 _) (by decide) rfl (fun ls hl => ?_)
            refine lv_goto (tgt := 6) hx hb dX6_areAlike_60 (by decide) ?_
            have hl9 := lv_sub hl [2, 3, 4, 5, 1, 0] (l' := [(0, .ref (o)), (1, .int (nI (i))), (2, .int (nI (i2))), (3, .int (nI (lv))), (4, .int (nI (1))), (5, .int (nI (t + 1)))]) rfl
            have e9_4 : (nI (1)) = (zb (zan n f g lv (t + 1))) := by first | exact zan_a c_4 | exact zan_b c_3 c_4 | exact zan_c c_3 c_4
            have e9_5 : (t + 1) = ((t + 1)) := by omega
            exact ih6 (t + 1) (by omega) (by omega) ls (by rw [← e9_4, ← e9_5]; exact hl9)
  exact L6 ((znc lv n - (0)) + 1) (0) (Nat.lt_succ_self _) (Nat.zero_le _) ls (lv_sub hl [2, 3, 4, 5, 1, 0] rfl)

set_option maxHeartbeats 4000000 in
set_option maxRecDepth 100000 in
theorem c_X6_areAlike_0 (E : zEnv) {o za : Nat} {fs : List Value} {z : Nat → Int32} {i n : Nat} {f : Nat → Int32} {lv i2 n2 : Nat} {g : Nat → Int32} (hi : i < 6) (hn : 0 < n ∧ n ≤ 16) (hr : zmr z i n f) (hlv : lv ≤ 2) (hi2 : i2 < 6) (hn2 : n2 ≤ 16 ∧ n ≠ n2) (hr2 : zmr z i2 n2 g) : zRO E yX6_areAlike wsX6_areAlike 4 96 [.ref (o), .int (nI (i)), .int (nI (i2)), .int (nI (lv))] (fun H => zMz E o za fs z H) (some (.int (nI 0))) := by
  refine zRO.ofZ (maxL := 6) rfl (Nat.le_of_ble_eq_true rfl) (fun p e s m args below meth c H Q hF hP hret ls hl => ?_)
  have S : CallFix p m c cX6_areAlike 6 s args wsX6_areAlike RX6 := hF.1
  have hG := hF.2
  obtain ⟨hx, hb, hml, hown, hts⟩ := id S
  obtain ⟨h1, h2⟩ := hP
  have hnc := znc_le (lv := lv) hn.2
  have hl : lv_has ls 6 [(0, .ref (o)), (1, .int (nI (i))), (2, .int (nI (i2))), (3, .int (nI (lv)))] := hl
  refine lv_iconst (v := nI (0)) hx hb dX6_areAlike_0 (by decide) ?_
  refine lv_istore (lv' := [(4, .int (nI (0))), (0, .ref (o)), (1, .int (nI (i))), (2, .int (nI (i2))), (3, .int (nI (lv)))]) hx hb dX6_areAlike_1 hl (by decide) rfl (fun ls hl => ?_)
  refine lv_iconst (v := nI (0)) hx hb dX6_areAlike_3 (by decide) ?_
  refine lv_istore (lv' := [(5, .int (nI (0))), (4, .int (nI (0))), (0, .ref (o)), (1, .int (nI (i))), (2, .int (nI (i2))), (3, .int (nI (lv)))]) hx hb dX6_areAlike_4 hl (by decide) rfl (fun ls hl => ?_)
  refine lv_iload hx hb dX6_areAlike_6 (lv_at hl 0 rfl) ?_
  refine lv_aload_n hx hb dX6_areAlike_8 rfl (lv_at hl 2 rfl) ?_
  refine lv_iload_n hx hb dX6_areAlike_9 rfl (lv_at hl 3 rfl) ?_
  refine z_roV (As := [.int (nI (i))]) (rest := [.int (nI (0))]) (q := (RX6, TX6, 11)) S hG (c_X6_slots E hi hr.1) 1 gX6_areAlike_X6_slots rfl kX6_slots ⟨Nat.le_of_ble_eq_true rfl, Nat.le_of_ble_eq_true rfl⟩ ⟨Nat.zero_le _, Nat.zero_le _⟩ (⟨h1, h2⟩) rfl h1 rfl hl.1 rfl rfl (Nat.le_of_ble_eq_true rfl) dX6_areAlike_10 ?_
  refine lv_iload_n hx hb dX6_areAlike_13 rfl (lv_at hl 5 rfl) ?_
  refine z_roSX (As := [.int (nI (n)), .int (nI (lv))]) (rest := [.int (nI (0))]) S hG (c_X6_changes E hlv) 2 gX6_areAlike_X6_changes rfl kX6_changes.2 ⟨Nat.le_of_ble_eq_true rfl, Nat.le_of_ble_eq_true rfl⟩ ⟨Nat.zero_le _, Nat.zero_le _⟩ (trivial) rfl hl.1 rfl rfl (Nat.le_of_ble_eq_true rfl) dX6_areAlike_14 ?_
  refine z_cge (tgt := 63) hx hb dX6_areAlike_17 (by decide) ⟨by omega, by omega⟩ (fun c_1 => ?_) (fun c_1 => ?_)
  · refine lv_iload hx hb dX6_areAlike_63 (lv_at hl 1 rfl) ?_
    exact hret _ _ _ dX6_areAlike_65 (by first | exact Or.inl rfl | exact Or.inr rfl) (rfl)
  · refine lv_aload_n hx hb dX6_areAlike_20 rfl (lv_at hl 2 rfl) ?_
    refine lv_iload_n hx hb dX6_areAlike_21 rfl (lv_at hl 3 rfl) ?_
    refine z_roV (As := [.int (nI (i))]) (rest := []) (q := (RX6, TX6, 11)) S hG (c_X6_slots E hi hr.1) 1 gX6_areAlike_X6_slots rfl kX6_slots ⟨Nat.le_of_ble_eq_true rfl, Nat.le_of_ble_eq_true rfl⟩ ⟨Nat.zero_le _, Nat.zero_le _⟩ (⟨h1, h2⟩) rfl h1 rfl hl.1 rfl rfl (Nat.le_of_ble_eq_true rfl) dX6_areAlike_22 ?_
    refine lv_aload_n hx hb dX6_areAlike_25 rfl (lv_at hl 2 rfl) ?_
    refine lv_iload_n hx hb dX6_areAlike_26 rfl (lv_at hl 4 rfl) ?_
    refine z_roV (As := [.int (nI (i2))]) (rest := [.int (nI (n))]) (q := (RX6, TX6, 11)) S hG (c_X6_slots E hi2 hr2.1) 1 gX6_areAlike_X6_slots rfl kX6_slots ⟨Nat.le_of_ble_eq_true rfl, Nat.le_of_ble_eq_true rfl⟩ ⟨Nat.zero_le _, Nat.zero_le _⟩ (⟨h1, h2⟩) rfl h1 rfl hl.1 rfl rfl (Nat.le_of_ble_eq_true rfl) dX6_areAlike_27 ?_
    refine z_cne (tgt := 63) hx hb dX6_areAlike_30 (by decide) ⟨by omega, by omega⟩ (fun c_2 => ?_) (fun c_2 => by exfalso; omega)
    refine lv_iload hx hb dX6_areAlike_63 (lv_at hl 1 rfl) ?_
    exact hret _ _ _ dX6_areAlike_65 (by first | exact Or.inl rfl | exact Or.inr rfl) (rfl)

set_option maxHeartbeats 4000000 in
set_option maxRecDepth 100000 in
theorem c_X6_compare (E : zEnv) {o za : Nat} {fs : List Value} {z : Nat → Int32} {i n : Nat} {f : Nat → Int32} {lv ch dh : Nat} (hi : i < 6) (hn : 0 < n ∧ n ≤ 16) (hr : zmr z i n f) (hlv : lv ≤ 2) (h4 : n % 4 = 0) (hch : ch < znc lv n) (hdh : dh < znc lv n) : zRO E yX6_compare wsX6_compare 3 70 [.ref (o), .int (nI (i)), .int (nI (lv)), .int (nI (ch)), .int (nI (dh))] (fun H => zMz E o za fs z H) (some (.int (zdx (zimg n f (zchg lv ch n)) (zimg n f (zchg lv dh n)) n))) := by
  refine zRO.ofI (maxL := 6) rfl (Nat.le_of_ble_eq_true rfl) (fun p e s m args below meth c H Q hF hP hret ls hl => ?_)
  have S : CallFix p m c cX6_compare 6 s args wsX6_compare RX6 := hF.1
  have hG := hF.2
  obtain ⟨hx, hb, hml, hown, hts⟩ := id S
  obtain ⟨h1, h2⟩ := hP
  have hl : lv_has ls 6 [(0, .ref (o)), (1, .int (nI (i))), (2, .int (nI (lv))), (3, .int (nI (ch))), (4, .int (nI (dh)))] := hl
  refine lv_iconst (v := nI (0)) hx hb dX6_compare_0 (by decide) ?_
  refine lv_istore (lv' := [(5, .int (nI (0))), (0, .ref (o)), (1, .int (nI (i))), (2, .int (nI (lv))), (3, .int (nI (ch))), (4, .int (nI (dh)))]) hx hb dX6_compare_1 hl (by decide) rfl (fun ls hl => ?_)
  have L3 : ∀ (dd : Nat) (j : Nat), n - j < dd → j ≤ n → zlx (zimg n f (zchg lv ch n)) (zimg n f (zchg lv dh n)) j = 0 → ∀ (ls : Array Slot), lv_has ls 6 [(0, .ref (o)), (1, .int (nI (i))), (2, .int (nI (lv))), (3, .int (nI (ch))), (4, .int (nI (dh))), (5, .int (nI (j)))] → W p (zl E) e (zRm 3 70) s m args below meth c H [] 0 0 Q (F0 m 3 ls []) := by
    intro dd
    induction dd with
    | zero => intro j hdd; exact absurd hdd (Nat.not_lt_zero _)
    | succ dd ih3 =>
      intro j hdd3 hj hlx ls hl
      refine lv_iload hx hb dX6_compare_3 (lv_at hl 5 rfl) ?_
      refine lv_aload_n hx hb dX6_compare_5 rfl (lv_at hl 0 rfl) ?_
      refine lv_iload_n hx hb dX6_compare_6 rfl (lv_at hl 1 rfl) ?_
      refine z_roV (As := [.int (nI (i))]) (rest := [.int (nI (j))]) (q := (RX6, TX6, 11)) S hG (c_X6_slots E hi hr.1) 1 gX6_compare_X6_slots rfl kX6_slots ⟨Nat.le_of_ble_eq_true rfl, Nat.le_of_ble_eq_true rfl⟩ ⟨Nat.zero_le _, Nat.zero_le _⟩ (⟨h1, h2⟩) rfl h1 rfl hl.1 rfl rfl (Nat.le_of_ble_eq_true rfl) dX6_compare_7 ?_
      refine z_cge (tgt := 41) hx hb dX6_compare_10 (by decide) ⟨by omega, by omega⟩ (fun c_1 => ?_) (fun c_1 => ?_)
      · refine lv_iload hx hb dX6_compare_41 (lv_at hl 5 rfl) ?_
        refine lv_aload_n hx hb dX6_compare_43 rfl (lv_at hl 0 rfl) ?_
        refine lv_iload_n hx hb dX6_compare_44 rfl (lv_at hl 1 rfl) ?_
        refine z_roV (As := [.int (nI (i))]) (rest := [.int (nI (j))]) (q := (RX6, TX6, 11)) S hG (c_X6_slots E hi hr.1) 1 gX6_compare_X6_slots rfl kX6_slots ⟨Nat.le_of_ble_eq_true rfl, Nat.le_of_ble_eq_true rfl⟩ ⟨Nat.zero_le _, Nat.zero_le _⟩ (⟨h1, h2⟩) rfl h1 rfl hl.1 rfl rfl (Nat.le_of_ble_eq_true rfl) dX6_compare_45 ?_
        refine z_cne (tgt := 55) hx hb dX6_compare_48 (by decide) ⟨by omega, by omega⟩ (fun c_2 => by exfalso; omega) (fun c_2 => ?_)
        refine lv_iconst (v := nI (0)) hx hb dX6_compare_51 (by decide) ?_
        refine lv_goto (tgt := 75) hx hb dX6_compare_52 (by decide) ?_
        exact hret _ _ _ dX6_compare_75 (by have e9 : j = n := (by omega); rw [e9] at hlx; exact zsi (zdx_0 hlx))
      · refine lv_aload_n hx hb dX6_compare_13 rfl (lv_at hl 0 rfl) ?_
        refine lv_iload_n hx hb dX6_compare_14 rfl (lv_at hl 1 rfl) ?_
        refine lv_iload_n hx hb dX6_compare_15 rfl (lv_at hl 2 rfl) ?_
        refine lv_iload_n hx hb dX6_compare_16 rfl (lv_at hl 3 rfl) ?_
        refine lv_iload hx hb dX6_compare_17 (lv_at hl 5 rfl) ?_
        refine z_roV (As := [.int (nI (i)), .int (nI (lv)), .int (nI (ch)), .int (nI (j))]) (rest := []) (q := (RX6, TX6, 11)) S hG (c_X6_behind E (ch := ch) (j := j) hi hn hr hlv h4 (by omega) (by omega)) 4 gX6_compare_X6_behind rfl kX6_behind ⟨Nat.le_of_ble_eq_true rfl, Nat.le_of_ble_eq_true rfl⟩ ⟨Nat.zero_le _, Nat.zero_le _⟩ (⟨h1, h2⟩) rfl h1 rfl hl.1 rfl rfl (Nat.le_of_ble_eq_true rfl) dX6_compare_19 ?_
        refine lv_aload_n hx hb dX6_compare_22 rfl (lv_at hl 0 rfl) ?_
        refine lv_iload_n hx hb dX6_compare_23 rfl (lv_at hl 1 rfl) ?_
        refine lv_iload_n hx hb dX6_compare_24 rfl (lv_at hl 2 rfl) ?_
        refine lv_iload hx hb dX6_compare_25 (lv_at hl 4 rfl) ?_
        refine lv_iload hx hb dX6_compare_27 (lv_at hl 5 rfl) ?_
        refine z_roV (As := [.int (nI (i)), .int (nI (lv)), .int (nI (dh)), .int (nI (j))]) (rest := [.int (zimg n f (zchg lv ch n) j)]) (q := (RX6, TX6, 11)) S hG (c_X6_behind E (ch := dh) (j := j) hi hn hr hlv h4 (by omega) (by omega)) 4 gX6_compare_X6_behind rfl kX6_behind ⟨Nat.le_of_ble_eq_true rfl, Nat.le_of_ble_eq_true rfl⟩ ⟨Nat.zero_le _, Nat.zero_le _⟩ (⟨h1, h2⟩) rfl h1 rfl hl.1 rfl rfl (Nat.le_of_ble_eq_true rfl) dX6_compare_29 ?_
        refine lv_icmp_ne (tgt := 41) hx hb dX6_compare_32 (by decide) (fun c_3 => ?_) (fun c_3 => ?_)
        · refine lv_iload hx hb dX6_compare_41 (lv_at hl 5 rfl) ?_
          refine lv_aload_n hx hb dX6_compare_43 rfl (lv_at hl 0 rfl) ?_
          refine lv_iload_n hx hb dX6_compare_44 rfl (lv_at hl 1 rfl) ?_
          refine z_roV (As := [.int (nI (i))]) (rest := [.int (nI (j))]) (q := (RX6, TX6, 11)) S hG (c_X6_slots E hi hr.1) 1 gX6_compare_X6_slots rfl kX6_slots ⟨Nat.le_of_ble_eq_true rfl, Nat.le_of_ble_eq_true rfl⟩ ⟨Nat.zero_le _, Nat.zero_le _⟩ (⟨h1, h2⟩) rfl h1 rfl hl.1 rfl rfl (Nat.le_of_ble_eq_true rfl) dX6_compare_45 ?_
          refine z_cne (tgt := 55) hx hb dX6_compare_48 (by decide) ⟨by omega, by omega⟩ (fun c_4 => ?_) (fun c_4 => by exfalso; omega)
          refine lv_aload_n hx hb dX6_compare_55 rfl (lv_at hl 0 rfl) ?_
          refine lv_iload_n hx hb dX6_compare_56 rfl (lv_at hl 1 rfl) ?_
          refine lv_iload_n hx hb dX6_compare_57 rfl (lv_at hl 2 rfl) ?_
          refine lv_iload_n hx hb dX6_compare_58 rfl (lv_at hl 3 rfl) ?_
          refine lv_iload hx hb dX6_compare_59 (lv_at hl 5 rfl) ?_
          refine z_roV (As := [.int (nI (i)), .int (nI (lv)), .int (nI (ch)), .int (nI (j))]) (rest := []) (q := (RX6, TX6, 11)) S hG (c_X6_behind E (ch := ch) (j := j) hi hn hr hlv h4 (by omega) (by omega)) 4 gX6_compare_X6_behind rfl kX6_behind ⟨Nat.le_of_ble_eq_true rfl, Nat.le_of_ble_eq_true rfl⟩ ⟨Nat.zero_le _, Nat.zero_le _⟩ (⟨h1, h2⟩) rfl h1 rfl hl.1 rfl rfl (Nat.le_of_ble_eq_true rfl) dX6_compare_61 ?_
          refine lv_aload_n hx hb dX6_compare_64 rfl (lv_at hl 0 rfl) ?_
          refine lv_iload_n hx hb dX6_compare_65 rfl (lv_at hl 1 rfl) ?_
          refine lv_iload_n hx hb dX6_compare_66 rfl (lv_at hl 2 rfl) ?_
          refine lv_iload hx hb dX6_compare_67 (lv_at hl 4 rfl) ?_
          refine lv_iload hx hb dX6_compare_69 (lv_at hl 5 rfl) ?_
          refine z_roV (As := [.int (nI (i)), .int (nI (lv)), .int (nI (dh)), .int (nI (j))]) (rest := [.int (zimg n f (zchg lv ch n) j)]) (q := (RX6, TX6, 11)) S hG (c_X6_behind E (ch := dh) (j := j) hi hn hr hlv h4 (by omega) (by omega)) 4 gX6_compare_X6_behind rfl kX6_behind ⟨Nat.le_of_ble_eq_true rfl, Nat.le_of_ble_eq_true rfl⟩ ⟨Nat.zero_le _, Nat.zero_le _⟩ (⟨h1, h2⟩) rfl h1 rfl hl.1 rfl rfl (Nat.le_of_ble_eq_true rfl) dX6_compare_71 ?_
          refine lv_isub hx hb dX6_compare_74 ?_
          exact hret _ _ _ dX6_compare_75 (zsi (zdx_at (by omega) hlx c_3))
        · refine lv_iinc (v := nI (j + 1)) (lv' := [(5, .int (nI (j + 1))), (0, .ref (o)), (1, .int (nI (i))), (2, .int (nI (lv))), (3, .int (nI (ch))), (4, .int (nI (dh)))]) hx hb dX6_compare_35 hl (k := 5) rfl (z_inc1 _) (by decide) rfl (fun ls hl => ?_)
          refine lv_goto (tgt := 3) hx hb dX6_compare_38 (by decide) ?_
          have hl9 := lv_sub hl [1, 2, 3, 4, 5, 0] (l' := [(0, .ref (o)), (1, .int (nI (i))), (2, .int (nI (lv))), (3, .int (nI (ch))), (4, .int (nI (dh))), (5, .int (nI (j + 1)))]) rfl
          have e9_5 : (j + 1) = ((j + 1)) := by omega
          exact ih3 (j + 1) (by omega) (by omega) (zlx_eq hlx c_3) ls (by rw [← e9_5]; exact hl9)
  exact L3 ((n - (0)) + 1) (0) (Nat.lt_succ_self _) (Nat.zero_le _) (rfl) ls (lv_sub hl [1, 2, 3, 4, 5, 0] rfl)

set_option maxHeartbeats 4000000 in
set_option maxRecDepth 100000 in
theorem c_X6_leastChange (E : zEnv) {o za : Nat} {fs : List Value} {z : Nat → Int32} {i n : Nat} {f : Nat → Int32} {lv : Nat} (hi : i < 6) (hn : 0 < n ∧ n ≤ 16) (hr : zmr z i n f) (hlv : lv ≤ 2) (h4 : n % 4 = 0) (hk : ∀ s, s < n → zk (f s)) : zRO E yX6_leastChange wsX6_leastChange 4 95 [.ref (o), .int (nI (i)), .int (nI (lv))] (fun H => zMz E o za fs z H) (some (.int (nI (zli n f lv (znc lv n))))) := by
  refine zRO.ofI (maxL := 5) rfl (Nat.le_of_ble_eq_true rfl) (fun p e s m args below meth c H Q hF hP hret ls hl => ?_)
  have S : CallFix p m c cX6_leastChange 5 s args wsX6_leastChange RX6 := hF.1
  have hG := hF.2
  obtain ⟨hx, hb, hml, hown, hts⟩ := id S
  obtain ⟨h1, h2⟩ := hP
  have hnc := znc_le (lv := lv) hn.2
  have hnp := znc_pos (lv := lv) hn.1
  have hl : lv_has ls 5 [(0, .ref (o)), (1, .int (nI (i))), (2, .int (nI (lv)))] := hl
  refine lv_iconst (v := nI (0)) hx hb dX6_leastChange_0 (by decide) ?_
  refine lv_istore_n (lv' := [(3, .int (nI (0))), (0, .ref (o)), (1, .int (nI (i))), (2, .int (nI (lv)))]) hx hb dX6_leastChange_1 rfl hl (by decide) rfl (fun ls hl => ?_)
  refine lv_iconst (v := nI (1)) hx hb dX6_leastChange_2 (by decide) ?_
  refine lv_istore (lv' := [(4, .int (nI (1))), (3, .int (nI (0))), (0, .ref (o)), (1, .int (nI (i))), (2, .int (nI (lv)))]) hx hb dX6_leastChange_3 hl (by decide) rfl (fun ls hl => ?_)
  have L5 : ∀ (dd : Nat) (t : Nat), znc lv n - t < dd → t ≤ znc lv n → 0 < t → ∀ (ls : Array Slot), lv_has ls 5 [(0, .ref (o)), (1, .int (nI (i))), (2, .int (nI (lv))), (3, .int (nI (zli n f lv t))), (4, .int (nI (t)))] → W p (zl E) e (zRm 4 95) s m args below meth c H [] 0 0 Q (F0 m 5 ls []) := by
    intro dd
    induction dd with
    | zero => intro t hdd; exact absurd hdd (Nat.not_lt_zero _)
    | succ dd ih5 =>
      intro t hdd5 ht ht0 ls hl
      refine lv_iload hx hb dX6_leastChange_5 (lv_at hl 4 rfl) ?_
      refine lv_aload_n hx hb dX6_leastChange_7 rfl (lv_at hl 0 rfl) ?_
      refine lv_iload_n hx hb dX6_leastChange_8 rfl (lv_at hl 1 rfl) ?_
      refine z_roV (As := [.int (nI (i))]) (rest := [.int (nI (t))]) (q := (RX6, TX6, 11)) S hG (c_X6_slots E hi hr.1) 1 gX6_leastChange_X6_slots rfl kX6_slots ⟨Nat.le_of_ble_eq_true rfl, Nat.le_of_ble_eq_true rfl⟩ ⟨Nat.zero_le _, Nat.zero_le _⟩ (⟨h1, h2⟩) rfl h1 rfl hl.1 rfl rfl (Nat.le_of_ble_eq_true rfl) dX6_leastChange_9 ?_
      refine lv_iload_n hx hb dX6_leastChange_12 rfl (lv_at hl 2 rfl) ?_
      refine z_roSX (As := [.int (nI (n)), .int (nI (lv))]) (rest := [.int (nI (t))]) S hG (c_X6_changes E hlv) 2 gX6_leastChange_X6_changes rfl kX6_changes.2 ⟨Nat.le_of_ble_eq_true rfl, Nat.le_of_ble_eq_true rfl⟩ ⟨Nat.zero_le _, Nat.zero_le _⟩ (trivial) rfl hl.1 rfl rfl (Nat.le_of_ble_eq_true rfl) dX6_leastChange_13 ?_
      refine z_cge (tgt := 44) hx hb dX6_leastChange_16 (by decide) ⟨by omega, by omega⟩ (fun c_1 => ?_) (fun c_1 => ?_)
      · refine lv_iload_n hx hb dX6_leastChange_44 rfl (lv_at hl 3 rfl) ?_
        exact hret _ _ _ dX6_leastChange_45 (by rw [show t = znc lv n by omega])
      · refine lv_aload_n hx hb dX6_leastChange_19 rfl (lv_at hl 0 rfl) ?_
        refine lv_iload_n hx hb dX6_leastChange_20 rfl (lv_at hl 1 rfl) ?_
        refine lv_iload_n hx hb dX6_leastChange_21 rfl (lv_at hl 2 rfl) ?_
        refine lv_iload hx hb dX6_leastChange_22 (lv_at hl 4 rfl) ?_
        refine lv_iload_n hx hb dX6_leastChange_24 rfl (lv_at hl 3 rfl) ?_
        refine z_roV (As := [.int (nI (i)), .int (nI (lv)), .int (nI (t)), .int (nI (zli n f lv t))]) (rest := []) (q := (RX6, TX6, 11)) S hG (c_X6_compare E (ch := t) (dh := zli n f lv t) hi hn hr hlv h4 (by omega) (Nat.lt_of_lt_of_le (zlc_lt (by omega)) ht)) 4 gX6_leastChange_X6_compare rfl kX6_compare ⟨Nat.le_of_ble_eq_true rfl, Nat.le_of_ble_eq_true rfl⟩ ⟨Nat.zero_le _, Nat.zero_le _⟩ (⟨h1, h2⟩) rfl h1 rfl hl.1 rfl rfl (Nat.le_of_ble_eq_true rfl) dX6_leastChange_25 ?_
        refine lv_if_ge (tgt := 36) hx hb dX6_leastChange_28 (by decide) (fun c_2 => ?_) (fun c_2 => ?_)
        · refine lv_iload_n hx hb dX6_leastChange_36 rfl (lv_at hl 3 rfl) ?_
          refine lv_istore_n (lv' := [(3, .int (nI (zli n f lv t))), (0, .ref (o)), (1, .int (nI (i))), (2, .int (nI (lv))), (4, .int (nI (t)))]) hx hb dX6_leastChange_37 rfl hl (by decide) rfl (fun ls hl => ?_)
          refine lv_iinc (v := nI (t + 1)) (lv' := [(4, .int (nI (t + 1))), (3, .int (nI (zli n f lv t))), (0, .ref (o)), (1, .int (nI (i))), (2, .int (nI (lv)))]) hx hb dX6_leastChange_38 hl (k := 4) rfl (z_inc1 _) (by decide) rfl (fun ls hl => ?_)
          refine lv_goto (tgt := 5) hx hb dX6_leastChange_41 (by decide) ?_
          have hl9 := lv_sub hl [2, 3, 4, 1, 0] (l' := [(0, .ref (o)), (1, .int (nI (i))), (2, .int (nI (lv))), (3, .int (nI (zli n f lv t))), (4, .int (nI (t + 1)))]) rfl
          have e9_3 : (zli n f lv t) = (zli n f lv (t + 1)) := by rw [zli_f (zlt_nf (fun w => absurd ((zlt_dx hn.1 hk).mpr w) (Int32.not_lt.mpr c_2)))]
          have e9_4 : (t + 1) = ((t + 1)) := by omega
          exact ih5 (t + 1) (by omega) (by omega) (by omega) ls (by rw [← e9_3, ← e9_4]; exact hl9)
        · refine lv_iload hx hb dX6_leastChange_31 (lv_at hl 4 rfl) ?_
          refine lv_goto (tgt := 37) hx hb dX6_leastChange_33 (by decide) ?_
          refine lv_istore_n (lv' := [(3, .int (nI (t))), (0, .ref (o)), (1, .int (nI (i))), (2, .int (nI (lv))), (4, .int (nI (t)))]) hx hb dX6_leastChange_37 rfl hl (by decide) rfl (fun ls hl => ?_)
          refine lv_iinc (v := nI (t + 1)) (lv' := [(4, .int (nI (t + 1))), (3, .int (nI (t))), (0, .ref (o)), (1, .int (nI (i))), (2, .int (nI (lv)))]) hx hb dX6_leastChange_38 hl (k := 4) rfl (z_inc1 _) (by decide) rfl (fun ls hl => ?_)
          refine lv_goto (tgt := 5) hx hb dX6_leastChange_41 (by decide) ?_
          have hl9 := lv_sub hl [2, 3, 4, 1, 0] (l' := [(0, .ref (o)), (1, .int (nI (i))), (2, .int (nI (lv))), (3, .int (nI (t))), (4, .int (nI (t + 1)))]) rfl
          have e9_3 : (t) = (zli n f lv (t + 1)) := by rw [zli_t ((zlt_dx hn.1 hk).mp (Int32.not_le.mp c_2))]
          have e9_4 : (t + 1) = ((t + 1)) := by omega
          exact ih5 (t + 1) (by omega) (by omega) (by omega) ls (by rw [← e9_3, ← e9_4]; exact hl9)
  rw [show nI (0) = nI (zli n f lv 1) by rw [zli_10]] at hl
  exact L5 ((znc lv n - (1)) + 1) (1) (Nat.lt_succ_self _) (hnp) (by decide) ls (lv_sub hl [2, 3, 4, 1, 0] rfl)

set_option maxHeartbeats 4000000 in
set_option maxRecDepth 100000 in
theorem c_X6_isAt (E : zEnv) {o za : Nat} {fs : List Value} {z : Nat → Int32} {i n : Nat} {f : Nat → Int32} {j ml : Nat} {sg : Nat → Int32} (hi : i < 6) (hn : 0 < n ∧ n ≤ 16) (hr : zmr z i n f) (hj : j < n) (hmn : z 112 = nI ml ∧ ml ≤ 6) (hsg : ∀ t, t < ml → z (113 + t) = sg t) : zRO E yX6_isAt wsX6_isAt 2 43 [.ref (o), .int (nI (i)), .int (nI (j))] (fun H => zMz E o za fs z H) (some (.int (zb (zmt ml sg n f j)))) := by
  refine zRO.ofZ (maxL := 5) rfl (Nat.le_of_ble_eq_true rfl) (fun p e s m args below meth c H Q hF hP hret ls hl => ?_)
  have S : CallFix p m c cX6_isAt 5 s args wsX6_isAt RX6 := hF.1
  have hG := hF.2
  obtain ⟨hx, hb, hml, hown, hts⟩ := id S
  obtain ⟨h1, h2⟩ := hP
  have hl : lv_has ls 5 [(0, .ref (o)), (1, .int (nI (i))), (2, .int (nI (j)))] := hl
  have hin6 : ∀ w ∈ u_ws RX6 TX6 11, w ∈ wsX6_isAt := by decide +kernel
  refine lv_aload_n hx hb dX6_isAt_0 rfl (lv_at hl 0 rfl) ?_
  refine z_get (ref := RX6) (C := RX6) (T := TX6) (N := 11) hx hb hts hin6 hown hG h1 rfl 0 (by decide) (by decide +kernel) rfl rfl dX6_isAt_1 ?_
  refine lv_bipush (v := nI (112)) hx hb dX6_isAt_4 (by decide) ?_
  refine z_iald (j := 112) hx hb hG h2 ⟨by omega, by omega⟩ dX6_isAt_6 ?_
  refine z_top (y := nI (ml)) (hmn.1) ?_
  refine z_fle (tgt := 29) hx hb dX6_isAt_7 (by decide) (by omega) (fun c_1 => ?_) (fun c_1 => ?_)
  · refine lv_iconst (v := nI (0)) hx hb dX6_isAt_29 (by decide) ?_
    refine z_top (y := zb (decide (0 < ml ∧ ml ≤ n))) (zb_f' (decide_eq_false (by omega))) ?_
    refine lv_istore_n (lv' := [(3, .int (zb (decide (0 < ml ∧ ml ≤ n)))), (0, .ref (o)), (1, .int (nI (i))), (2, .int (nI (j)))]) hx hb dX6_isAt_30 rfl hl (by decide) rfl (fun ls hl => ?_)
    refine lv_iconst (v := nI (0)) hx hb dX6_isAt_31 (by decide) ?_
    refine lv_istore (lv' := [(4, .int (nI (0))), (3, .int (zb (decide (0 < ml ∧ ml ≤ n)))), (0, .ref (o)), (1, .int (nI (i))), (2, .int (nI (j)))]) hx hb dX6_isAt_32 hl (by decide) rfl (fun ls hl => ?_)
    have L34 : ∀ (dd : Nat) (t : Nat), ml - t < dd → t ≤ ml → ∀ (ls : Array Slot), lv_has ls 5 [(0, .ref (o)), (1, .int (nI (i))), (2, .int (nI (j))), (3, .int (zb (zmp ml sg n f j t))), (4, .int (nI (t)))] → W p (zl E) e (zRm 2 43) s m args below meth c H [] 0 0 Q (F0 m 34 ls []) := by
      intro dd
      induction dd with
      | zero => intro t hdd; exact absurd hdd (Nat.not_lt_zero _)
      | succ dd ih34 =>
        intro t hdd34 ht ls hl
        refine lv_iload hx hb dX6_isAt_34 (lv_at hl 4 rfl) ?_
        refine lv_aload_n hx hb dX6_isAt_36 rfl (lv_at hl 0 rfl) ?_
        refine z_get (ref := RX6) (C := RX6) (T := TX6) (N := 11) hx hb hts hin6 hown hG h1 rfl 0 (by decide) (by decide +kernel) rfl rfl dX6_isAt_37 ?_
        refine lv_bipush (v := nI (112)) hx hb dX6_isAt_40 (by decide) ?_
        refine z_iald (j := 112) hx hb hG h2 ⟨by omega, by omega⟩ dX6_isAt_42 ?_
        refine z_top (y := nI (ml)) (hmn.1) ?_
        refine z_cge (tgt := 104) hx hb dX6_isAt_43 (by decide) ⟨by omega, by omega⟩ (fun c_2 => ?_) (fun c_2 => ?_)
        · refine lv_iload_n hx hb dX6_isAt_104 rfl (lv_at hl 3 rfl) ?_
          exact hret _ _ _ dX6_isAt_105 (by cases zmp ml sg n f j t; exact Or.inl rfl; exact Or.inr rfl) (by rw [show t = ml by omega]; rfl)
        · refine lv_iload_n hx hb dX6_isAt_46 rfl (lv_at hl 3 rfl) ?_
          refine z_beq (tgt := 104) hx hb dX6_isAt_47 (by decide) (fun c_3 => ?_) (fun c_3 => ?_)
          · refine lv_iload_n hx hb dX6_isAt_104 rfl (lv_at hl 3 rfl) ?_
            exact hret _ _ _ dX6_isAt_105 (by cases zmp ml sg n f j t; exact Or.inl rfl; exact Or.inr rfl) (by rw [c_3, zmp_e ht c_3])
          · refine lv_aload_n hx hb dX6_isAt_50 rfl (lv_at hl 0 rfl) ?_
            refine z_get (ref := RX6) (C := RX6) (T := TX6) (N := 11) hx hb hts hin6 hown hG h1 rfl 0 (by decide) (by decide +kernel) rfl rfl dX6_isAt_51 ?_
            refine lv_bipush (v := nI (113)) hx hb dX6_isAt_54 (by decide) ?_
            refine lv_iload hx hb dX6_isAt_56 (lv_at hl 4 rfl) ?_
            refine z_iadd hx hb dX6_isAt_58 ?_
            refine z_iald (j := 113 + t) hx hb hG h2 ⟨by omega, by omega⟩ dX6_isAt_59 ?_
            refine z_top (y := (sg t)) (hsg _ (by omega)) ?_
            refine lv_bipush (v := nI (9)) hx hb dX6_isAt_60 (by decide) ?_
            refine lv_icmp_eq (tgt := 92) hx hb dX6_isAt_62 (by decide) (fun c_4 => ?_) (fun c_4 => ?_)
            · refine lv_iconst (v := nI (1)) hx hb dX6_isAt_92 (by decide) ?_
              refine lv_goto (tgt := 97) hx hb dX6_isAt_93 (by decide) ?_
              refine lv_istore_n (lv' := [(3, .int (nI (1))), (0, .ref (o)), (1, .int (nI (i))), (2, .int (nI (j))), (4, .int (nI (t)))]) hx hb dX6_isAt_97 rfl hl (by decide) rfl (fun ls hl => ?_)
              refine lv_iinc (v := nI (t + 1)) (lv' := [(4, .int (nI (t + 1))), (3, .int (nI (1))), (0, .ref (o)), (1, .int (nI (i))), (2, .int (nI (j)))]) hx hb dX6_isAt_98 hl (k := 4) rfl (z_inc1 _) (by decide) rfl (fun ls hl => ?_)
              refine lv_goto (tgt := 34) hx hb dX6_isAt_101 (by decide) ?_
              have hl9 := lv_sub hl [2, 3, 4, 1, 0] (l' := [(0, .ref (o)), (1, .int (nI (i))), (2, .int (nI (j))), (3, .int (nI (1))), (4, .int (nI (t + 1)))]) rfl
              have e9_3 : (nI (1)) = (zb (zmp ml sg n f j (t + 1))) := zb_t' (by first | exact zmp_t c_3 (Or.inl c_4) | exact zmp_t c_2 (Or.inr c_4))
              have e9_4 : (t + 1) = ((t + 1)) := by omega
              exact ih34 (t + 1) (by omega) (by omega) ls (by rw [← e9_3, ← e9_4]; exact hl9)
            · refine lv_aload_n hx hb dX6_isAt_65 rfl (lv_at hl 0 rfl) ?_
              refine z_get (ref := RX6) (C := RX6) (T := TX6) (N := 11) hx hb hts hin6 hown hG h1 rfl 0 (by decide) (by decide +kernel) rfl rfl dX6_isAt_66 ?_
              refine lv_bipush (v := nI (113)) hx hb dX6_isAt_69 (by decide) ?_
              refine lv_iload hx hb dX6_isAt_71 (lv_at hl 4 rfl) ?_
              refine z_iadd hx hb dX6_isAt_73 ?_
              refine z_iald (j := 113 + t) hx hb hG h2 ⟨by omega, by omega⟩ dX6_isAt_74 ?_
              refine z_top (y := (sg t)) (hsg _ (by omega)) ?_
              refine lv_aload_n hx hb dX6_isAt_75 rfl (lv_at hl 0 rfl) ?_
              refine z_get (ref := RX6) (C := RX6) (T := TX6) (N := 11) hx hb hts hin6 hown hG h1 rfl 0 (by decide) (by decide +kernel) rfl rfl dX6_isAt_76 ?_
              refine lv_aload_n hx hb dX6_isAt_79 rfl (lv_at hl 0 rfl) ?_
              refine lv_iload_n hx hb dX6_isAt_80 rfl (lv_at hl 1 rfl) ?_
              refine lv_iload_n hx hb dX6_isAt_81 rfl (lv_at hl 2 rfl) ?_
              refine lv_iload hx hb dX6_isAt_82 (lv_at hl 4 rfl) ?_
              refine z_iadd hx hb dX6_isAt_84 ?_
              refine z_roV (As := [.int (nI (i)), .int (nI (j + t))]) (rest := [.ref (za), .int (sg t)]) (q := (RX6, TX6, 11)) S hG (c_X6_at_m E (j := j + t) hi hr.1 (by omega)) 2 gX6_isAt_X6_at rfl kX6_at ⟨Nat.le_of_ble_eq_true rfl, Nat.le_of_ble_eq_true rfl⟩ ⟨Nat.zero_le _, Nat.zero_le _⟩ (⟨h1, h2⟩) rfl h1 rfl hl.1 rfl rfl (Nat.le_of_ble_eq_true rfl) dX6_isAt_85 ?_
              refine z_iald (j := 10 + 17 * i + 1 + (j + t) % n) hx hb hG h2 ⟨by have h9 := Nat.mod_lt (j + t) hn.1; omega, by omega⟩ dX6_isAt_88 ?_
              refine z_top (y := (f ((j + t) % n))) (hr.2 _ (Nat.mod_lt _ hn.1)) ?_
              refine lv_icmp_ne (tgt := 96) hx hb dX6_isAt_89 (by decide) (fun c_5 => ?_) (fun c_5 => ?_)
              · refine lv_iconst (v := nI (0)) hx hb dX6_isAt_96 (by decide) ?_
                refine lv_istore_n (lv' := [(3, .int (nI (0))), (0, .ref (o)), (1, .int (nI (i))), (2, .int (nI (j))), (4, .int (nI (t)))]) hx hb dX6_isAt_97 rfl hl (by decide) rfl (fun ls hl => ?_)
                refine lv_iinc (v := nI (t + 1)) (lv' := [(4, .int (nI (t + 1))), (3, .int (nI (0))), (0, .ref (o)), (1, .int (nI (i))), (2, .int (nI (j)))]) hx hb dX6_isAt_98 hl (k := 4) rfl (z_inc1 _) (by decide) rfl (fun ls hl => ?_)
                refine lv_goto (tgt := 34) hx hb dX6_isAt_101 (by decide) ?_
                have hl9 := lv_sub hl [2, 3, 4, 1, 0] (l' := [(0, .ref (o)), (1, .int (nI (i))), (2, .int (nI (j))), (3, .int (nI (0))), (4, .int (nI (t + 1)))]) rfl
                have e9_3 : (nI (0)) = (zb (zmp ml sg n f j (t + 1))) := zb_f' (zmp_f c_4 c_5)
                have e9_4 : (t + 1) = ((t + 1)) := by omega
                exact ih34 (t + 1) (by omega) (by omega) ls (by rw [← e9_3, ← e9_4]; exact hl9)
              · refine lv_iconst (v := nI (1)) hx hb dX6_isAt_92 (by decide) ?_
                refine lv_goto (tgt := 97) hx hb dX6_isAt_93 (by decide) ?_
                refine lv_istore_n (lv' := [(3, .int (nI (1))), (0, .ref (o)), (1, .int (nI (i))), (2, .int (nI (j))), (4, .int (nI (t)))]) hx hb dX6_isAt_97 rfl hl (by decide) rfl (fun ls hl => ?_)
                refine lv_iinc (v := nI (t + 1)) (lv' := [(4, .int (nI (t + 1))), (3, .int (nI (1))), (0, .ref (o)), (1, .int (nI (i))), (2, .int (nI (j)))]) hx hb dX6_isAt_98 hl (k := 4) rfl (z_inc1 _) (by decide) rfl (fun ls hl => ?_)
                refine lv_goto (tgt := 34) hx hb dX6_isAt_101 (by decide) ?_
                have hl9 := lv_sub hl [2, 3, 4, 1, 0] (l' := [(0, .ref (o)), (1, .int (nI (i))), (2, .int (nI (j))), (3, .int (nI (1))), (4, .int (nI (t + 1)))]) rfl
                have e9_3 : (nI (1)) = (zb (zmp ml sg n f j (t + 1))) := zb_t' (by first | exact zmp_t c_4 (Or.inl c_5) | exact zmp_t c_3 (Or.inr c_5))
                have e9_4 : (t + 1) = ((t + 1)) := by omega
                exact ih34 (t + 1) (by omega) (by omega) ls (by rw [← e9_3, ← e9_4]; exact hl9)
    exact L34 ((ml - (0)) + 1) (0) (Nat.lt_succ_self _) (Nat.zero_le _) ls (lv_sub hl [2, 3, 4, 1, 0] rfl)
  · refine lv_aload_n hx hb dX6_isAt_10 rfl (lv_at hl 0 rfl) ?_
    refine z_get (ref := RX6) (C := RX6) (T := TX6) (N := 11) hx hb hts hin6 hown hG h1 rfl 0 (by decide) (by decide +kernel) rfl rfl dX6_isAt_11 ?_
    refine lv_bipush (v := nI (112)) hx hb dX6_isAt_14 (by decide) ?_
    refine z_iald (j := 112) hx hb hG h2 ⟨by omega, by omega⟩ dX6_isAt_16 ?_
    refine z_top (y := nI (ml)) (hmn.1) ?_
    refine lv_aload_n hx hb dX6_isAt_17 rfl (lv_at hl 0 rfl) ?_
    refine lv_iload_n hx hb dX6_isAt_18 rfl (lv_at hl 1 rfl) ?_
    refine z_roV (As := [.int (nI (i))]) (rest := [.int (nI (ml))]) (q := (RX6, TX6, 11)) S hG (c_X6_slots E hi hr.1) 1 gX6_isAt_X6_slots rfl kX6_slots ⟨Nat.le_of_ble_eq_true rfl, Nat.le_of_ble_eq_true rfl⟩ ⟨Nat.zero_le _, Nat.zero_le _⟩ (⟨h1, h2⟩) rfl h1 rfl hl.1 rfl rfl (Nat.le_of_ble_eq_true rfl) dX6_isAt_19 ?_
    refine z_cgt (tgt := 29) hx hb dX6_isAt_22 (by decide) ⟨by omega, by omega⟩ (fun c_6 => ?_) (fun c_6 => ?_)
    · refine lv_iconst (v := nI (0)) hx hb dX6_isAt_29 (by decide) ?_
      refine z_top (y := zb (decide (0 < ml ∧ ml ≤ n))) (zb_f' (decide_eq_false (by omega))) ?_
      refine lv_istore_n (lv' := [(3, .int (zb (decide (0 < ml ∧ ml ≤ n)))), (0, .ref (o)), (1, .int (nI (i))), (2, .int (nI (j)))]) hx hb dX6_isAt_30 rfl hl (by decide) rfl (fun ls hl => ?_)
      refine lv_iconst (v := nI (0)) hx hb dX6_isAt_31 (by decide) ?_
      refine lv_istore (lv' := [(4, .int (nI (0))), (3, .int (zb (decide (0 < ml ∧ ml ≤ n)))), (0, .ref (o)), (1, .int (nI (i))), (2, .int (nI (j)))]) hx hb dX6_isAt_32 hl (by decide) rfl (fun ls hl => ?_)
      have L34 : ∀ (dd : Nat) (t : Nat), ml - t < dd → t ≤ ml → ∀ (ls : Array Slot), lv_has ls 5 [(0, .ref (o)), (1, .int (nI (i))), (2, .int (nI (j))), (3, .int (zb (zmp ml sg n f j t))), (4, .int (nI (t)))] → W p (zl E) e (zRm 2 43) s m args below meth c H [] 0 0 Q (F0 m 34 ls []) := by
        intro dd
        induction dd with
        | zero => intro t hdd; exact absurd hdd (Nat.not_lt_zero _)
        | succ dd ih34 =>
          intro t hdd34 ht ls hl
          refine lv_iload hx hb dX6_isAt_34 (lv_at hl 4 rfl) ?_
          refine lv_aload_n hx hb dX6_isAt_36 rfl (lv_at hl 0 rfl) ?_
          refine z_get (ref := RX6) (C := RX6) (T := TX6) (N := 11) hx hb hts hin6 hown hG h1 rfl 0 (by decide) (by decide +kernel) rfl rfl dX6_isAt_37 ?_
          refine lv_bipush (v := nI (112)) hx hb dX6_isAt_40 (by decide) ?_
          refine z_iald (j := 112) hx hb hG h2 ⟨by omega, by omega⟩ dX6_isAt_42 ?_
          refine z_top (y := nI (ml)) (hmn.1) ?_
          refine z_cge (tgt := 104) hx hb dX6_isAt_43 (by decide) ⟨by omega, by omega⟩ (fun c_7 => ?_) (fun c_7 => ?_)
          · refine lv_iload_n hx hb dX6_isAt_104 rfl (lv_at hl 3 rfl) ?_
            exact hret _ _ _ dX6_isAt_105 (by cases zmp ml sg n f j t; exact Or.inl rfl; exact Or.inr rfl) (by rw [show t = ml by omega]; rfl)
          · refine lv_iload_n hx hb dX6_isAt_46 rfl (lv_at hl 3 rfl) ?_
            refine z_beq (tgt := 104) hx hb dX6_isAt_47 (by decide) (fun c_8 => ?_) (fun c_8 => ?_)
            · refine lv_iload_n hx hb dX6_isAt_104 rfl (lv_at hl 3 rfl) ?_
              exact hret _ _ _ dX6_isAt_105 (by cases zmp ml sg n f j t; exact Or.inl rfl; exact Or.inr rfl) (by rw [c_8, zmp_e ht c_8])
            · refine lv_aload_n hx hb dX6_isAt_50 rfl (lv_at hl 0 rfl) ?_
              refine z_get (ref := RX6) (C := RX6) (T := TX6) (N := 11) hx hb hts hin6 hown hG h1 rfl 0 (by decide) (by decide +kernel) rfl rfl dX6_isAt_51 ?_
              refine lv_bipush (v := nI (113)) hx hb dX6_isAt_54 (by decide) ?_
              refine lv_iload hx hb dX6_isAt_56 (lv_at hl 4 rfl) ?_
              refine z_iadd hx hb dX6_isAt_58 ?_
              refine z_iald (j := 113 + t) hx hb hG h2 ⟨by omega, by omega⟩ dX6_isAt_59 ?_
              refine z_top (y := (sg t)) (hsg _ (by omega)) ?_
              refine lv_bipush (v := nI (9)) hx hb dX6_isAt_60 (by decide) ?_
              refine lv_icmp_eq (tgt := 92) hx hb dX6_isAt_62 (by decide) (fun c_9 => ?_) (fun c_9 => ?_)
              · refine lv_iconst (v := nI (1)) hx hb dX6_isAt_92 (by decide) ?_
                refine lv_goto (tgt := 97) hx hb dX6_isAt_93 (by decide) ?_
                refine lv_istore_n (lv' := [(3, .int (nI (1))), (0, .ref (o)), (1, .int (nI (i))), (2, .int (nI (j))), (4, .int (nI (t)))]) hx hb dX6_isAt_97 rfl hl (by decide) rfl (fun ls hl => ?_)
                refine lv_iinc (v := nI (t + 1)) (lv' := [(4, .int (nI (t + 1))), (3, .int (nI (1))), (0, .ref (o)), (1, .int (nI (i))), (2, .int (nI (j)))]) hx hb dX6_isAt_98 hl (k := 4) rfl (z_inc1 _) (by decide) rfl (fun ls hl => ?_)
                refine lv_goto (tgt := 34) hx hb dX6_isAt_101 (by decide) ?_
                have hl9 := lv_sub hl [2, 3, 4, 1, 0] (l' := [(0, .ref (o)), (1, .int (nI (i))), (2, .int (nI (j))), (3, .int (nI (1))), (4, .int (nI (t + 1)))]) rfl
                have e9_3 : (nI (1)) = (zb (zmp ml sg n f j (t + 1))) := zb_t' (by first | exact zmp_t c_8 (Or.inl c_9) | exact zmp_t c_7 (Or.inr c_9))
                have e9_4 : (t + 1) = ((t + 1)) := by omega
                exact ih34 (t + 1) (by omega) (by omega) ls (by rw [← e9_3, ← e9_4]; exact hl9)
              · refine lv_aload_n hx hb dX6_isAt_65 rfl (lv_at hl 0 rfl) ?_
                refine z_get (ref := RX6) (C := RX6) (T := TX6) (N := 11) hx hb hts hin6 hown hG h1 rfl 0 (by decide) (by decide +kernel) rfl rfl dX6_isAt_66 ?_
                refine lv_bipush (v := nI (113)) hx hb dX6_isAt_69 (by decide) ?_
                refine lv_iload hx hb dX6_isAt_71 (lv_at hl 4 rfl) ?_
                refine z_iadd hx hb dX6_isAt_73 ?_
                refine z_iald (j := 113 + t) hx hb hG h2 ⟨by omega, by omega⟩ dX6_isAt_74 ?_
                refine z_top (y := (sg t)) (hsg _ (by omega)) ?_
                refine lv_aload_n hx hb dX6_isAt_75 rfl (lv_at hl 0 rfl) ?_
                refine z_get (ref := RX6) (C := RX6) (T := TX6) (N := 11) hx hb hts hin6 hown hG h1 rfl 0 (by decide) (by decide +kernel) rfl rfl dX6_isAt_76 ?_
                refine lv_aload_n hx hb dX6_isAt_79 rfl (lv_at hl 0 rfl) ?_
                refine lv_iload_n hx hb dX6_isAt_80 rfl (lv_at hl 1 rfl) ?_
                refine lv_iload_n hx hb dX6_isAt_81 rfl (lv_at hl 2 rfl) ?_
                refine lv_iload hx hb dX6_isAt_82 (lv_at hl 4 rfl) ?_
                refine z_iadd hx hb dX6_isAt_84 ?_
                refine z_roV (As := [.int (nI (i)), .int (nI (j + t))]) (rest := [.ref (za), .int (sg t)]) (q := (RX6, TX6, 11)) S hG (c_X6_at_m E (j := j + t) hi hr.1 (by omega)) 2 gX6_isAt_X6_at rfl kX6_at ⟨Nat.le_of_ble_eq_true rfl, Nat.le_of_ble_eq_true rfl⟩ ⟨Nat.zero_le _, Nat.zero_le _⟩ (⟨h1, h2⟩) rfl h1 rfl hl.1 rfl rfl (Nat.le_of_ble_eq_true rfl) dX6_isAt_85 ?_
                refine z_iald (j := 10 + 17 * i + 1 + (j + t) % n) hx hb hG h2 ⟨by have h9 := Nat.mod_lt (j + t) hn.1; omega, by omega⟩ dX6_isAt_88 ?_
                refine z_top (y := (f ((j + t) % n))) (hr.2 _ (Nat.mod_lt _ hn.1)) ?_
                refine lv_icmp_ne (tgt := 96) hx hb dX6_isAt_89 (by decide) (fun c_10 => ?_) (fun c_10 => ?_)
                · refine lv_iconst (v := nI (0)) hx hb dX6_isAt_96 (by decide) ?_
                  refine lv_istore_n (lv' := [(3, .int (nI (0))), (0, .ref (o)), (1, .int (nI (i))), (2, .int (nI (j))), (4, .int (nI (t)))]) hx hb dX6_isAt_97 rfl hl (by decide) rfl (fun ls hl => ?_)
                  refine lv_iinc (v := nI (t + 1)) (lv' := [(4, .int (nI (t + 1))), (3, .int (nI (0))), (0, .ref (o)), (1, .int (nI (i))), (2, .int (nI (j)))]) hx hb dX6_isAt_98 hl (k := 4) rfl (z_inc1 _) (by decide) rfl (fun ls hl => ?_)
                  refine lv_goto (tgt := 34) hx hb dX6_isAt_101 (by decide) ?_
                  have hl9 := lv_sub hl [2, 3, 4, 1, 0] (l' := [(0, .ref (o)), (1, .int (nI (i))), (2, .int (nI (j))), (3, .int (nI (0))), (4, .int (nI (t + 1)))]) rfl
                  have e9_3 : (nI (0)) = (zb (zmp ml sg n f j (t + 1))) := zb_f' (zmp_f c_9 c_10)
                  have e9_4 : (t + 1) = ((t + 1)) := by omega
                  exact ih34 (t + 1) (by omega) (by omega) ls (by rw [← e9_3, ← e9_4]; exact hl9)
                · refine lv_iconst (v := nI (1)) hx hb dX6_isAt_92 (by decide) ?_
                  refine lv_goto (tgt := 97) hx hb dX6_isAt_93 (by decide) ?_
                  refine lv_istore_n (lv' := [(3, .int (nI (1))), (0, .ref (o)), (1, .int (nI (i))), (2, .int (nI (j))), (4, .int (nI (t)))]) hx hb dX6_isAt_97 rfl hl (by decide) rfl (fun ls hl => ?_)
                  refine lv_iinc (v := nI (t + 1)) (lv' := [(4, .int (nI (t + 1))), (3, .int (nI (1))), (0, .ref (o)), (1, .int (nI (i))), (2, .int (nI (j)))]) hx hb dX6_isAt_98 hl (k := 4) rfl (z_inc1 _) (by decide) rfl (fun ls hl => ?_)
                  refine lv_goto (tgt := 34) hx hb dX6_isAt_101 (by decide) ?_
                  have hl9 := lv_sub hl [2, 3, 4, 1, 0] (l' := [(0, .ref (o)), (1, .int (nI (i))), (2, .int (nI (j))), (3, .int (nI (1))), (4, .int (nI (t + 1)))]) rfl
                  have e9_3 : (nI (1)) = (zb (zmp ml sg n f j (t + 1))) := zb_t' (by first | exact zmp_t c_9 (Or.inl c_10) | exact zmp_t c_8 (Or.inr c_10))
                  have e9_4 : (t + 1) = ((t + 1)) := by omega
                  exact ih34 (t + 1) (by omega) (by omega) ls (by rw [← e9_3, ← e9_4]; exact hl9)
      exact L34 ((ml - (0)) + 1) (0) (Nat.lt_succ_self _) (Nat.zero_le _) ls (lv_sub hl [2, 3, 4, 1, 0] rfl)
    · refine lv_iconst (v := nI (1)) hx hb dX6_isAt_25 (by decide) ?_
      refine z_top (y := zb (decide (0 < ml ∧ ml ≤ n))) (zb_t' (decide_eq_true ⟨by omega, by omega⟩)) ?_
      refine lv_goto (tgt := 30) hx hb dX6_isAt_26 (by decide) ?_
      refine lv_istore_n (lv' := [(3, .int (zb (decide (0 < ml ∧ ml ≤ n)))), (0, .ref (o)), (1, .int (nI (i))), (2, .int (nI (j)))]) hx hb dX6_isAt_30 rfl hl (by decide) rfl (fun ls hl => ?_)
      refine lv_iconst (v := nI (0)) hx hb dX6_isAt_31 (by decide) ?_
      refine lv_istore (lv' := [(4, .int (nI (0))), (3, .int (zb (decide (0 < ml ∧ ml ≤ n)))), (0, .ref (o)), (1, .int (nI (i))), (2, .int (nI (j)))]) hx hb dX6_isAt_32 hl (by decide) rfl (fun ls hl => ?_)
      have L34 : ∀ (dd : Nat) (t : Nat), ml - t < dd → t ≤ ml → ∀ (ls : Array Slot), lv_has ls 5 [(0, .ref (o)), (1, .int (nI (i))), (2, .int (nI (j))), (3, .int (zb (zmp ml sg n f j t))), (4, .int (nI (t)))] → W p (zl E) e (zRm 2 43) s m args below meth c H [] 0 0 Q (F0 m 34 ls []) := by
        intro dd
        induction dd with
        | zero => intro t hdd; exact absurd hdd (Nat.not_lt_zero _)
        | succ dd ih34 =>
          intro t hdd34 ht ls hl
          refine lv_iload hx hb dX6_isAt_34 (lv_at hl 4 rfl) ?_
          refine lv_aload_n hx hb dX6_isAt_36 rfl (lv_at hl 0 rfl) ?_
          refine z_get (ref := RX6) (C := RX6) (T := TX6) (N := 11) hx hb hts hin6 hown hG h1 rfl 0 (by decide) (by decide +kernel) rfl rfl dX6_isAt_37 ?_
          refine lv_bipush (v := nI (112)) hx hb dX6_isAt_40 (by decide) ?_
          refine z_iald (j := 112) hx hb hG h2 ⟨by omega, by omega⟩ dX6_isAt_42 ?_
          refine z_top (y := nI (ml)) (hmn.1) ?_
          refine z_cge (tgt := 104) hx hb dX6_isAt_43 (by decide) ⟨by omega, by omega⟩ (fun c_11 => ?_) (fun c_11 => ?_)
          · refine lv_iload_n hx hb dX6_isAt_104 rfl (lv_at hl 3 rfl) ?_
            exact hret _ _ _ dX6_isAt_105 (by cases zmp ml sg n f j t; exact Or.inl rfl; exact Or.inr rfl) (by rw [show t = ml by omega]; rfl)
          · refine lv_iload_n hx hb dX6_isAt_46 rfl (lv_at hl 3 rfl) ?_
            refine z_beq (tgt := 104) hx hb dX6_isAt_47 (by decide) (fun c_12 => ?_) (fun c_12 => ?_)
            · refine lv_iload_n hx hb dX6_isAt_104 rfl (lv_at hl 3 rfl) ?_
              exact hret _ _ _ dX6_isAt_105 (by cases zmp ml sg n f j t; exact Or.inl rfl; exact Or.inr rfl) (by rw [c_12, zmp_e ht c_12])
            · refine lv_aload_n hx hb dX6_isAt_50 rfl (lv_at hl 0 rfl) ?_
              refine z_get (ref := RX6) (C := RX6) (T := TX6) (N := 11) hx hb hts hin6 hown hG h1 rfl 0 (by decide) (by decide +kernel) rfl rfl dX6_isAt_51 ?_
              refine lv_bipush (v := nI (113)) hx hb dX6_isAt_54 (by decide) ?_
              refine lv_iload hx hb dX6_isAt_56 (lv_at hl 4 rfl) ?_
              refine z_iadd hx hb dX6_isAt_58 ?_
              refine z_iald (j := 113 + t) hx hb hG h2 ⟨by omega, by omega⟩ dX6_isAt_59 ?_
              refine z_top (y := (sg t)) (hsg _ (by omega)) ?_
              refine lv_bipush (v := nI (9)) hx hb dX6_isAt_60 (by decide) ?_
              refine lv_icmp_eq (tgt := 92) hx hb dX6_isAt_62 (by decide) (fun c_13 => ?_) (fun c_13 => ?_)
              · refine lv_iconst (v := nI (1)) hx hb dX6_isAt_92 (by decide) ?_
                refine lv_goto (tgt := 97) hx hb dX6_isAt_93 (by decide) ?_
                refine lv_istore_n (lv' := [(3, .int (nI (1))), (0, .ref (o)), (1, .int (nI (i))), (2, .int (nI (j))), (4, .int (nI (t)))]) hx hb dX6_isAt_97 rfl hl (by decide) rfl (fun ls hl => ?_)
                refine lv_iinc (v := nI (t + 1)) (lv' := [(4, .int (nI (t + 1))), (3, .int (nI (1))), (0, .ref (o)), (1, .int (nI (i))), (2, .int (nI (j)))]) hx hb dX6_isAt_98 hl (k := 4) rfl (z_inc1 _) (by decide) rfl (fun ls hl => ?_)
                refine lv_goto (tgt := 34) hx hb dX6_isAt_101 (by decide) ?_
                have hl9 := lv_sub hl [2, 3, 4, 1, 0] (l' := [(0, .ref (o)), (1, .int (nI (i))), (2, .int (nI (j))), (3, .int (nI (1))), (4, .int (nI (t + 1)))]) rfl
                have e9_3 : (nI (1)) = (zb (zmp ml sg n f j (t + 1))) := zb_t' (by first | exact zmp_t c_12 (Or.inl c_13) | exact zmp_t c_11 (Or.inr c_13))
                have e9_4 : (t + 1) = ((t + 1)) := by omega
                exact ih34 (t + 1) (by omega) (by omega) ls (by rw [← e9_3, ← e9_4]; exact hl9)
              · refine lv_aload_n hx hb dX6_isAt_65 rfl (lv_at hl 0 rfl) ?_
                refine z_get (ref := RX6) (C := RX6) (T := TX6) (N := 11) hx hb hts hin6 hown hG h1 rfl 0 (by decide) (by decide +kernel) rfl rfl dX6_isAt_66 ?_
                refine lv_bipush (v := nI (113)) hx hb dX6_isAt_69 (by decide) ?_
                refine lv_iload hx hb dX6_isAt_71 (lv_at hl 4 rfl) ?_
                refine z_iadd hx hb dX6_isAt_73 ?_
                refine z_iald (j := 113 + t) hx hb hG h2 ⟨by omega, by omega⟩ dX6_isAt_74 ?_
                refine z_top (y := (sg t)) (hsg _ (by omega)) ?_
                refine lv_aload_n hx hb dX6_isAt_75 rfl (lv_at hl 0 rfl) ?_
                refine z_get (ref := RX6) (C := RX6) (T := TX6) (N := 11) hx hb hts hin6 hown hG h1 rfl 0 (by decide) (by decide +kernel) rfl rfl dX6_isAt_76 ?_
                refine lv_aload_n hx hb dX6_isAt_79 rfl (lv_at hl 0 rfl) ?_
                refine lv_iload_n hx hb dX6_isAt_80 rfl (lv_at hl 1 rfl) ?_
                refine lv_iload_n hx hb dX6_isAt_81 rfl (lv_at hl 2 rfl) ?_
                refine lv_iload hx hb dX6_isAt_82 (lv_at hl 4 rfl) ?_
                refine z_iadd hx hb dX6_isAt_84 ?_
                refine z_roV (As := [.int (nI (i)), .int (nI (j + t))]) (rest := [.ref (za), .int (sg t)]) (q := (RX6, TX6, 11)) S hG (c_X6_at_m E (j := j + t) hi hr.1 (by omega)) 2 gX6_isAt_X6_at rfl kX6_at ⟨Nat.le_of_ble_eq_true rfl, Nat.le_of_ble_eq_true rfl⟩ ⟨Nat.zero_le _, Nat.zero_le _⟩ (⟨h1, h2⟩) rfl h1 rfl hl.1 rfl rfl (Nat.le_of_ble_eq_true rfl) dX6_isAt_85 ?_
                refine z_iald (j := 10 + 17 * i + 1 + (j + t) % n) hx hb hG h2 ⟨by have h9 := Nat.mod_lt (j + t) hn.1; omega, by omega⟩ dX6_isAt_88 ?_
                refine z_top (y := (f ((j + t) % n))) (hr.2 _ (Nat.mod_lt _ hn.1)) ?_
                refine lv_icmp_ne (tgt := 96) hx hb dX6_isAt_89 (by decide) (fun c_14 => ?_) (fun c_14 => ?_)
                · refine lv_iconst (v := nI (0)) hx hb dX6_isAt_96 (by decide) ?_
                  refine lv_istore_n (lv' := [(3, .int (nI (0))), (0, .ref (o)), (1, .int (nI (i))), (2, .int (nI (j))), (4, .int (nI (t)))]) hx hb dX6_isAt_97 rfl hl (by decide) rfl (fun ls hl => ?_)
                  refine lv_iinc (v := nI (t + 1)) (lv' := [(4, .int (nI (t + 1))), (3, .int (nI (0))), (0, .ref (o)), (1, .int (nI (i))), (2, .int (nI (j)))]) hx hb dX6_isAt_98 hl (k := 4) rfl (z_inc1 _) (by decide) rfl (fun ls hl => ?_)
                  refine lv_goto (tgt := 34) hx hb dX6_isAt_101 (by decide) ?_
                  have hl9 := lv_sub hl [2, 3, 4, 1, 0] (l' := [(0, .ref (o)), (1, .int (nI (i))), (2, .int (nI (j))), (3, .int (nI (0))), (4, .int (nI (t + 1)))]) rfl
                  have e9_3 : (nI (0)) = (zb (zmp ml sg n f j (t + 1))) := zb_f' (zmp_f c_13 c_14)
                  have e9_4 : (t + 1) = ((t + 1)) := by omega
                  exact ih34 (t + 1) (by omega) (by omega) ls (by rw [← e9_3, ← e9_4]; exact hl9)
                · refine lv_iconst (v := nI (1)) hx hb dX6_isAt_92 (by decide) ?_
                  refine lv_goto (tgt := 97) hx hb dX6_isAt_93 (by decide) ?_
                  refine lv_istore_n (lv' := [(3, .int (nI (1))), (0, .ref (o)), (1, .int (nI (i))), (2, .int (nI (j))), (4, .int (nI (t)))]) hx hb dX6_isAt_97 rfl hl (by decide) rfl (fun ls hl => ?_)
                  refine lv_iinc (v := nI (t + 1)) (lv' := [(4, .int (nI (t + 1))), (3, .int (nI (1))), (0, .ref (o)), (1, .int (nI (i))), (2, .int (nI (j)))]) hx hb dX6_isAt_98 hl (k := 4) rfl (z_inc1 _) (by decide) rfl (fun ls hl => ?_)
                  refine lv_goto (tgt := 34) hx hb dX6_isAt_101 (by decide) ?_
                  have hl9 := lv_sub hl [2, 3, 4, 1, 0] (l' := [(0, .ref (o)), (1, .int (nI (i))), (2, .int (nI (j))), (3, .int (nI (1))), (4, .int (nI (t + 1)))]) rfl
                  have e9_3 : (nI (1)) = (zb (zmp ml sg n f j (t + 1))) := zb_t' (by first | exact zmp_t c_13 (Or.inl c_14) | exact zmp_t c_12 (Or.inr c_14))
                  have e9_4 : (t + 1) = ((t + 1)) := by omega
                  exact ih34 (t + 1) (by omega) (by omega) ls (by rw [← e9_3, ← e9_4]; exact hl9)
      exact L34 ((ml - (0)) + 1) (0) (Nat.lt_succ_self _) (Nat.zero_le _) ls (lv_sub hl [2, 3, 4, 1, 0] rfl)

set_option maxHeartbeats 4000000 in
set_option maxRecDepth 100000 in
theorem c_X6_places (E : zEnv) {o za : Nat} {fs : List Value} {z : Nat → Int32} {i n : Nat} {f : Nat → Int32} {ml : Nat} {sg : Nat → Int32} (hi : i < 6) (hn : 0 < n ∧ n ≤ 16) (hr : zmr z i n f) (hmn : z 112 = nI ml ∧ ml ≤ 6) (hsg : ∀ t, t < ml → z (113 + t) = sg t) : zRO E yX6_places wsX6_places 3 67 [.ref (o), .int (nI (i))] (fun H => zMz E o za fs z H) (some (.int (zset (zmt ml sg n f) n))) := by
  refine zRO.ofI (maxL := 4) rfl (Nat.le_of_ble_eq_true rfl) (fun p e s m args below meth c H Q hF hP hret ls hl => ?_)
  have S : CallFix p m c cX6_places 4 s args wsX6_places RX6 := hF.1
  have hG := hF.2
  obtain ⟨hx, hb, hml, hown, hts⟩ := id S
  obtain ⟨h1, h2⟩ := hP
  have hl : lv_has ls 4 [(0, .ref (o)), (1, .int (nI (i)))] := hl
  refine lv_iconst (v := nI (0)) hx hb dX6_places_0 (by decide) ?_
  refine lv_istore_n (lv' := [(2, .int (nI (0))), (0, .ref (o)), (1, .int (nI (i)))]) hx hb dX6_places_1 rfl hl (by decide) rfl (fun ls hl => ?_)
  refine lv_iconst (v := nI (0)) hx hb dX6_places_2 (by decide) ?_
  refine lv_istore_n (lv' := [(3, .int (nI (0))), (2, .int (nI (0))), (0, .ref (o)), (1, .int (nI (i)))]) hx hb dX6_places_3 rfl hl (by decide) rfl (fun ls hl => ?_)
  have L4 : ∀ (dd : Nat) (j : Nat), n - j < dd → j ≤ n → ∀ (ls : Array Slot), lv_has ls 4 [(0, .ref (o)), (1, .int (nI (i))), (2, .int (zset (zmt ml sg n f) j)), (3, .int (nI (j)))] → W p (zl E) e (zRm 3 67) s m args below meth c H [] 0 0 Q (F0 m 4 ls []) := by
    intro dd
    induction dd with
    | zero => intro j hdd; exact absurd hdd (Nat.not_lt_zero _)
    | succ dd ih4 =>
      intro j hdd4 hj ls hl
      refine lv_iload_n hx hb dX6_places_4 rfl (lv_at hl 3 rfl) ?_
      refine lv_aload_n hx hb dX6_places_5 rfl (lv_at hl 0 rfl) ?_
      refine lv_iload_n hx hb dX6_places_6 rfl (lv_at hl 1 rfl) ?_
      refine z_roV (As := [.int (nI (i))]) (rest := [.int (nI (j))]) (q := (RX6, TX6, 11)) S hG (c_X6_slots E hi hr.1) 1 gX6_places_X6_slots rfl kX6_slots ⟨Nat.le_of_ble_eq_true rfl, Nat.le_of_ble_eq_true rfl⟩ ⟨Nat.zero_le _, Nat.zero_le _⟩ (⟨h1, h2⟩) rfl h1 rfl hl.1 rfl rfl (Nat.le_of_ble_eq_true rfl) dX6_places_7 ?_
      refine z_cge (tgt := 38) hx hb dX6_places_10 (by decide) ⟨by omega, by omega⟩ (fun c_1 => ?_) (fun c_1 => ?_)
      · refine lv_iload_n hx hb dX6_places_38 rfl (lv_at hl 2 rfl) ?_
        exact hret _ _ _ dX6_places_39 (by rw [show j = n by omega])
      · refine lv_iload_n hx hb dX6_places_13 rfl (lv_at hl 2 rfl) ?_
        refine lv_aload_n hx hb dX6_places_14 rfl (lv_at hl 0 rfl) ?_
        refine lv_iload_n hx hb dX6_places_15 rfl (lv_at hl 1 rfl) ?_
        refine lv_iload_n hx hb dX6_places_16 rfl (lv_at hl 3 rfl) ?_
        refine z_roV (As := [.int (nI (i)), .int (nI (j))]) (rest := [.int (zset (zmt ml sg n f) j)]) (q := (RX6, TX6, 11)) S hG (c_X6_isAt E (j := j) hi hn hr (by omega) hmn hsg) 2 gX6_places_X6_isAt rfl kX6_isAt ⟨Nat.le_of_ble_eq_true rfl, Nat.le_of_ble_eq_true rfl⟩ ⟨Nat.zero_le _, Nat.zero_le _⟩ (⟨h1, h2⟩) rfl h1 rfl hl.1 rfl rfl (Nat.le_of_ble_eq_true rfl) dX6_places_17 ?_
        refine z_beq (tgt := 29) hx hb dX6_places_20 (by decide) (fun c_2 => ?_) (fun c_2 => ?_)
        · refine lv_iconst (v := nI (0)) hx hb dX6_places_29 (by decide) ?_
          refine lv_ior hx hb dX6_places_30 ?_
          refine lv_istore_n (lv' := [(2, .int ((zset (zmt ml sg n f) j) ||| nI (0))), (0, .ref (o)), (1, .int (nI (i))), (3, .int (nI (j)))]) hx hb dX6_places_31 rfl hl (by decide) rfl (fun ls hl => ?_)
          refine lv_iinc (v := nI (j + 1)) (lv' := [(3, .int (nI (j + 1))), (2, .int ((zset (zmt ml sg n f) j) ||| nI (0))), (0, .ref (o)), (1, .int (nI (i)))]) hx hb dX6_places_32 hl (k := 3) rfl (z_inc1 _) (by decide) rfl (fun ls hl => ?_)
          refine lv_goto (tgt := 4) hx hb dX6_places_35 (by decide) ?_
          have hl9 := lv_sub hl [2, 3, 1, 0] (l' := [(0, .ref (o)), (1, .int (nI (i))), (2, .int ((zset (zmt ml sg n f) j) ||| nI (0))), (3, .int (nI (j + 1)))]) rfl
          have e9_2 : ((zset (zmt ml sg n f) j) ||| nI (0)) = (zset (zmt ml sg n f) (j + 1)) := by first | exact zset_t c_2 | exact zset_o c_2
          have e9_3 : (j + 1) = ((j + 1)) := by omega
          exact ih4 (j + 1) (by omega) (by omega) ls (by rw [← e9_2, ← e9_3]; exact hl9)
        · refine lv_iconst (v := nI (1)) hx hb dX6_places_23 (by decide) ?_
          refine lv_iload_n hx hb dX6_places_24 rfl (lv_at hl 3 rfl) ?_
          refine lv_ishl hx hb dX6_places_25 ?_
          refine lv_goto (tgt := 30) hx hb dX6_places_26 (by decide) ?_
          refine lv_ior hx hb dX6_places_30 ?_
          refine lv_istore_n (lv' := [(2, .int ((zset (zmt ml sg n f) j) ||| (nI (1) <<< (nI (j) &&& 31)))), (0, .ref (o)), (1, .int (nI (i))), (3, .int (nI (j)))]) hx hb dX6_places_31 rfl hl (by decide) rfl (fun ls hl => ?_)
          refine lv_iinc (v := nI (j + 1)) (lv' := [(3, .int (nI (j + 1))), (2, .int ((zset (zmt ml sg n f) j) ||| (nI (1) <<< (nI (j) &&& 31)))), (0, .ref (o)), (1, .int (nI (i)))]) hx hb dX6_places_32 hl (k := 3) rfl (z_inc1 _) (by decide) rfl (fun ls hl => ?_)
          refine lv_goto (tgt := 4) hx hb dX6_places_35 (by decide) ?_
          have hl9 := lv_sub hl [2, 3, 1, 0] (l' := [(0, .ref (o)), (1, .int (nI (i))), (2, .int ((zset (zmt ml sg n f) j) ||| (nI (1) <<< (nI (j) &&& 31)))), (3, .int (nI (j + 1)))]) rfl
          have e9_2 : ((zset (zmt ml sg n f) j) ||| (nI (1) <<< (nI (j) &&& 31))) = (zset (zmt ml sg n f) (j + 1)) := by first | exact zset_t c_2 | exact zset_o c_2
          have e9_3 : (j + 1) = ((j + 1)) := by omega
          exact ih4 (j + 1) (by omega) (by omega) ls (by rw [← e9_2, ← e9_3]; exact hl9)
  exact L4 ((n - (0)) + 1) (0) (Nat.lt_succ_self _) (Nat.zero_le _) ls (lv_sub hl [2, 3, 1, 0] rfl)

set_option maxHeartbeats 4000000 in
set_option maxRecDepth 100000 in
theorem c_X6_bits (E : zEnv) {x : Int32}  : zRO E yX6_bits wsX6_bits 0 0 [.int (x)] (fun _ => True) (some (.int (zbc x 16))) := by
  refine zRO.ofI (maxL := 3) rfl (Nat.le_of_ble_eq_true rfl) (fun p e s m args below meth c H Q hF hP hret ls hl => ?_)
  have S : CallFix p m c cX6_bits 3 s args wsX6_bits RX6 := hF.1
  have hG := hF.2
  obtain ⟨hx, hb, hml, hown, hts⟩ := id S
  have hl : lv_has ls 3 [(0, .int (x))] := hl
  refine lv_iconst (v := nI (0)) hx hb dX6_bits_0 (by decide) ?_
  refine lv_istore_n (lv' := [(1, .int (nI (0))), (0, .int (x))]) hx hb dX6_bits_1 rfl hl (by decide) rfl (fun ls hl => ?_)
  refine lv_iconst (v := nI (0)) hx hb dX6_bits_2 (by decide) ?_
  refine lv_istore_n (lv' := [(2, .int (nI (0))), (1, .int (nI (0))), (0, .int (x))]) hx hb dX6_bits_3 rfl hl (by decide) rfl (fun ls hl => ?_)
  have L4 : ∀ (dd : Nat) (j : Nat), 16 - j < dd → j ≤ 16 → ∀ (ls : Array Slot), lv_has ls 3 [(0, .int (x)), (1, .int (zbc x j)), (2, .int (nI (j)))] → W p (zl E) e (zRm 0 0) s m args below meth c H [] 0 0 Q (F0 m 4 ls []) := by
    intro dd
    induction dd with
    | zero => intro j hdd; exact absurd hdd (Nat.not_lt_zero _)
    | succ dd ih4 =>
      intro j hdd4 hj ls hl
      refine lv_iload_n hx hb dX6_bits_4 rfl (lv_at hl 2 rfl) ?_
      refine lv_bipush (v := nI (16)) hx hb dX6_bits_5 (by decide) ?_
      refine z_cge (tgt := 24) hx hb dX6_bits_7 (by decide) ⟨by omega, by omega⟩ (fun c_1 => ?_) (fun c_1 => ?_)
      · refine lv_iload_n hx hb dX6_bits_24 rfl (lv_at hl 1 rfl) ?_
        exact hret _ _ _ dX6_bits_25 (by rw [show j = 16 by omega])
      · refine lv_iload_n hx hb dX6_bits_10 rfl (lv_at hl 1 rfl) ?_
        refine lv_iload_n hx hb dX6_bits_11 rfl (lv_at hl 0 rfl) ?_
        refine lv_iload_n hx hb dX6_bits_12 rfl (lv_at hl 2 rfl) ?_
        refine lv_ishr hx hb dX6_bits_13 ?_
        refine lv_iconst (v := nI (1)) hx hb dX6_bits_14 (by decide) ?_
        refine lv_iand hx hb dX6_bits_15 ?_
        refine lv_iadd hx hb dX6_bits_16 ?_
        refine lv_istore_n (lv' := [(1, .int ((zbc x j) + (((x) >>> (nI (j) &&& 31)) &&& nI (1)))), (0, .int (x)), (2, .int (nI (j)))]) hx hb dX6_bits_17 rfl hl (by decide) rfl (fun ls hl => ?_)
        refine lv_iinc (v := nI (j + 1)) (lv' := [(2, .int (nI (j + 1))), (1, .int ((zbc x j) + (((x) >>> (nI (j) &&& 31)) &&& nI (1)))), (0, .int (x))]) hx hb dX6_bits_18 hl (k := 2) rfl (z_inc1 _) (by decide) rfl (fun ls hl => ?_)
        refine lv_goto (tgt := 4) hx hb dX6_bits_21 (by decide) ?_
        have hl9 := lv_sub hl [2, 1, 0] (l' := [(0, .int (x)), (1, .int ((zbc x j) + (((x) >>> (nI (j) &&& 31)) &&& nI (1)))), (2, .int (nI (j + 1)))]) rfl
        have e9_1 : ((zbc x j) + (((x) >>> (nI (j) &&& 31)) &&& nI (1))) = (zbc x (j + 1)) := rfl
        have e9_2 : (j + 1) = ((j + 1)) := by omega
        exact ih4 (j + 1) (by omega) (by omega) ls (by rw [← e9_1, ← e9_2]; exact hl9)
  exact L4 ((16 - (0)) + 1) (0) (Nat.lt_succ_self _) (by decide) ls (lv_sub hl [2, 1, 0] rfl)

set_option maxHeartbeats 4000000 in
set_option maxRecDepth 100000 in
theorem c_X6_isOf (E : zEnv) {o za : Nat} {fs : List Value} {z : Nat → Int32} {i n : Nat} {f : Nat → Int32} {t : Nat} {m : Int32} {g : Nat → Int32} (hi : i < 6) (hn : 0 < n ∧ n ≤ 16) (hr : zmr z i n f) (h4 : n % 4 = 0) (hk : ∀ s, s < n → zk (f s)) (ht : t < 10) (hg0 : z (120 + 18 * t) = nI n) (hg : ∀ s, s < n → z (120 + 18 * t + 1 + s) = g s) : zRO E yX6_isOf wsX6_isOf 5 119 [.ref (o), .int (nI (t)), .int (nI (i))] (fun H => zMz E o za fs z H) (some (.int (zb (zall (fun s => decide (zimg n f (zls n f 1) s = g s)) n)))) := by
  refine zRO.ofZ (maxL := 7) rfl (Nat.le_of_ble_eq_true rfl) (fun p e s m args below meth c H Q hF hP hret ls hl => ?_)
  have S : CallFix p m c cX6_isOf 7 s args wsX6_isOf RX6 := hF.1
  have hG := hF.2
  obtain ⟨hx, hb, hml, hown, hts⟩ := id S
  obtain ⟨h1, h2⟩ := hP
  have hl : lv_has ls 7 [(0, .ref (o)), (1, .int (nI (t))), (2, .int (nI (i)))] := hl
  have hin6 : ∀ w ∈ u_ws RX6 TX6 11, w ∈ wsX6_isOf := by decide +kernel
  refine lv_bipush (v := nI (120)) hx hb dX6_isOf_0 (by decide) ?_
  refine lv_bipush (v := nI (18)) hx hb dX6_isOf_2 (by decide) ?_
  refine lv_iload_n hx hb dX6_isOf_4 rfl (lv_at hl 1 rfl) ?_
  refine z_imul hx hb dX6_isOf_5 ?_
  refine z_iadd hx hb dX6_isOf_6 ?_
  refine lv_istore_n (lv' := [(3, .int (nI (120 + (18 * t)))), (0, .ref (o)), (1, .int (nI (t))), (2, .int (nI (i)))]) hx hb dX6_isOf_7 rfl hl (by decide) rfl (fun ls hl => ?_)
  refine lv_aload_n hx hb dX6_isOf_8 rfl (lv_at hl 1 rfl) ?_
  refine lv_iload_n hx hb dX6_isOf_9 rfl (lv_at hl 3 rfl) ?_
  refine z_roV (As := [.int (nI (i))]) (rest := []) (q := (RX6, TX6, 11)) S hG (c_X6_slots E hi hr.1) 1 gX6_isOf_X6_slots rfl kX6_slots ⟨Nat.le_of_ble_eq_true rfl, Nat.le_of_ble_eq_true rfl⟩ ⟨Nat.zero_le _, Nat.zero_le _⟩ (⟨h1, h2⟩) rfl h1 rfl hl.1 rfl rfl (Nat.le_of_ble_eq_true rfl) dX6_isOf_10 ?_
  refine lv_aload_n hx hb dX6_isOf_13 rfl (lv_at hl 1 rfl) ?_
  refine z_get (ref := RX6) (C := RX6) (T := TX6) (N := 11) hx hb hts hin6 hown hG h1 rfl 0 (by decide) (by decide +kernel) rfl rfl dX6_isOf_14 ?_
  refine lv_iload_n hx hb dX6_isOf_17 rfl (lv_at hl 0 rfl) ?_
  refine z_iald (j := 120 + (18 * t)) hx hb hG h2 ⟨by omega, by omega⟩ dX6_isOf_18 ?_
  refine z_top (y := nI (n)) (hg0) ?_
  refine z_cne (tgt := 30) hx hb dX6_isOf_19 (by decide) ⟨by omega, by omega⟩ (fun c_1 => by exfalso; omega) (fun c_1 => ?_)
  refine lv_aload_n hx hb dX6_isOf_22 rfl (lv_at hl 1 rfl) ?_
  refine lv_iload_n hx hb dX6_isOf_23 rfl (lv_at hl 3 rfl) ?_
  refine z_roV (As := [.int (nI (i))]) (rest := []) (q := (RX6, TX6, 11)) S hG (c_X6_slots E hi hr.1) 1 gX6_isOf_X6_slots rfl kX6_slots ⟨Nat.le_of_ble_eq_true rfl, Nat.le_of_ble_eq_true rfl⟩ ⟨Nat.zero_le _, Nat.zero_le _⟩ (⟨h1, h2⟩) rfl h1 rfl hl.1 rfl rfl (Nat.le_of_ble_eq_true rfl) dX6_isOf_24 ?_
  refine z_fne (tgt := 32) hx hb dX6_isOf_27 (by decide) (by omega) (fun c_2 => ?_) (fun c_2 => by exfalso; omega)
  refine lv_aload_n hx hb dX6_isOf_32 rfl (lv_at hl 1 rfl) ?_
  refine lv_iload_n hx hb dX6_isOf_33 rfl (lv_at hl 3 rfl) ?_
  refine lv_iconst (v := nI (1)) hx hb dX6_isOf_34 (by decide) ?_
  refine z_roV (As := [.int (nI (i)), .int (nI (1))]) (rest := []) (q := (RX6, TX6, 11)) S hG (c_X6_leastChange E (lv := 1) hi hn hr (by decide) h4 hk) 2 gX6_isOf_X6_leastChange rfl kX6_leastChange ⟨Nat.le_of_ble_eq_true rfl, Nat.le_of_ble_eq_true rfl⟩ ⟨Nat.zero_le _, Nat.zero_le _⟩ (⟨h1, h2⟩) rfl h1 rfl hl.1 rfl rfl (Nat.le_of_ble_eq_true rfl) dX6_isOf_35 ?_
  refine lv_istore (lv' := [(4, .int (nI (zli n f 1 (znc 1 n)))), (3, .int (nI (120 + (18 * t)))), (0, .ref (o)), (1, .int (nI (t))), (2, .int (nI (i)))]) hx hb dX6_isOf_38 hl (by decide) rfl (fun ls hl => ?_)
  refine lv_iconst (v := nI (1)) hx hb dX6_isOf_40 (by decide) ?_
  refine z_top (y := zb (zall (fun s => decide (zimg n f (zls n f 1) s = g s)) 0)) (rfl) ?_
  refine lv_istore (lv' := [(5, .int (zb (zall (fun s => decide (zimg n f (zls n f 1) s = g s)) 0))), (4, .int (nI (zli n f 1 (znc 1 n)))), (3, .int (nI (120 + (18 * t)))), (0, .ref (o)), (1, .int (nI (t))), (2, .int (nI (i)))]) hx hb dX6_isOf_41 hl (by decide) rfl (fun ls hl => ?_)
  refine lv_iconst (v := nI (0)) hx hb dX6_isOf_43 (by decide) ?_
  refine lv_istore (lv' := [(6, .int (nI (0))), (5, .int (zb (zall (fun s => decide (zimg n f (zls n f 1) s = g s)) 0))), (4, .int (nI (zli n f 1 (znc 1 n)))), (3, .int (nI (120 + (18 * t)))), (0, .ref (o)), (1, .int (nI (t))), (2, .int (nI (i)))]) hx hb dX6_isOf_44 hl (by decide) rfl (fun ls hl => ?_)
  have L46 : ∀ (dd : Nat) (j : Nat), n - j < dd → j ≤ n → ∀ (ls : Array Slot), lv_has ls 7 [(0, .ref (o)), (1, .int (nI (t))), (2, .int (nI (i))), (3, .int (nI (120 + (18 * t)))), (4, .int (nI (zli n f 1 (znc 1 n)))), (5, .int (zb (zall (fun s => decide (zimg n f (zls n f 1) s = g s)) j))), (6, .int (nI (j)))] → W p (zl E) e (zRm 5 119) s m args below meth c H [] 0 0 Q (F0 m 46 ls []) := by
    intro dd
    induction dd with
    | zero => intro j hdd; exact absurd hdd (Nat.not_lt_zero _)
    | succ dd ih46 =>
      intro j hdd46 hj ls hl
      refine lv_iload hx hb dX6_isOf_46 (lv_at hl 6 rfl) ?_
      refine lv_aload_n hx hb dX6_isOf_48 rfl (lv_at hl 0 rfl) ?_
      refine lv_iload_n hx hb dX6_isOf_49 rfl (lv_at hl 2 rfl) ?_
      refine z_roV (As := [.int (nI (i))]) (rest := [.int (nI (j))]) (q := (RX6, TX6, 11)) S hG (c_X6_slots E hi hr.1) 1 gX6_isOf_X6_slots rfl kX6_slots ⟨Nat.le_of_ble_eq_true rfl, Nat.le_of_ble_eq_true rfl⟩ ⟨Nat.zero_le _, Nat.zero_le _⟩ (⟨h1, h2⟩) rfl h1 rfl hl.1 rfl rfl (Nat.le_of_ble_eq_true rfl) dX6_isOf_50 ?_
      refine z_cge (tgt := 98) hx hb dX6_isOf_53 (by decide) ⟨by omega, by omega⟩ (fun c_3 => ?_) (fun c_3 => ?_)
      · refine lv_iload hx hb dX6_isOf_98 (lv_at hl 5 rfl) ?_
        exact hret _ _ _ dX6_isOf_100 (by cases zall (fun s => decide (zimg n f (zls n f 1) s = g s)) j; exact Or.inl rfl; exact Or.inr rfl) (by rw [show j = n by omega])
      · refine lv_iload hx hb dX6_isOf_56 (lv_at hl 5 rfl) ?_
        refine z_beq (tgt := 89) hx hb dX6_isOf_58 (by decide) (fun c_4 => ?_) (fun c_4 => ?_)
        · refine lv_iconst (v := nI (0)) hx hb dX6_isOf_89 (by decide) ?_
          refine lv_istore (lv' := [(5, .int (nI (0))), (0, .ref (o)), (1, .int (nI (t))), (2, .int (nI (i))), (3, .int (nI (120 + (18 * t)))), (4, .int (nI (zli n f 1 (znc 1 n)))), (6, .int (nI (j)))]) hx hb dX6_isOf_90 hl (by decide) rfl (fun ls hl => ?_)
          refine lv_iinc (v := nI (j + 1)) (lv' := [(6, .int (nI (j + 1))), (5, .int (nI (0))), (0, .ref (o)), (1, .int (nI (t))), (2, .int (nI (i))), (3, .int (nI (120 + (18 * t)))), (4, .int (nI (zli n f 1 (znc 1 n))))]) hx hb dX6_isOf_92 hl (k := 6) rfl (z_inc1 _) (by decide) rfl (fun ls hl => ?_)
          refine lv_goto (tgt := 46) hx hb dX6_isOf_95 (by decide) ?_
          have hl9 := lv_sub hl [2, 3, 4, 5, 6, 1, 0] (l' := [(0, .ref (o)), (1, .int (nI (t))), (2, .int (nI (i))), (3, .int (nI (120 + (18 * t)))), (4, .int (nI (zli n f 1 (znc 1 n)))), (5, .int (nI (0))), (6, .int (nI (j + 1)))]) rfl
          have e9_5 : (nI (0)) = (zb (zall (fun s => decide (zimg n f (zls n f 1) s = g s)) (j + 1))) := zb_f' (by first | exact zall_no (Nat.lt_succ_self j) (decide_eq_false c_4) | exact zall_s c_4)
          have e9_6 : (j + 1) = ((j + 1)) := by omega
          exact ih46 (j + 1) (by omega) (by omega) ls (by rw [← e9_5, ← e9_6]; exact hl9)
        · refine lv_aload_n hx hb dX6_isOf_61 rfl (lv_at hl 0 rfl) ?_
          refine lv_iload_n hx hb dX6_isOf_62 rfl (lv_at hl 2 rfl) ?_
          refine lv_iconst (v := nI (1)) hx hb dX6_isOf_63 (by decide) ?_
          refine lv_iload hx hb dX6_isOf_64 (lv_at hl 4 rfl) ?_
          refine lv_iload hx hb dX6_isOf_66 (lv_at hl 6 rfl) ?_
          refine z_roV (As := [.int (nI (i)), .int (nI (1)), .int (nI (zli n f 1 (znc 1 n))), .int (nI (j))]) (rest := []) (q := (RX6, TX6, 11)) S hG (c_X6_behind E (lv := 1) (ch := zli n f 1 (znc 1 n)) (j := j) hi hn hr (by decide) h4 (zlc_lt (znc_pos hn.1)) (by omega)) 4 gX6_isOf_X6_behind rfl kX6_behind ⟨Nat.le_of_ble_eq_true rfl, Nat.le_of_ble_eq_true rfl⟩ ⟨Nat.zero_le _, Nat.zero_le _⟩ (⟨h1, h2⟩) rfl h1 rfl hl.1 rfl rfl (Nat.le_of_ble_eq_true rfl) dX6_isOf_68 ?_
          refine lv_aload_n hx hb dX6_isOf_71 rfl (lv_at hl 0 rfl) ?_
          refine z_get (ref := RX6) (C := RX6) (T := TX6) (N := 11) hx hb hts hin6 hown hG h1 rfl 0 (by decide) (by decide +kernel) rfl rfl dX6_isOf_72 ?_
          refine lv_iload_n hx hb dX6_isOf_75 rfl (lv_at hl 3 rfl) ?_
          refine lv_iconst (v := nI (1)) hx hb dX6_isOf_76 (by decide) ?_
          refine z_iadd hx hb dX6_isOf_77 ?_
          refine lv_iload hx hb dX6_isOf_78 (lv_at hl 6 rfl) ?_
          refine z_iadd hx hb dX6_isOf_80 ?_
          refine z_iald (j := ((120 + (18 * t)) + 1) + j) hx hb hG h2 ⟨by omega, by omega⟩ dX6_isOf_81 ?_
          refine z_top (y := (g j)) (hg _ (by omega)) ?_
          refine lv_icmp_ne (tgt := 89) hx hb dX6_isOf_82 (by decide) (fun c_5 => ?_) (fun c_5 => ?_)
          · refine lv_iconst (v := nI (0)) hx hb dX6_isOf_89 (by decide) ?_
            refine lv_istore (lv' := [(5, .int (nI (0))), (0, .ref (o)), (1, .int (nI (t))), (2, .int (nI (i))), (3, .int (nI (120 + (18 * t)))), (4, .int (nI (zli n f 1 (znc 1 n)))), (6, .int (nI (j)))]) hx hb dX6_isOf_90 hl (by decide) rfl (fun ls hl => ?_)
            refine lv_iinc (v := nI (j + 1)) (lv' := [(6, .int (nI (j + 1))), (5, .int (nI (0))), (0, .ref (o)), (1, .int (nI (t))), (2, .int (nI (i))), (3, .int (nI (120 + (18 * t)))), (4, .int (nI (zli n f 1 (znc 1 n))))]) hx hb dX6_isOf_92 hl (k := 6) rfl (z_inc1 _) (by decide) rfl (fun ls hl => ?_)
            refine lv_goto (tgt := 46) hx hb dX6_isOf_95 (by decide) ?_
            have hl9 := lv_sub hl [2, 3, 4, 5, 6, 1, 0] (l' := [(0, .ref (o)), (1, .int (nI (t))), (2, .int (nI (i))), (3, .int (nI (120 + (18 * t)))), (4, .int (nI (zli n f 1 (znc 1 n)))), (5, .int (nI (0))), (6, .int (nI (j + 1)))]) rfl
            have e9_5 : (nI (0)) = (zb (zall (fun s => decide (zimg n f (zls n f 1) s = g s)) (j + 1))) := zb_f' (by first | exact zall_no (Nat.lt_succ_self j) (decide_eq_false c_5) | exact zall_s c_5)
            have e9_6 : (j + 1) = ((j + 1)) := by omega
            exact ih46 (j + 1) (by omega) (by omega) ls (by rw [← e9_5, ← e9_6]; exact hl9)
          · refine lv_iconst (v := nI (1)) hx hb dX6_isOf_85 (by decide) ?_
            refine lv_goto (tgt := 90) hx hb dX6_isOf_86 (by decide) ?_
            refine lv_istore (lv' := [(5, .int (nI (1))), (0, .ref (o)), (1, .int (nI (t))), (2, .int (nI (i))), (3, .int (nI (120 + (18 * t)))), (4, .int (nI (zli n f 1 (znc 1 n)))), (6, .int (nI (j)))]) hx hb dX6_isOf_90 hl (by decide) rfl (fun ls hl => ?_)
            refine lv_iinc (v := nI (j + 1)) (lv' := [(6, .int (nI (j + 1))), (5, .int (nI (1))), (0, .ref (o)), (1, .int (nI (t))), (2, .int (nI (i))), (3, .int (nI (120 + (18 * t)))), (4, .int (nI (zli n f 1 (znc 1 n))))]) hx hb dX6_isOf_92 hl (k := 6) rfl (z_inc1 _) (by decide) rfl (fun ls hl => ?_)
            refine lv_goto (tgt := 46) hx hb dX6_isOf_95 (by decide) ?_
            have hl9 := lv_sub hl [2, 3, 4, 5, 6, 1, 0] (l' := [(0, .ref (o)), (1, .int (nI (t))), (2, .int (nI (i))), (3, .int (nI (120 + (18 * t)))), (4, .int (nI (zli n f 1 (znc 1 n)))), (5, .int (nI (1))), (6, .int (nI (j + 1)))]) rfl
            have e9_5 : (nI (1)) = (zb (zall (fun s => decide (zimg n f (zls n f 1) s = g s)) (j + 1))) := zb_t' (zall_t c_4 (decide_eq_true c_5))
            have e9_6 : (j + 1) = ((j + 1)) := by omega
            exact ih46 (j + 1) (by omega) (by omega) ls (by rw [← e9_5, ← e9_6]; exact hl9)
  exact L46 ((n - (0)) + 1) (0) (Nat.lt_succ_self _) (Nat.zero_le _) ls (lv_sub hl [4, 5, 6, 3, 2, 1, 0] rfl)

set_option maxHeartbeats 4000000 in
set_option maxRecDepth 100000 in
theorem c_X6_isOf_0 (E : zEnv) {o za : Nat} {fs : List Value} {z : Nat → Int32} {i n t n2 : Nat} (hi : i < 6) (hn : n ≤ 16) (hs : z (10 + 17 * i) = nI n) (ht : t < 10) (hg0 : z (120 + 18 * t) = nI n2 ∧ n2 ≤ 16) (hne : n ≠ n2 ∨ n = 0) : zRO E yX6_isOf wsX6_isOf 5 119 [.ref (o), .int (nI (t)), .int (nI (i))] (fun H => zMz E o za fs z H) (some (.int (nI 0))) := by
  refine zRO.ofZ (maxL := 7) rfl (Nat.le_of_ble_eq_true rfl) (fun p e s m args below meth c H Q hF hP hret ls hl => ?_)
  have S : CallFix p m c cX6_isOf 7 s args wsX6_isOf RX6 := hF.1
  have hG := hF.2
  obtain ⟨hx, hb, hml, hown, hts⟩ := id S
  obtain ⟨h1, h2⟩ := hP
  have hl : lv_has ls 7 [(0, .ref (o)), (1, .int (nI (t))), (2, .int (nI (i)))] := hl
  have hin6 : ∀ w ∈ u_ws RX6 TX6 11, w ∈ wsX6_isOf := by decide +kernel
  refine lv_bipush (v := nI (120)) hx hb dX6_isOf_0 (by decide) ?_
  refine lv_bipush (v := nI (18)) hx hb dX6_isOf_2 (by decide) ?_
  refine lv_iload_n hx hb dX6_isOf_4 rfl (lv_at hl 1 rfl) ?_
  refine z_imul hx hb dX6_isOf_5 ?_
  refine z_iadd hx hb dX6_isOf_6 ?_
  refine lv_istore_n (lv' := [(3, .int (nI (120 + (18 * t)))), (0, .ref (o)), (1, .int (nI (t))), (2, .int (nI (i)))]) hx hb dX6_isOf_7 rfl hl (by decide) rfl (fun ls hl => ?_)
  refine lv_aload_n hx hb dX6_isOf_8 rfl (lv_at hl 1 rfl) ?_
  refine lv_iload_n hx hb dX6_isOf_9 rfl (lv_at hl 3 rfl) ?_
  refine z_roV (As := [.int (nI (i))]) (rest := []) (q := (RX6, TX6, 11)) S hG (c_X6_slots E hi hs) 1 gX6_isOf_X6_slots rfl kX6_slots ⟨Nat.le_of_ble_eq_true rfl, Nat.le_of_ble_eq_true rfl⟩ ⟨Nat.zero_le _, Nat.zero_le _⟩ (⟨h1, h2⟩) rfl h1 rfl hl.1 rfl rfl (Nat.le_of_ble_eq_true rfl) dX6_isOf_10 ?_
  refine lv_aload_n hx hb dX6_isOf_13 rfl (lv_at hl 1 rfl) ?_
  refine z_get (ref := RX6) (C := RX6) (T := TX6) (N := 11) hx hb hts hin6 hown hG h1 rfl 0 (by decide) (by decide +kernel) rfl rfl dX6_isOf_14 ?_
  refine lv_iload_n hx hb dX6_isOf_17 rfl (lv_at hl 0 rfl) ?_
  refine z_iald (j := 120 + (18 * t)) hx hb hG h2 ⟨by omega, by omega⟩ dX6_isOf_18 ?_
  refine z_top (y := nI (n2)) (hg0.1) ?_
  refine z_cne (tgt := 30) hx hb dX6_isOf_19 (by decide) ⟨by omega, by omega⟩ (fun c_1 => ?_) (fun c_1 => ?_)
  · refine lv_iconst (v := nI (0)) hx hb dX6_isOf_30 (by decide) ?_
    exact hret _ _ _ dX6_isOf_31 (Or.inl rfl) (rfl)
  · refine lv_aload_n hx hb dX6_isOf_22 rfl (lv_at hl 1 rfl) ?_
    refine lv_iload_n hx hb dX6_isOf_23 rfl (lv_at hl 3 rfl) ?_
    refine z_roV (As := [.int (nI (i))]) (rest := []) (q := (RX6, TX6, 11)) S hG (c_X6_slots E hi hs) 1 gX6_isOf_X6_slots rfl kX6_slots ⟨Nat.le_of_ble_eq_true rfl, Nat.le_of_ble_eq_true rfl⟩ ⟨Nat.zero_le _, Nat.zero_le _⟩ (⟨h1, h2⟩) rfl h1 rfl hl.1 rfl rfl (Nat.le_of_ble_eq_true rfl) dX6_isOf_24 ?_
    refine z_fne (tgt := 32) hx hb dX6_isOf_27 (by decide) (by omega) (fun c_2 => by exfalso; omega) (fun c_2 => ?_)
    refine lv_iconst (v := nI (0)) hx hb dX6_isOf_30 (by decide) ?_
    exact hret _ _ _ dX6_isOf_31 (Or.inl rfl) (rfl)
