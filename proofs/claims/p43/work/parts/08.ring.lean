set_option maxHeartbeats 4000000 in
set_option maxRecDepth 100000 in
theorem c_X5_changeCount (E : zEnv) {lv n : Nat} (hlv : lv ≤ 2) : zRO E yX5_changeCount wsX5_changeCount 0 0 [.int (nI (lv)), .int (nI (n))] (fun _ => True) (some (.int (nI (znc lv n)))) := by
  refine zRO.ofI (maxL := 2) rfl (Nat.le_of_ble_eq_true rfl) (fun p e s m args below meth c H Q hF hP hret ls hl => ?_)
  have S : CallFix p m c cX5_changeCount 2 s args wsX5_changeCount RX5 := hF.1
  have hG := hF.2
  obtain ⟨hx, hb, hml, hown, hts⟩ := id S
  have hl : lv_has ls 2 [(0, .int (nI (lv))), (1, .int (nI (n)))] := hl
  refine lv_iload_n hx hb dX5_changeCount_0 rfl (lv_at hl 0 rfl) ?_
  obtain hlv0 | hlv0 | hlv0 : lv = 0 ∨ lv = 1 ∨ lv = 2 := by omega
  · rw [show nI (lv) = nI 0 by rw [hlv0]]
    refine lv_lookup (off := 27) (tgt := 28) hx hb dX5_changeCount_1 (by decide) (by decide) (by decide) ?_
    refine lv_iconst (v := nI (4)) hx hb dX5_changeCount_28 (by decide) ?_
    exact hret _ _ _ dX5_changeCount_29 (by simp [znc, hlv0])
  · rw [show nI (lv) = nI 1 by rw [hlv0]]
    refine lv_lookup (off := 29) (tgt := 30) hx hb dX5_changeCount_1 (by decide) (by decide) (by decide) ?_
    refine lv_iload_n hx hb dX5_changeCount_30 rfl (lv_at hl 1 rfl) ?_
    exact hret _ _ _ dX5_changeCount_31 (by simp [znc, hlv0])
  · rw [show nI (lv) = nI 2 by rw [hlv0]]
    refine lv_lookup (off := 31) (tgt := 32) hx hb dX5_changeCount_1 (by decide) (by decide) (by decide) ?_
    refine lv_iconst (v := nI (2)) hx hb dX5_changeCount_32 (by decide) ?_
    refine lv_iload_n hx hb dX5_changeCount_33 rfl (lv_at hl 1 rfl) ?_
    refine z_imul hx hb dX5_changeCount_34 ?_
    exact hret _ _ _ dX5_changeCount_35 (by simp [znc, hlv0])

set_option maxHeartbeats 4000000 in
set_option maxRecDepth 100000 in
theorem c_X5_changeAt (E : zEnv) {lv i n : Nat} (hlv : lv ≤ 2) (hi : i ≤ 32) (hn : n ≤ 16) : zRO E yX5_changeAt wsX5_changeAt 0 0 [.int (nI (lv)), .int (nI (i)), .int (nI (n))] (fun _ => True) (some (.int (nI (zchg lv i n)))) := by
  refine zRO.ofI (maxL := 3) rfl (Nat.le_of_ble_eq_true rfl) (fun p e s m args below meth c H Q hF hP hret ls hl => ?_)
  have S : CallFix p m c cX5_changeAt 3 s args wsX5_changeAt RX5 := hF.1
  have hG := hF.2
  obtain ⟨hx, hb, hml, hown, hts⟩ := id S
  have hl : lv_has ls 3 [(0, .int (nI (lv))), (1, .int (nI (i))), (2, .int (nI (n)))] := hl
  refine lv_iload_n hx hb dX5_changeAt_0 rfl (lv_at hl 0 rfl) ?_
  refine z_fne (tgt := 12) hx hb dX5_changeAt_1 (by decide) (by omega) (fun c_1 => ?_) (fun c_1 => ?_)
  · refine lv_iload_n hx hb dX5_changeAt_12 rfl (lv_at hl 1 rfl) ?_
    exact hret _ _ _ dX5_changeAt_13 (by simp [zchg, c_1])
  · refine lv_iload_n hx hb dX5_changeAt_4 rfl (lv_at hl 1 rfl) ?_
    refine lv_iload_n hx hb dX5_changeAt_5 rfl (lv_at hl 2 rfl) ?_
    refine z_imul hx hb dX5_changeAt_6 ?_
    refine lv_iconst (v := nI (4)) hx hb dX5_changeAt_7 (by decide) ?_
    refine z_idiv hx hb dX5_changeAt_8 ⟨by have h9 : i * n ≤ 32 * 16 := Nat.mul_le_mul hi hn; omega, by decide, by decide⟩ ?_
    refine lv_goto (tgt := 13) hx hb dX5_changeAt_9 (by decide) ?_
    exact hret _ _ _ dX5_changeAt_13 (by simp [zchg, c_1])

set_option maxHeartbeats 4000000 in
set_option maxRecDepth 100000 in
theorem c_X5_isCharm (E : zEnv) {x : Int32}  : zRO E yX5_isCharm wsX5_isCharm 0 0 [.int (x)] (fun _ => True) (some (.int (zb (zin x 1 5)))) := by
  refine zRO.ofZ (maxL := 1) rfl (Nat.le_of_ble_eq_true rfl) (fun p e s m args below meth c H Q hF hP hret ls hl => ?_)
  have S : CallFix p m c cX5_isCharm 1 s args wsX5_isCharm RX5 := hF.1
  have hG := hF.2
  obtain ⟨hx, hb, hml, hown, hts⟩ := id S
  have hl : lv_has ls 1 [(0, .int (x))] := hl
  refine lv_iload_n hx hb dX5_isCharm_0 rfl (lv_at hl 0 rfl) ?_
  refine lv_iconst (v := nI (1)) hx hb dX5_isCharm_1 (by decide) ?_
  refine lv_icmp_lt (tgt := 14) hx hb dX5_isCharm_2 (by decide) (fun c_1 => ?_) (fun c_1 => ?_)
  · refine lv_iconst (v := nI (0)) hx hb dX5_isCharm_14 (by decide) ?_
    exact hret _ _ _ dX5_isCharm_15 (by first | exact Or.inl rfl | exact Or.inr rfl) (by first | exact zrf (zin_f1 c_1) | exact zrf (zin_f2 c_1))
  · refine lv_iload_n hx hb dX5_isCharm_5 rfl (lv_at hl 0 rfl) ?_
    refine lv_iconst (v := nI (5)) hx hb dX5_isCharm_6 (by decide) ?_
    refine lv_icmp_gt (tgt := 14) hx hb dX5_isCharm_7 (by decide) (fun c_2 => ?_) (fun c_2 => ?_)
    · refine lv_iconst (v := nI (0)) hx hb dX5_isCharm_14 (by decide) ?_
      exact hret _ _ _ dX5_isCharm_15 (by first | exact Or.inl rfl | exact Or.inr rfl) (by first | exact zrf (zin_f1 c_2) | exact zrf (zin_f2 c_2))
    · refine lv_iconst (v := nI (1)) hx hb dX5_isCharm_10 (by decide) ?_
      refine lv_goto (tgt := 15) hx hb dX5_isCharm_11 (by decide) ?_
      exact hret _ _ _ dX5_isCharm_15 (by first | exact Or.inl rfl | exact Or.inr rfl) (zrt (zin_t c_1 c_2))

set_option maxHeartbeats 4000000 in
set_option maxRecDepth 100000 in
theorem c_X5_isLevel (E : zEnv) {x : Int32}  : zRO E yX5_isLevel wsX5_isLevel 0 0 [.int (x)] (fun _ => True) (some (.int (zb (zin x 0 2)))) := by
  refine zRO.ofZ (maxL := 1) rfl (Nat.le_of_ble_eq_true rfl) (fun p e s m args below meth c H Q hF hP hret ls hl => ?_)
  have S : CallFix p m c cX5_isLevel 1 s args wsX5_isLevel RX5 := hF.1
  have hG := hF.2
  obtain ⟨hx, hb, hml, hown, hts⟩ := id S
  have hl : lv_has ls 1 [(0, .int (x))] := hl
  refine lv_iload_n hx hb dX5_isLevel_0 rfl (lv_at hl 0 rfl) ?_
  refine lv_if_lt (tgt := 13) hx hb dX5_isLevel_1 (by decide) (fun c_1 => ?_) (fun c_1 => ?_)
  · refine lv_iconst (v := nI (0)) hx hb dX5_isLevel_13 (by decide) ?_
    exact hret _ _ _ dX5_isLevel_14 (by first | exact Or.inl rfl | exact Or.inr rfl) (by first | exact zrf (zin_f1 c_1) | exact zrf (zin_f2 c_1))
  · refine lv_iload_n hx hb dX5_isLevel_4 rfl (lv_at hl 0 rfl) ?_
    refine lv_iconst (v := nI (2)) hx hb dX5_isLevel_5 (by decide) ?_
    refine lv_icmp_gt (tgt := 13) hx hb dX5_isLevel_6 (by decide) (fun c_2 => ?_) (fun c_2 => ?_)
    · refine lv_iconst (v := nI (0)) hx hb dX5_isLevel_13 (by decide) ?_
      exact hret _ _ _ dX5_isLevel_14 (by first | exact Or.inl rfl | exact Or.inr rfl) (by first | exact zrf (zin_f1 c_2) | exact zrf (zin_f2 c_2))
    · refine lv_iconst (v := nI (1)) hx hb dX5_isLevel_9 (by decide) ?_
      refine lv_goto (tgt := 14) hx hb dX5_isLevel_10 (by decide) ?_
      exact hret _ _ _ dX5_isLevel_14 (by first | exact Or.inl rfl | exact Or.inr rfl) (zrt (zin_t c_1 c_2))

set_option maxHeartbeats 4000000 in
set_option maxRecDepth 100000 in
theorem c_X5_isKindOrEmpty (E : zEnv) {x : Int32}  : zRO E yX5_isKindOrEmpty wsX5_isKindOrEmpty 1 20 [.int (x)] (fun _ => True) (some (.int (zb (zin x 0 5)))) := by
  refine zRO.ofZ (maxL := 1) rfl (Nat.le_of_ble_eq_true rfl) (fun p e s m args below meth c H Q hF hP hret ls hl => ?_)
  have S : CallFix p m c cX5_isKindOrEmpty 1 s args wsX5_isKindOrEmpty RX5 := hF.1
  have hG := hF.2
  obtain ⟨hx, hb, hml, hown, hts⟩ := id S
  have hl : lv_has ls 1 [(0, .int (x))] := hl
  refine lv_iload_n hx hb dX5_isKindOrEmpty_0 rfl (lv_at hl 0 rfl) ?_
  refine lv_if_eq (tgt := 11) hx hb dX5_isKindOrEmpty_1 (by decide) (fun c_1 => ?_) (fun c_1 => ?_)
  · refine lv_iconst (v := nI (1)) hx hb dX5_isKindOrEmpty_11 (by decide) ?_
    refine lv_goto (tgt := 16) hx hb dX5_isKindOrEmpty_12 (by decide) ?_
    exact hret _ _ _ dX5_isKindOrEmpty_16 (by first | exact Or.inl rfl | exact Or.inr rfl) (by first | exact zrt (by rw [c_1]; rfl) | exact zrt (zin_15 c_1))
  · refine lv_iload_n hx hb dX5_isKindOrEmpty_4 rfl (lv_at hl 0 rfl) ?_
    refine z_roSX (As := [.int (x)]) (rest := []) S hG (c_X5_isCharm E) 1 gX5_isKindOrEmpty_X5_isCharm rfl kX5_isCharm.2 ⟨Nat.le_of_ble_eq_true rfl, Nat.le_of_ble_eq_true rfl⟩ ⟨Nat.zero_le _, Nat.zero_le _⟩ (trivial) rfl hl.1 rfl rfl (Nat.le_of_ble_eq_true rfl) dX5_isKindOrEmpty_5 ?_
    refine z_beq (tgt := 15) hx hb dX5_isKindOrEmpty_8 (by decide) (fun c_2 => ?_) (fun c_2 => ?_)
    · refine lv_iconst (v := nI (0)) hx hb dX5_isKindOrEmpty_15 (by decide) ?_
      exact hret _ _ _ dX5_isKindOrEmpty_16 (by first | exact Or.inl rfl | exact Or.inr rfl) (zrf (zin_05 c_1 c_2))
    · refine lv_iconst (v := nI (1)) hx hb dX5_isKindOrEmpty_11 (by decide) ?_
      refine lv_goto (tgt := 16) hx hb dX5_isKindOrEmpty_12 (by decide) ?_
      exact hret _ _ _ dX5_isKindOrEmpty_16 (by first | exact Or.inl rfl | exact Or.inr rfl) (by first | exact zrt (by rw [c_1]; rfl) | exact zrt (zin_15 c_2))

set_option maxHeartbeats 4000000 in
set_option maxRecDepth 100000 in
theorem c_X5_isSize (E : zEnv) {x : Int32}  : zRO E yX5_isSize wsX5_isSize 0 0 [.int (x)] (fun _ => True) (some (.int (zb (zsz x)))) := by
  refine zRO.ofZ (maxL := 1) rfl (Nat.le_of_ble_eq_true rfl) (fun p e s m args below meth c H Q hF hP hret ls hl => ?_)
  have S : CallFix p m c cX5_isSize 1 s args wsX5_isSize RX5 := hF.1
  have hG := hF.2
  obtain ⟨hx, hb, hml, hown, hts⟩ := id S
  have hl : lv_has ls 1 [(0, .int (x))] := hl
  refine lv_iload_n hx hb dX5_isSize_0 rfl (lv_at hl 0 rfl) ?_
  refine lv_iconst (v := nI (4)) hx hb dX5_isSize_1 (by decide) ?_
  refine lv_icmp_lt (tgt := 21) hx hb dX5_isSize_2 (by decide) (fun c_1 => ?_) (fun c_1 => ?_)
  · refine lv_iconst (v := nI (0)) hx hb dX5_isSize_21 (by decide) ?_
    exact hret _ _ _ dX5_isSize_22 (by first | exact Or.inl rfl | exact Or.inr rfl) (by first | exact zrf (zsz_o (zin_f1 c_1)) | exact zrf (zsz_o (zin_f2 c_1)))
  · refine lv_iload_n hx hb dX5_isSize_5 rfl (lv_at hl 0 rfl) ?_
    refine lv_bipush (v := nI (16)) hx hb dX5_isSize_6 (by decide) ?_
    refine lv_icmp_gt (tgt := 21) hx hb dX5_isSize_8 (by decide) (fun c_2 => ?_) (fun c_2 => ?_)
    · refine lv_iconst (v := nI (0)) hx hb dX5_isSize_21 (by decide) ?_
      exact hret _ _ _ dX5_isSize_22 (by first | exact Or.inl rfl | exact Or.inr rfl) (by first | exact zrf (zsz_o (zin_f1 c_2)) | exact zrf (zsz_o (zin_f2 c_2)))
    · refine lv_iload_n hx hb dX5_isSize_11 rfl (lv_at hl 0 rfl) ?_
      refine lv_iconst (v := nI (4)) hx hb dX5_isSize_12 (by decide) ?_
      refine lv_irem hx hb dX5_isSize_13 (by decide) ?_
      refine lv_if_ne (tgt := 21) hx hb dX5_isSize_14 (by decide) (fun c_3 => ?_) (fun c_3 => ?_)
      · refine lv_iconst (v := nI (0)) hx hb dX5_isSize_21 (by decide) ?_
        exact hret _ _ _ dX5_isSize_22 (by first | exact Or.inl rfl | exact Or.inr rfl) (by first | exact zrf (zsz_o (zin_f1 c_3)) | exact zrf (zsz_o (zin_f2 c_3)) | exact zrf (zsz_f (zin_t c_1 c_2) c_3))
      · refine lv_iconst (v := nI (1)) hx hb dX5_isSize_17 (by decide) ?_
        refine lv_goto (tgt := 22) hx hb dX5_isSize_18 (by decide) ?_
        exact hret _ _ _ dX5_isSize_22 (by first | exact Or.inl rfl | exact Or.inr rfl) (zrt (zsz_t (zin_t c_1 c_2) c_3))

set_option maxHeartbeats 4000000 in
set_option maxRecDepth 100000 in
theorem c_X2_hasSlot (E : zEnv) {a k n : Nat} {f : Nat → Int32} {x : Int32} (hn : 0 < n ∧ n ≤ 16) : zRO E yX2_hasSlot wsX2_hasSlot 0 0 [.ref (a), .int (x)] (fun H => zRing E a k n f H) (some (.int (zb (zin x 0 (n - 1))))) := by
  refine zRO.ofZ (maxL := 2) rfl (Nat.le_of_ble_eq_true rfl) (fun p e s m args below meth c H Q hF hP hret ls hl => ?_)
  have S : CallFix p m c cX2_hasSlot 2 s args wsX2_hasSlot RX2 := hF.1
  have hG := hF.2
  obtain ⟨hx, hb, hml, hown, hts⟩ := id S
  obtain ⟨h1, h2⟩ := hP
  have hl : lv_has ls 2 [(0, .ref (a)), (1, .int (x))] := hl
  have hin2 : ∀ w ∈ u_ws RX2 TX2 2, w ∈ wsX2_hasSlot := by decide +kernel
  refine lv_iload_n hx hb dX2_hasSlot_0 rfl (lv_at hl 1 rfl) ?_
  refine lv_if_lt (tgt := 16) hx hb dX2_hasSlot_1 (by decide) (fun c_1 => ?_) (fun c_1 => ?_)
  · refine lv_iconst (v := nI (0)) hx hb dX2_hasSlot_16 (by decide) ?_
    exact hret _ _ _ dX2_hasSlot_17 (by first | exact Or.inl rfl | exact Or.inr rfl) (by first | exact zrf (zin_f1 c_1) | exact zrf (zix_f hn.1 (by omega) c_1))
  · refine lv_iload_n hx hb dX2_hasSlot_4 rfl (lv_at hl 1 rfl) ?_
    refine lv_aload_n hx hb dX2_hasSlot_5 rfl (lv_at hl 0 rfl) ?_
    refine z_get (ref := RX2) (C := RX2) (T := TX2) (N := 2) hx hb hts hin2 hown hG h1 rfl 0 (by decide) (by decide +kernel) rfl rfl dX2_hasSlot_6 ?_
    refine lv_icmp_ge (tgt := 16) hx hb dX2_hasSlot_9 (by decide) (fun c_2 => ?_) (fun c_2 => ?_)
    · refine lv_iconst (v := nI (0)) hx hb dX2_hasSlot_16 (by decide) ?_
      exact hret _ _ _ dX2_hasSlot_17 (by first | exact Or.inl rfl | exact Or.inr rfl) (by first | exact zrf (zin_f1 c_2) | exact zrf (zix_f hn.1 (by omega) c_2))
    · refine lv_iconst (v := nI (1)) hx hb dX2_hasSlot_12 (by decide) ?_
      refine lv_goto (tgt := 17) hx hb dX2_hasSlot_13 (by decide) ?_
      exact hret _ _ _ dX2_hasSlot_17 (by first | exact Or.inl rfl | exact Or.inr rfl) (zrt (zix_t hn.1 (by omega) c_1 c_2))

set_option maxHeartbeats 4000000 in
set_option maxRecDepth 100000 in
theorem c_X2_at (E : zEnv) {a k n : Nat} {f : Nat → Int32} {j : Nat} (hj : j < 16) : zRO E yX2_at wsX2_at 0 0 [.ref (a), .int (nI (j))] (fun H => zRing E a k n f H) (some (.int (f j))) := by
  refine zRO.ofI (maxL := 2) rfl (Nat.le_of_ble_eq_true rfl) (fun p e s m args below meth c H Q hF hP hret ls hl => ?_)
  have S : CallFix p m c cX2_at 2 s args wsX2_at RX2 := hF.1
  have hG := hF.2
  obtain ⟨hx, hb, hml, hown, hts⟩ := id S
  obtain ⟨h1, h2⟩ := hP
  have hl : lv_has ls 2 [(0, .ref (a)), (1, .int (nI (j)))] := hl
  have hin2 : ∀ w ∈ u_ws RX2 TX2 2, w ∈ wsX2_at := by decide +kernel
  refine lv_iload_n hx hb dX2_at_0 rfl (lv_at hl 1 rfl) ?_
  refine z_flt (tgt := 22) hx hb dX2_at_1 (by decide) (by omega) ?_
  refine lv_iload_n hx hb dX2_at_4 rfl (lv_at hl 1 rfl) ?_
  refine lv_aload_n hx hb dX2_at_5 rfl (lv_at hl 0 rfl) ?_
  refine z_get (ref := RX2) (C := RX2) (T := TX2) (N := 2) hx hb hts hin2 hown hG h1 rfl 1 (by decide) (by decide +kernel) rfl rfl dX2_at_6 ?_
  refine z_alenI hx hb hG h2 dX2_at_9 ?_
  refine z_cge (tgt := 22) hx hb dX2_at_10 (by decide) ⟨by omega, by omega⟩ (fun c_2 => by exfalso; omega) (fun c_2 => ?_)
  refine lv_aload_n hx hb dX2_at_13 rfl (lv_at hl 0 rfl) ?_
  refine z_get (ref := RX2) (C := RX2) (T := TX2) (N := 2) hx hb hts hin2 hown hG h1 rfl 1 (by decide) (by decide +kernel) rfl rfl dX2_at_14 ?_
  refine lv_iload_n hx hb dX2_at_17 rfl (lv_at hl 1 rfl) ?_
  refine z_iald (j := j) hx hb hG h2 ⟨by omega, by omega⟩ dX2_at_18 ?_
  refine lv_goto (tgt := 23) hx hb dX2_at_19 (by decide) ?_
  exact hret _ _ _ dX2_at_23 (rfl)

set_option maxHeartbeats 4000000 in
set_option maxRecDepth 100000 in
theorem c_X2_around_n (E : zEnv) {a k n : Nat} {f : Nat → Int32} {j : Nat} (hj : j < 2 * n ∧ n ≤ 16) : zRO E yX2_around wsX2_around 0 0 [.ref (a), .int (nI (j))] (fun H => zRing E a k n f H) (some (.int (nI (if j < n then j else j - n)))) := by
  refine zRO.ofI (maxL := 2) rfl (Nat.le_of_ble_eq_true rfl) (fun p e s m args below meth c H Q hF hP hret ls hl => ?_)
  have S : CallFix p m c cX2_around 2 s args wsX2_around RX2 := hF.1
  have hG := hF.2
  obtain ⟨hx, hb, hml, hown, hts⟩ := id S
  obtain ⟨h1, h2⟩ := hP
  have hl : lv_has ls 2 [(0, .ref (a)), (1, .int (nI (j)))] := hl
  have hin2 : ∀ w ∈ u_ws RX2 TX2 2, w ∈ wsX2_around := by decide +kernel
  refine lv_iload_n hx hb dX2_around_0 rfl (lv_at hl 1 rfl) ?_
  refine z_fge (tgt := 11) hx hb dX2_around_1 (by decide) (by omega) ?_
  refine lv_iload_n hx hb dX2_around_11 rfl (lv_at hl 1 rfl) ?_
  refine lv_aload_n hx hb dX2_around_12 rfl (lv_at hl 0 rfl) ?_
  refine z_get (ref := RX2) (C := RX2) (T := TX2) (N := 2) hx hb hts hin2 hown hG h1 rfl 0 (by decide) (by decide +kernel) rfl rfl dX2_around_13 ?_
  refine z_cge (tgt := 23) hx hb dX2_around_16 (by decide) ⟨by omega, by omega⟩ (fun c_2 => ?_) (fun c_2 => ?_)
  · refine lv_iload_n hx hb dX2_around_23 rfl (lv_at hl 1 rfl) ?_
    refine lv_aload_n hx hb dX2_around_24 rfl (lv_at hl 0 rfl) ?_
    refine z_get (ref := RX2) (C := RX2) (T := TX2) (N := 2) hx hb hts hin2 hown hG h1 rfl 0 (by decide) (by decide +kernel) rfl rfl dX2_around_25 ?_
    refine z_isub hx hb dX2_around_28 (by omega) ?_
    exact hret _ _ _ dX2_around_29 (by simp [show ¬ j < n by omega])
  · refine lv_iload_n hx hb dX2_around_19 rfl (lv_at hl 1 rfl) ?_
    refine lv_goto (tgt := 29) hx hb dX2_around_20 (by decide) ?_
    exact hret _ _ _ dX2_around_29 (by simp [show j < n by omega])

set_option maxHeartbeats 4000000 in
set_option maxRecDepth 100000 in
theorem c_X2_around_m (E : zEnv) {a k n : Nat} {f : Nat → Int32} {i j : Nat} (hj : j < i ∧ i ≤ 32 ∧ n ≤ 16 ∧ i ≤ j + n) : zRO E yX2_around wsX2_around 0 0 [.ref (a), .int (nI j - nI i)] (fun H => zRing E a k n f H) (some (.int (nI (j + n - i)))) := by
  refine zRO.ofI (maxL := 2) rfl (Nat.le_of_ble_eq_true rfl) (fun p e s m args below meth c H Q hF hP hret ls hl => ?_)
  have S : CallFix p m c cX2_around 2 s args wsX2_around RX2 := hF.1
  have hG := hF.2
  obtain ⟨hx, hb, hml, hown, hts⟩ := id S
  obtain ⟨h1, h2⟩ := hP
  have hl : lv_has ls 2 [(0, .ref (a)), (1, .int (nI j - nI i))] := hl
  have hin2 : ∀ w ∈ u_ws RX2 TX2 2, w ∈ wsX2_around := by decide +kernel
  refine lv_iload_n hx hb dX2_around_0 rfl (lv_at hl 1 rfl) ?_
  refine lv_if_ge (tgt := 11) hx hb dX2_around_1 (by decide) (fun c_1 => by exfalso; exact absurd c_1 (Int32.not_le.mpr (pk_sneg (by omega) hj.1))) (fun c_1 => ?_)
  refine lv_iload_n hx hb dX2_around_4 rfl (lv_at hl 1 rfl) ?_
  refine lv_aload_n hx hb dX2_around_5 rfl (lv_at hl 0 rfl) ?_
  refine z_get (ref := RX2) (C := RX2) (T := TX2) (N := 2) hx hb hts hin2 hown hG h1 rfl 0 (by decide) (by decide +kernel) rfl rfl dX2_around_6 ?_
  refine lv_iadd hx hb dX2_around_9 ?_
  exact hret _ _ _ dX2_around_10 (by rw [zsub_add (by omega)])

set_option maxHeartbeats 4000000 in
set_option maxRecDepth 100000 in
theorem c_X2_charmsOf (E : zEnv) {a k n : Nat} {f : Nat → Int32} {x : Int32} (hn : n ≤ 16) : zRO E yX2_charmsOf wsX2_charmsOf 1 21 [.ref (a), .int (x)] (fun H => zRing E a k n f H) (some (.int (nI (zcn f x n)))) := by
  refine zRO.ofI (maxL := 4) rfl (Nat.le_of_ble_eq_true rfl) (fun p e s m args below meth c H Q hF hP hret ls hl => ?_)
  have S : CallFix p m c cX2_charmsOf 4 s args wsX2_charmsOf RX2 := hF.1
  have hG := hF.2
  obtain ⟨hx, hb, hml, hown, hts⟩ := id S
  obtain ⟨h1, h2⟩ := hP
  have hl : lv_has ls 4 [(0, .ref (a)), (1, .int (x))] := hl
  have hin2 : ∀ w ∈ u_ws RX2 TX2 2, w ∈ wsX2_charmsOf := by decide +kernel
  refine lv_iconst (v := nI (0)) hx hb dX2_charmsOf_0 (by decide) ?_
  refine lv_istore_n (lv' := [(2, .int (nI (0))), (0, .ref (a)), (1, .int (x))]) hx hb dX2_charmsOf_1 rfl hl (by decide) rfl (fun ls hl => ?_)
  refine lv_iconst (v := nI (0)) hx hb dX2_charmsOf_2 (by decide) ?_
  refine lv_istore_n (lv' := [(3, .int (nI (0))), (2, .int (nI (0))), (0, .ref (a)), (1, .int (x))]) hx hb dX2_charmsOf_3 rfl hl (by decide) rfl (fun ls hl => ?_)
  have L4 : ∀ (dd : Nat) (i : Nat), n - i < dd → i ≤ n → ∀ (ls : Array Slot), lv_has ls 4 [(0, .ref (a)), (1, .int (x)), (2, .int (nI (zcn f x i))), (3, .int (nI (i)))] → W p (zl E) e (zRm 1 21) s m args below meth c H [] 0 0 Q (F0 m 4 ls []) := by
    intro dd
    induction dd with
    | zero => intro i hdd; exact absurd hdd (Nat.not_lt_zero _)
    | succ dd ih4 =>
      intro i hdd4 hi ls hl
      refine lv_iload_n hx hb dX2_charmsOf_4 rfl (lv_at hl 3 rfl) ?_
      refine lv_aload_n hx hb dX2_charmsOf_5 rfl (lv_at hl 0 rfl) ?_
      refine z_get (ref := RX2) (C := RX2) (T := TX2) (N := 2) hx hb hts hin2 hown hG h1 rfl 0 (by decide) (by decide +kernel) rfl rfl dX2_charmsOf_6 ?_
      refine z_cge (tgt := 30) hx hb dX2_charmsOf_9 (by decide) ⟨by omega, by omega⟩ (fun c_1 => ?_) (fun c_1 => ?_)
      · refine lv_iload_n hx hb dX2_charmsOf_30 rfl (lv_at hl 2 rfl) ?_
        exact hret _ _ _ dX2_charmsOf_31 (by rw [show i = n by omega])
      · refine lv_aload_n hx hb dX2_charmsOf_12 rfl (lv_at hl 0 rfl) ?_
        refine lv_iload_n hx hb dX2_charmsOf_13 rfl (lv_at hl 3 rfl) ?_
        refine z_roV (As := [.int (nI (i))]) (rest := []) (q := (RX2, TX2, 2)) S hG (c_X2_at E (j := i) (by omega)) 1 gX2_charmsOf_X2_at rfl kX2_at ⟨Nat.le_of_ble_eq_true rfl, Nat.le_of_ble_eq_true rfl⟩ ⟨Nat.zero_le _, Nat.zero_le _⟩ (⟨h1, h2⟩) rfl h1 rfl hl.1 rfl rfl (Nat.le_of_ble_eq_true rfl) dX2_charmsOf_14 ?_
        refine lv_iload_n hx hb dX2_charmsOf_17 rfl (lv_at hl 1 rfl) ?_
        refine lv_icmp_ne (tgt := 24) hx hb dX2_charmsOf_18 (by decide) (fun c_2 => ?_) (fun c_2 => ?_)
        · refine lv_iinc (v := nI (i + 1)) (lv' := [(3, .int (nI (i + 1))), (0, .ref (a)), (1, .int (x)), (2, .int (nI (zcn f x i)))]) hx hb dX2_charmsOf_24 hl (k := 3) rfl (z_inc1 _) (by decide) rfl (fun ls hl => ?_)
          refine lv_goto (tgt := 4) hx hb dX2_charmsOf_27 (by decide) ?_
          have hl9 := lv_sub hl [1, 2, 3, 0] (l' := [(0, .ref (a)), (1, .int (x)), (2, .int (nI (zcn f x i))), (3, .int (nI (i + 1)))]) rfl
          have e9 : (zcn f x i) = (zcn f x (i + 1)) := by first | exact zct_t (decide_eq_true c_2) | exact zct_f (decide_eq_false c_2)
          rw [e9] at hl9
          have e9 : (i + 1) = ((i + 1)) := by omega
          rw [e9] at hl9
          exact ih4 (i + 1) (by omega) (by omega) ls hl9
        · refine lv_iinc (v := nI (zcn f x i + 1)) (lv' := [(2, .int (nI (zcn f x i + 1))), (0, .ref (a)), (1, .int (x)), (3, .int (nI (i)))]) hx hb dX2_charmsOf_21 hl (k := 2) rfl (z_inc1 _) (by decide) rfl (fun ls hl => ?_)
          refine lv_iinc (v := nI (i + 1)) (lv' := [(3, .int (nI (i + 1))), (2, .int (nI (zcn f x i + 1))), (0, .ref (a)), (1, .int (x))]) hx hb dX2_charmsOf_24 hl (k := 3) rfl (z_inc1 _) (by decide) rfl (fun ls hl => ?_)
          refine lv_goto (tgt := 4) hx hb dX2_charmsOf_27 (by decide) ?_
          have hl9 := lv_sub hl [2, 3, 1, 0] (l' := [(0, .ref (a)), (1, .int (x)), (2, .int (nI (zcn f x i + 1))), (3, .int (nI (i + 1)))]) rfl
          have e9 : (zcn f x i + 1) = (zcn f x (i + 1)) := by first | exact zct_t (decide_eq_true c_2) | exact zct_f (decide_eq_false c_2)
          rw [e9] at hl9
          have e9 : (i + 1) = ((i + 1)) := by omega
          rw [e9] at hl9
          exact ih4 (i + 1) (by omega) (by omega) ls hl9
  exact L4 ((n - (0)) + 1) (0) (Nat.lt_succ_self _) (Nat.zero_le _) ls (lv_sub hl [2, 3, 1, 0] rfl)

set_option maxHeartbeats 4000000 in
set_option maxRecDepth 100000 in
theorem c_X2_charms (E : zEnv) {a k n : Nat} {f : Nat → Int32} (hn : n ≤ 16) : zRO E yX2_charms wsX2_charms 2 44 [.ref (a)] (fun H => zRing E a k n f H) (some (.int (nI (n - zcn f 0 n)))) := by
  refine zRO.ofI (maxL := 1) rfl (Nat.le_of_ble_eq_true rfl) (fun p e s m args below meth c H Q hF hP hret ls hl => ?_)
  have S : CallFix p m c cX2_charms 1 s args wsX2_charms RX2 := hF.1
  have hG := hF.2
  obtain ⟨hx, hb, hml, hown, hts⟩ := id S
  obtain ⟨h1, h2⟩ := hP
  have hl : lv_has ls 1 [(0, .ref (a))] := hl
  have hin2 : ∀ w ∈ u_ws RX2 TX2 2, w ∈ wsX2_charms := by decide +kernel
  refine lv_aload_n hx hb dX2_charms_0 rfl (lv_at hl 0 rfl) ?_
  refine z_get (ref := RX2) (C := RX2) (T := TX2) (N := 2) hx hb hts hin2 hown hG h1 rfl 0 (by decide) (by decide +kernel) rfl rfl dX2_charms_1 ?_
  refine lv_aload_n hx hb dX2_charms_4 rfl (lv_at hl 0 rfl) ?_
  refine lv_iconst (v := nI (0)) hx hb dX2_charms_5 (by decide) ?_
  refine z_roV (As := [.int (nI (0))]) (rest := [.int (nI (n))]) (q := (RX2, TX2, 2)) S hG (c_X2_charmsOf E hn) 1 gX2_charms_X2_charmsOf rfl kX2_charmsOf ⟨Nat.le_of_ble_eq_true rfl, Nat.le_of_ble_eq_true rfl⟩ ⟨Nat.zero_le _, Nat.zero_le _⟩ (⟨h1, h2⟩) rfl h1 rfl hl.1 rfl rfl (Nat.le_of_ble_eq_true rfl) dX2_charms_6 ?_
  refine z_isub hx hb dX2_charms_9 (zcn_le _ _ _) ?_
  exact hret _ _ _ dX2_charms_10 (rfl)

set_option maxHeartbeats 4000000 in
set_option maxRecDepth 100000 in
theorem c_X2_kindAfter (E : zEnv) {a k n : Nat} {f : Nat → Int32} {ch j : Nat} (hj : j < n ∧ ch < 2 * n ∧ n ≤ 16) : zRO E yX2_kindAfter wsX2_kindAfter 1 21 [.ref (a), .int (nI (ch)), .int (nI (j))] (fun H => zRing E a k n f H) (some (.int (zimg n f ch j))) := by
  refine zRO.ofI (maxL := 4) rfl (Nat.le_of_ble_eq_true rfl) (fun p e s m args below meth c H Q hF hP hret ls hl => ?_)
  have S : CallFix p m c cX2_kindAfter 4 s args wsX2_kindAfter RX2 := hF.1
  have hG := hF.2
  obtain ⟨hx, hb, hml, hown, hts⟩ := id S
  obtain ⟨h1, h2⟩ := hP
  have hl : lv_has ls 4 [(0, .ref (a)), (1, .int (nI (ch))), (2, .int (nI (j)))] := hl
  have hin2 : ∀ w ∈ u_ws RX2 TX2 2, w ∈ wsX2_kindAfter := by decide +kernel
  refine lv_iload_n hx hb dX2_kindAfter_0 rfl (lv_at hl 1 rfl) ?_
  refine lv_aload_n hx hb dX2_kindAfter_1 rfl (lv_at hl 0 rfl) ?_
  refine z_get (ref := RX2) (C := RX2) (T := TX2) (N := 2) hx hb hts hin2 hown hG h1 rfl 0 (by decide) (by decide +kernel) rfl rfl dX2_kindAfter_2 ?_
  refine z_cge (tgt := 14) hx hb dX2_kindAfter_5 (by decide) ⟨by omega, by omega⟩ (fun c_1 => ?_) (fun c_1 => ?_)
  · refine lv_iload_n hx hb dX2_kindAfter_14 rfl (lv_at hl 1 rfl) ?_
    refine lv_aload_n hx hb dX2_kindAfter_15 rfl (lv_at hl 0 rfl) ?_
    refine z_get (ref := RX2) (C := RX2) (T := TX2) (N := 2) hx hb hts hin2 hown hG h1 rfl 0 (by decide) (by decide +kernel) rfl rfl dX2_kindAfter_16 ?_
    refine z_isub hx hb dX2_kindAfter_19 (by omega) ?_
    rcases Nat.lt_or_ge (ch - n) j with q1 | q1
    · refine lv_iload_n hx hb dX2_kindAfter_20 rfl (lv_at hl 2 rfl) ?_
      refine lv_isub hx hb dX2_kindAfter_21 ?_
      refine lv_istore_n (lv' := [(3, .int (nI (ch - n) - nI (j))), (0, .ref (a)), (1, .int (nI (ch))), (2, .int (nI (j)))]) hx hb dX2_kindAfter_22 rfl hl (by decide) rfl (fun ls hl => ?_)
      refine lv_aload_n hx hb dX2_kindAfter_23 rfl (lv_at hl 1 rfl) ?_
      refine lv_aload_n hx hb dX2_kindAfter_24 rfl (lv_at hl 1 rfl) ?_
      refine lv_iload_n hx hb dX2_kindAfter_25 rfl (lv_at hl 0 rfl) ?_
      refine z_roV (As := [.int (nI (ch - n) - nI (j))]) (rest := [.ref (a)]) (q := (RX2, TX2, 2)) S hG (c_X2_around_m E (j := ch - n) (i := j) (by omega)) 1 gX2_kindAfter_X2_around rfl kX2_around ⟨Nat.le_of_ble_eq_true rfl, Nat.le_of_ble_eq_true rfl⟩ ⟨Nat.zero_le _, Nat.zero_le _⟩ (⟨h1, h2⟩) rfl h1 rfl hl.1 rfl rfl (Nat.le_of_ble_eq_true rfl) dX2_kindAfter_26 ?_
      refine z_roV (As := [.int (nI (ch - n + n - j))]) (rest := []) (q := (RX2, TX2, 2)) S hG (c_X2_at E (j := ch - n + n - j) (by omega)) 1 gX2_kindAfter_X2_at rfl kX2_at ⟨Nat.le_of_ble_eq_true rfl, Nat.le_of_ble_eq_true rfl⟩ ⟨Nat.zero_le _, Nat.zero_le _⟩ (⟨h1, h2⟩) rfl h1 rfl hl.1 rfl rfl (Nat.le_of_ble_eq_true rfl) dX2_kindAfter_29 ?_
      exact hret _ _ _ dX2_kindAfter_32 (zsi ((zimg_mb c_1 q1 hj.1).trans (by congr 1; omega)))
    · refine lv_iload_n hx hb dX2_kindAfter_20 rfl (lv_at hl 2 rfl) ?_
      refine z_isub hx hb dX2_kindAfter_21 (by omega) ?_
      refine lv_istore_n (lv' := [(3, .int (nI ((ch - n) - j))), (0, .ref (a)), (1, .int (nI (ch))), (2, .int (nI (j)))]) hx hb dX2_kindAfter_22 rfl hl (by decide) rfl (fun ls hl => ?_)
      refine lv_aload_n hx hb dX2_kindAfter_23 rfl (lv_at hl 1 rfl) ?_
      refine lv_aload_n hx hb dX2_kindAfter_24 rfl (lv_at hl 1 rfl) ?_
      refine lv_iload_n hx hb dX2_kindAfter_25 rfl (lv_at hl 0 rfl) ?_
      refine z_roV (As := [.int (nI ((ch - n) - j))]) (rest := [.ref (a)]) (q := (RX2, TX2, 2)) S hG (c_X2_around_n E (j := (ch - n - j)) (by omega)) 1 gX2_kindAfter_X2_around rfl kX2_around ⟨Nat.le_of_ble_eq_true rfl, Nat.le_of_ble_eq_true rfl⟩ ⟨Nat.zero_le _, Nat.zero_le _⟩ (⟨h1, h2⟩) rfl h1 rfl hl.1 rfl rfl (Nat.le_of_ble_eq_true rfl) dX2_kindAfter_26 ?_
      refine z_top (y := nI (ch - n - j)) (by rw [if_pos (by omega)]) ?_
      refine z_roV (As := [.int (nI (ch - n - j))]) (rest := []) (q := (RX2, TX2, 2)) S hG (c_X2_at E (j := ch - n - j) (by omega)) 1 gX2_kindAfter_X2_at rfl kX2_at ⟨Nat.le_of_ble_eq_true rfl, Nat.le_of_ble_eq_true rfl⟩ ⟨Nat.zero_le _, Nat.zero_le _⟩ (⟨h1, h2⟩) rfl h1 rfl hl.1 rfl rfl (Nat.le_of_ble_eq_true rfl) dX2_kindAfter_29 ?_
      exact hret _ _ _ dX2_kindAfter_32 (zsi (zimg_ma c_1 hj.2.1 q1))
  · rcases Nat.lt_or_ge j ch with q1 | q1
    · refine lv_iload_n hx hb dX2_kindAfter_8 rfl (lv_at hl 2 rfl) ?_
      refine lv_iload_n hx hb dX2_kindAfter_9 rfl (lv_at hl 1 rfl) ?_
      refine lv_isub hx hb dX2_kindAfter_10 ?_
      refine lv_goto (tgt := 22) hx hb dX2_kindAfter_11 (by decide) ?_
      refine lv_istore_n (lv' := [(3, .int (nI (j) - nI (ch))), (0, .ref (a)), (1, .int (nI (ch))), (2, .int (nI (j)))]) hx hb dX2_kindAfter_22 rfl hl (by decide) rfl (fun ls hl => ?_)
      refine lv_aload_n hx hb dX2_kindAfter_23 rfl (lv_at hl 1 rfl) ?_
      refine lv_aload_n hx hb dX2_kindAfter_24 rfl (lv_at hl 1 rfl) ?_
      refine lv_iload_n hx hb dX2_kindAfter_25 rfl (lv_at hl 0 rfl) ?_
      refine z_roV (As := [.int (nI (j) - nI (ch))]) (rest := [.ref (a)]) (q := (RX2, TX2, 2)) S hG (c_X2_around_m E (j := j) (i := ch) (by omega)) 1 gX2_kindAfter_X2_around rfl kX2_around ⟨Nat.le_of_ble_eq_true rfl, Nat.le_of_ble_eq_true rfl⟩ ⟨Nat.zero_le _, Nat.zero_le _⟩ (⟨h1, h2⟩) rfl h1 rfl hl.1 rfl rfl (Nat.le_of_ble_eq_true rfl) dX2_kindAfter_26 ?_
      refine z_roV (As := [.int (nI (j + n - ch))]) (rest := []) (q := (RX2, TX2, 2)) S hG (c_X2_at E (j := j + n - ch) (by omega)) 1 gX2_kindAfter_X2_at rfl kX2_at ⟨Nat.le_of_ble_eq_true rfl, Nat.le_of_ble_eq_true rfl⟩ ⟨Nat.zero_le _, Nat.zero_le _⟩ (⟨h1, h2⟩) rfl h1 rfl hl.1 rfl rfl (Nat.le_of_ble_eq_true rfl) dX2_kindAfter_29 ?_
      exact hret _ _ _ dX2_kindAfter_32 (zsi (zimg_rb c_1 q1))
    · refine lv_iload_n hx hb dX2_kindAfter_8 rfl (lv_at hl 2 rfl) ?_
      refine lv_iload_n hx hb dX2_kindAfter_9 rfl (lv_at hl 1 rfl) ?_
      refine z_isub hx hb dX2_kindAfter_10 (by omega) ?_
      refine lv_goto (tgt := 22) hx hb dX2_kindAfter_11 (by decide) ?_
      refine lv_istore_n (lv' := [(3, .int (nI (j - ch))), (0, .ref (a)), (1, .int (nI (ch))), (2, .int (nI (j)))]) hx hb dX2_kindAfter_22 rfl hl (by decide) rfl (fun ls hl => ?_)
      refine lv_aload_n hx hb dX2_kindAfter_23 rfl (lv_at hl 1 rfl) ?_
      refine lv_aload_n hx hb dX2_kindAfter_24 rfl (lv_at hl 1 rfl) ?_
      refine lv_iload_n hx hb dX2_kindAfter_25 rfl (lv_at hl 0 rfl) ?_
      refine z_roV (As := [.int (nI (j - ch))]) (rest := [.ref (a)]) (q := (RX2, TX2, 2)) S hG (c_X2_around_n E (j := (j - ch)) (by omega)) 1 gX2_kindAfter_X2_around rfl kX2_around ⟨Nat.le_of_ble_eq_true rfl, Nat.le_of_ble_eq_true rfl⟩ ⟨Nat.zero_le _, Nat.zero_le _⟩ (⟨h1, h2⟩) rfl h1 rfl hl.1 rfl rfl (Nat.le_of_ble_eq_true rfl) dX2_kindAfter_26 ?_
      refine z_top (y := nI (j - ch)) (by rw [if_pos (by omega)]) ?_
      refine z_roV (As := [.int (nI (j - ch))]) (rest := []) (q := (RX2, TX2, 2)) S hG (c_X2_at E (j := j - ch) (by omega)) 1 gX2_kindAfter_X2_at rfl kX2_at ⟨Nat.le_of_ble_eq_true rfl, Nat.le_of_ble_eq_true rfl⟩ ⟨Nat.zero_le _, Nat.zero_le _⟩ (⟨h1, h2⟩) rfl h1 rfl hl.1 rfl rfl (Nat.le_of_ble_eq_true rfl) dX2_kindAfter_29 ?_
      exact hret _ _ _ dX2_kindAfter_32 (zsi (zimg_ra c_1 q1 hj.1))

set_option maxHeartbeats 4000000 in
set_option maxRecDepth 100000 in
theorem c_X2_differences (E : zEnv) {a k n : Nat} {f : Nat → Int32} {ch b kb m2 : Nat} {g : Nat → Int32} (hn : ch < 2 * n ∧ n ≤ 16) : zRO E yX2_differences wsX2_differences 2 44 [.ref (a), .int (nI (ch)), .ref (b)] (fun H => zRing E a k n f H ∧ zRing E b kb m2 g H) (some (.int (nI (zdf n f ch g)))) := by
  refine zRO.ofI (maxL := 5) rfl (Nat.le_of_ble_eq_true rfl) (fun p e s m args below meth c H Q hF hP hret ls hl => ?_)
  have S : CallFix p m c cX2_differences 5 s args wsX2_differences RX2 := hF.1
  have hG := hF.2
  obtain ⟨hx, hb, hml, hown, hts⟩ := id S
  obtain ⟨⟨h1, h2⟩, h3, h4⟩ := hP
  have hl : lv_has ls 5 [(0, .ref (a)), (1, .int (nI (ch))), (2, .ref (b))] := hl
  have hin2 : ∀ w ∈ u_ws RX2 TX2 2, w ∈ wsX2_differences := by decide +kernel
  refine lv_iconst (v := nI (0)) hx hb dX2_differences_0 (by decide) ?_
  refine lv_istore_n (lv' := [(3, .int (nI (0))), (0, .ref (a)), (1, .int (nI (ch))), (2, .ref (b))]) hx hb dX2_differences_1 rfl hl (by decide) rfl (fun ls hl => ?_)
  refine lv_iconst (v := nI (0)) hx hb dX2_differences_2 (by decide) ?_
  refine lv_istore (lv' := [(4, .int (nI (0))), (3, .int (nI (0))), (0, .ref (a)), (1, .int (nI (ch))), (2, .ref (b))]) hx hb dX2_differences_3 hl (by decide) rfl (fun ls hl => ?_)
  have L5 : ∀ (dd : Nat) (i : Nat), n - i < dd → i ≤ n → ∀ (ls : Array Slot), lv_has ls 5 [(0, .ref (a)), (1, .int (nI (ch))), (2, .ref (b)), (3, .int (nI (zct (fun s => decide (zimg n f ch s ≠ g s)) i))), (4, .int (nI (i)))] → W p (zl E) e (zRm 2 44) s m args below meth c H [] 0 0 Q (F0 m 5 ls []) := by
    intro dd
    induction dd with
    | zero => intro i hdd; exact absurd hdd (Nat.not_lt_zero _)
    | succ dd ih5 =>
      intro i hdd5 hi ls hl
      refine lv_iload hx hb dX2_differences_5 (lv_at hl 4 rfl) ?_
      refine lv_aload_n hx hb dX2_differences_7 rfl (lv_at hl 0 rfl) ?_
      refine z_get (ref := RX2) (C := RX2) (T := TX2) (N := 2) hx hb hts hin2 hown hG h1 rfl 0 (by decide) (by decide +kernel) rfl rfl dX2_differences_8 ?_
      refine z_cge (tgt := 39) hx hb dX2_differences_11 (by decide) ⟨by omega, by omega⟩ (fun c_1 => ?_) (fun c_1 => ?_)
      · refine lv_iload_n hx hb dX2_differences_39 rfl (lv_at hl 3 rfl) ?_
        exact hret _ _ _ dX2_differences_40 (by rw [show i = n by omega]; rfl)
      · refine lv_aload_n hx hb dX2_differences_14 rfl (lv_at hl 0 rfl) ?_
        refine lv_iload_n hx hb dX2_differences_15 rfl (lv_at hl 1 rfl) ?_
        refine lv_iload hx hb dX2_differences_16 (lv_at hl 4 rfl) ?_
        refine z_roV (As := [.int (nI (ch)), .int (nI (i))]) (rest := []) (q := (RX2, TX2, 2)) S hG (c_X2_kindAfter E (ch := ch) (j := i) (by omega)) 2 gX2_differences_X2_kindAfter rfl kX2_kindAfter ⟨Nat.le_of_ble_eq_true rfl, Nat.le_of_ble_eq_true rfl⟩ ⟨Nat.zero_le _, Nat.zero_le _⟩ (⟨h1, h2⟩) rfl h1 rfl hl.1 rfl rfl (Nat.le_of_ble_eq_true rfl) dX2_differences_18 ?_
        refine lv_aload_n hx hb dX2_differences_21 rfl (lv_at hl 2 rfl) ?_
        refine lv_iload hx hb dX2_differences_22 (lv_at hl 4 rfl) ?_
        refine z_roV (As := [.int (nI (i))]) (rest := [.int (zimg n f ch i)]) (q := (RX2, TX2, 2)) S hG (c_X2_at E (j := i) (by omega)) 1 gX2_differences_X2_at rfl kX2_at ⟨Nat.le_of_ble_eq_true rfl, Nat.le_of_ble_eq_true rfl⟩ ⟨Nat.zero_le _, Nat.zero_le _⟩ (⟨h3, h4⟩) rfl h3 rfl hl.1 rfl rfl (Nat.le_of_ble_eq_true rfl) dX2_differences_24 ?_
        refine lv_icmp_eq (tgt := 33) hx hb dX2_differences_27 (by decide) (fun c_2 => ?_) (fun c_2 => ?_)
        · refine lv_iinc (v := nI (i + 1)) (lv' := [(4, .int (nI (i + 1))), (0, .ref (a)), (1, .int (nI (ch))), (2, .ref (b)), (3, .int (nI (zct (fun s => decide (zimg n f ch s ≠ g s)) i)))]) hx hb dX2_differences_33 hl (k := 4) rfl (z_inc1 _) (by decide) rfl (fun ls hl => ?_)
          refine lv_goto (tgt := 5) hx hb dX2_differences_36 (by decide) ?_
          have hl9 := lv_sub hl [1, 2, 3, 4, 0] (l' := [(0, .ref (a)), (1, .int (nI (ch))), (2, .ref (b)), (3, .int (nI (zct (fun s => decide (zimg n f ch s ≠ g s)) i))), (4, .int (nI (i + 1)))]) rfl
          have e9 : (zct (fun s => decide (zimg n f ch s ≠ g s)) i) = (zct (fun s => decide (zimg n f ch s ≠ g s)) (i + 1)) := by first | exact zct_t (decide_eq_true c_2) | exact zct_f (decide_eq_false (fun q => q c_2))
          rw [e9] at hl9
          have e9 : (i + 1) = ((i + 1)) := by omega
          rw [e9] at hl9
          exact ih5 (i + 1) (by omega) (by omega) ls hl9
        · refine lv_iinc (v := nI (zct (fun s => decide (zimg n f ch s ≠ g s)) i + 1)) (lv' := [(3, .int (nI (zct (fun s => decide (zimg n f ch s ≠ g s)) i + 1))), (0, .ref (a)), (1, .int (nI (ch))), (2, .ref (b)), (4, .int (nI (i)))]) hx hb dX2_differences_30 hl (k := 3) rfl (z_inc1 _) (by decide) rfl (fun ls hl => ?_)
          refine lv_iinc (v := nI (i + 1)) (lv' := [(4, .int (nI (i + 1))), (3, .int (nI (zct (fun s => decide (zimg n f ch s ≠ g s)) i + 1))), (0, .ref (a)), (1, .int (nI (ch))), (2, .ref (b))]) hx hb dX2_differences_33 hl (k := 4) rfl (z_inc1 _) (by decide) rfl (fun ls hl => ?_)
          refine lv_goto (tgt := 5) hx hb dX2_differences_36 (by decide) ?_
          have hl9 := lv_sub hl [2, 3, 4, 1, 0] (l' := [(0, .ref (a)), (1, .int (nI (ch))), (2, .ref (b)), (3, .int (nI (zct (fun s => decide (zimg n f ch s ≠ g s)) i + 1))), (4, .int (nI (i + 1)))]) rfl
          have e9 : (zct (fun s => decide (zimg n f ch s ≠ g s)) i + 1) = (zct (fun s => decide (zimg n f ch s ≠ g s)) (i + 1)) := by first | exact zct_t (decide_eq_true c_2) | exact zct_f (decide_eq_false (fun q => q c_2))
          rw [e9] at hl9
          have e9 : (i + 1) = ((i + 1)) := by omega
          rw [e9] at hl9
          exact ih5 (i + 1) (by omega) (by omega) ls hl9
  exact L5 ((n - (0)) + 1) (0) (Nat.lt_succ_self _) (Nat.zero_le _) ls (lv_sub hl [2, 3, 4, 1, 0] rfl)

set_option maxHeartbeats 4000000 in
set_option maxRecDepth 100000 in
theorem c_X2_leastDifferences (E : zEnv) {a k n : Nat} {f : Nat → Int32} {lv b kb m2 : Nat} {g : Nat → Int32} (hn : 0 < n ∧ n ≤ 16) (hlv : lv ≤ 2) : zRO E yX2_leastDifferences wsX2_leastDifferences 3 68 [.ref (a), .ref (b), .int (nI (lv))] (fun H => zRing E a k n f H ∧ zRing E b kb m2 g H) (some (.int (nI (zmd n f g lv (znc lv n))))) := by
  refine zRO.ofI (maxL := 6) rfl (Nat.le_of_ble_eq_true rfl) (fun p e s m args below meth c H Q hF hP hret ls hl => ?_)
  have S : CallFix p m c cX2_leastDifferences 6 s args wsX2_leastDifferences RX2 := hF.1
  have hG := hF.2
  obtain ⟨hx, hb, hml, hown, hts⟩ := id S
  obtain ⟨⟨h1, h2⟩, h3, h4⟩ := hP
  have hnc := znc_le (lv := lv) hn.2
  have hl : lv_has ls 6 [(0, .ref (a)), (1, .ref (b)), (2, .int (nI (lv)))] := hl
  have hin2 : ∀ w ∈ u_ws RX2 TX2 2, w ∈ wsX2_leastDifferences := by decide +kernel
  refine lv_aload_n hx hb dX2_leastDifferences_0 rfl (lv_at hl 0 rfl) ?_
  refine z_get (ref := RX2) (C := RX2) (T := TX2) (N := 2) hx hb hts hin2 hown hG h1 rfl 0 (by decide) (by decide +kernel) rfl rfl dX2_leastDifferences_1 ?_
  refine lv_istore_n (lv' := [(3, .int (nI (n))), (0, .ref (a)), (1, .ref (b)), (2, .int (nI (lv)))]) hx hb dX2_leastDifferences_4 rfl hl (by decide) rfl (fun ls hl => ?_)
  refine lv_iload_n hx hb dX2_leastDifferences_5 rfl (lv_at hl 3 rfl) ?_
  refine lv_aload_n hx hb dX2_leastDifferences_6 rfl (lv_at hl 1 rfl) ?_
  refine z_get (ref := RX2) (C := RX2) (T := TX2) (N := 2) hx hb hts hin2 hown hG h1 rfl 0 (by decide) (by decide +kernel) rfl rfl dX2_leastDifferences_7 ?_
  refine z_roSN (As := [.int (nI (lv)), .int (nI (n))]) (rest := []) (host := "CharmBracelets") S hG (c_X5_changeCount E hlv) 2 gX2_leastDifferences_X5_changeCount_n43 (List.mem_of_getElem? (i := 33) rfl) (by decide +kernel) rfl kX5_changeCount.2 ⟨Nat.le_of_ble_eq_true rfl, Nat.le_of_ble_eq_true rfl⟩ ⟨Nat.zero_le _, Nat.zero_le _⟩ (trivial) rfl hl.1 rfl rfl (Nat.le_of_ble_eq_true rfl) dX2_leastDifferences_10 ?_
  refine lv_istore (lv' := [(4, .int (nI (znc lv n))), (3, .int (nI (n))), (0, .ref (a)), (1, .ref (b)), (2, .int (nI (lv)))]) hx hb dX2_leastDifferences_13 hl (by decide) rfl (fun ls hl => ?_)
  refine lv_iconst (v := nI (0)) hx hb dX2_leastDifferences_15 (by decide) ?_
  refine lv_istore (lv' := [(5, .int (nI (0))), (4, .int (nI (znc lv n))), (3, .int (nI (n))), (0, .ref (a)), (1, .ref (b)), (2, .int (nI (lv)))]) hx hb dX2_leastDifferences_16 hl (by decide) rfl (fun ls hl => ?_)
  have L18 : ∀ (dd : Nat) (i : Nat), znc lv n - i < dd → i ≤ znc lv n → ∀ (ls : Array Slot), lv_has ls 6 [(0, .ref (a)), (1, .ref (b)), (2, .int (nI (lv))), (3, .int (nI (zmd n f g lv i))), (4, .int (nI (znc lv n))), (5, .int (nI (i)))] → W p (zl E) e (zRm 3 68) s m args below meth c H [] 0 0 Q (F0 m 18 ls []) := by
    intro dd
    induction dd with
    | zero => intro i hdd; exact absurd hdd (Nat.not_lt_zero _)
    | succ dd ih18 =>
      intro i hdd18 hi ls hl
      refine lv_iload hx hb dX2_leastDifferences_18 (lv_at hl 5 rfl) ?_
      refine lv_iload hx hb dX2_leastDifferences_20 (lv_at hl 4 rfl) ?_
      refine z_cge (tgt := 51) hx hb dX2_leastDifferences_22 (by decide) ⟨by omega, by omega⟩ (fun c_1 => ?_) (fun c_1 => ?_)
      · refine lv_iload_n hx hb dX2_leastDifferences_51 rfl (lv_at hl 3 rfl) ?_
        exact hret _ _ _ dX2_leastDifferences_52 (by rw [show i = znc lv n by omega])
      · refine lv_iload_n hx hb dX2_leastDifferences_25 rfl (lv_at hl 3 rfl) ?_
        refine lv_aload_n hx hb dX2_leastDifferences_26 rfl (lv_at hl 0 rfl) ?_
        refine lv_iload_n hx hb dX2_leastDifferences_27 rfl (lv_at hl 2 rfl) ?_
        refine lv_iload hx hb dX2_leastDifferences_28 (lv_at hl 5 rfl) ?_
        refine lv_aload_n hx hb dX2_leastDifferences_30 rfl (lv_at hl 0 rfl) ?_
        refine z_get (ref := RX2) (C := RX2) (T := TX2) (N := 2) hx hb hts hin2 hown hG h1 rfl 0 (by decide) (by decide +kernel) rfl rfl dX2_leastDifferences_31 ?_
        refine z_roSN (As := [.int (nI (lv)), .int (nI (i)), .int (nI (n))]) (rest := [.ref (a), .int (nI (zmd n f g lv i))]) (host := "CharmBracelets") S hG (c_X5_changeAt E hlv (i := i) (by omega) hn.2) 3 gX2_leastDifferences_X5_changeAt_n46 (List.mem_of_getElem? (i := 34) rfl) (by decide +kernel) rfl kX5_changeAt.2 ⟨Nat.le_of_ble_eq_true rfl, Nat.le_of_ble_eq_true rfl⟩ ⟨Nat.zero_le _, Nat.zero_le _⟩ (trivial) rfl hl.1 rfl rfl (Nat.le_of_ble_eq_true rfl) dX2_leastDifferences_34 ?_
        refine lv_aload_n hx hb dX2_leastDifferences_37 rfl (lv_at hl 1 rfl) ?_
        refine z_roV (As := [.int (nI (zchg lv i n)), .ref (b)]) (rest := [.int (nI (zmd n f g lv i))]) (q := (RX2, TX2, 2)) S hG (c_X2_differences E ⟨zchg_lt hlv hn.1 (by omega), hn.2⟩) 2 gX2_leastDifferences_X2_differences rfl kX2_differences ⟨Nat.le_of_ble_eq_true rfl, Nat.le_of_ble_eq_true rfl⟩ ⟨Nat.zero_le _, Nat.zero_le _⟩ (⟨⟨h1, h2⟩, h3, h4⟩) rfl h1 rfl hl.1 rfl rfl (Nat.le_of_ble_eq_true rfl) dX2_leastDifferences_38 ?_
        refine z_min (own := RX2) (index := 54) hx hb (hml.trans hl.1.symm) hts hown (by decide +kernel) (Nat.le_of_ble_eq_true rfl) (Nat.le_of_ble_eq_true rfl) (Nat.zero_le _) (Nat.zero_le _) ⟨by have h9 := zmd_le n f g lv i; omega, by have h9 := zdf_le n f (zchg lv i n) g; omega⟩ dX2_leastDifferences_41 ?_
        refine lv_istore_n (lv' := [(3, .int (nI (min (zmd n f g lv i) (zdf n f (zchg lv i n) g)))), (0, .ref (a)), (1, .ref (b)), (2, .int (nI (lv))), (4, .int (nI (znc lv n))), (5, .int (nI (i)))]) hx hb dX2_leastDifferences_44 rfl hl (by decide) rfl (fun ls hl => ?_)
        refine lv_iinc (v := nI (i + 1)) (lv' := [(5, .int (nI (i + 1))), (3, .int (nI (min (zmd n f g lv i) (zdf n f (zchg lv i n) g)))), (0, .ref (a)), (1, .ref (b)), (2, .int (nI (lv))), (4, .int (nI (znc lv n)))]) hx hb dX2_leastDifferences_45 hl (k := 5) rfl (z_inc1 _) (by decide) rfl (fun ls hl => ?_)
        refine lv_goto (tgt := 18) hx hb dX2_leastDifferences_48 (by decide) ?_
        have hl9 := lv_sub hl [2, 3, 4, 1, 5, 0] (l' := [(0, .ref (a)), (1, .ref (b)), (2, .int (nI (lv))), (3, .int (nI (min (zmd n f g lv i) (zdf n f (zchg lv i n) g)))), (4, .int (nI (znc lv n))), (5, .int (nI (i + 1)))]) rfl
        have e9 : (min (zmd n f g lv i) (zdf n f (zchg lv i n) g)) = (zmd n f g lv (i + 1)) := rfl
        rw [e9] at hl9
        have e9 : (i + 1) = ((i + 1)) := by omega
        rw [e9] at hl9
        exact ih18 (i + 1) (by omega) (by omega) ls hl9
  exact L18 ((znc lv n - (0)) + 1) (0) (Nat.lt_succ_self _) (Nat.zero_le _) ls (lv_sub hl [3, 4, 5, 2, 1, 0] rfl)

set_option maxHeartbeats 4000000 in
set_option maxRecDepth 100000 in
theorem c_X2_isAlike (E : zEnv) {a k n : Nat} {f : Nat → Int32} {lv b kb m2 : Nat} {g : Nat → Int32} (hn : 0 < n ∧ n ≤ 16) (hm : m2 ≤ 16) (hlv : lv ≤ 2) : zRO E yX2_isAlike wsX2_isAlike 4 93 [.ref (a), .ref (b), .int (nI (lv))] (fun H => zRing E a k n f H ∧ zRing E b kb m2 g H) (some (.int (zb (decide (n = m2) && decide (zmd n f g lv (znc lv n) = 0))))) := by
  refine zRO.ofZ (maxL := 3) rfl (Nat.le_of_ble_eq_true rfl) (fun p e s m args below meth c H Q hF hP hret ls hl => ?_)
  have S : CallFix p m c cX2_isAlike 3 s args wsX2_isAlike RX2 := hF.1
  have hG := hF.2
  obtain ⟨hx, hb, hml, hown, hts⟩ := id S
  obtain ⟨⟨h1, h2⟩, h3, h4⟩ := hP
  have hl : lv_has ls 3 [(0, .ref (a)), (1, .ref (b)), (2, .int (nI (lv)))] := hl
  have hin2 : ∀ w ∈ u_ws RX2 TX2 2, w ∈ wsX2_isAlike := by decide +kernel
  refine lv_aload_n hx hb dX2_isAlike_0 rfl (lv_at hl 0 rfl) ?_
  refine z_get (ref := RX2) (C := RX2) (T := TX2) (N := 2) hx hb hts hin2 hown hG h1 rfl 0 (by decide) (by decide +kernel) rfl rfl dX2_isAlike_1 ?_
  refine lv_aload_n hx hb dX2_isAlike_4 rfl (lv_at hl 1 rfl) ?_
  refine z_get (ref := RX2) (C := RX2) (T := TX2) (N := 2) hx hb hts hin2 hown hG h3 rfl 0 (by decide) (by decide +kernel) rfl rfl dX2_isAlike_5 ?_
  refine z_cne (tgt := 24) hx hb dX2_isAlike_8 (by decide) ⟨by omega, by omega⟩ (fun c_1 => ?_) (fun c_1 => ?_)
  · refine lv_iconst (v := nI (0)) hx hb dX2_isAlike_24 (by decide) ?_
    exact hret _ _ _ dX2_isAlike_25 (by first | exact Or.inl rfl | exact Or.inr rfl) (by first | exact zrf (by rw [decide_eq_false c_1]; rfl) | exact zrf (by rw [decide_eq_false c_1, Bool.and_false]))
  · refine lv_aload_n hx hb dX2_isAlike_11 rfl (lv_at hl 0 rfl) ?_
    refine lv_aload_n hx hb dX2_isAlike_12 rfl (lv_at hl 1 rfl) ?_
    refine lv_iload_n hx hb dX2_isAlike_13 rfl (lv_at hl 2 rfl) ?_
    refine z_roV (As := [.ref (b), .int (nI (lv))]) (rest := []) (q := (RX2, TX2, 2)) S hG (c_X2_leastDifferences E hn hlv) 2 gX2_isAlike_X2_leastDifferences rfl kX2_leastDifferences ⟨Nat.le_of_ble_eq_true rfl, Nat.le_of_ble_eq_true rfl⟩ ⟨Nat.zero_le _, Nat.zero_le _⟩ (⟨⟨h1, h2⟩, h3, h4⟩) rfl h1 rfl hl.1 rfl rfl (Nat.le_of_ble_eq_true rfl) dX2_isAlike_14 ?_
    refine z_fne (tgt := 24) hx hb dX2_isAlike_17 (by decide) (by have h9 := zmd_le n f g lv (znc lv n); omega) (fun c_2 => ?_) (fun c_2 => ?_)
    · refine lv_iconst (v := nI (0)) hx hb dX2_isAlike_24 (by decide) ?_
      exact hret _ _ _ dX2_isAlike_25 (by first | exact Or.inl rfl | exact Or.inr rfl) (by first | exact zrf (by rw [decide_eq_false c_1]; rfl) | exact zrf (by rw [decide_eq_false c_2, Bool.and_false]))
    · refine lv_iconst (v := nI (1)) hx hb dX2_isAlike_20 (by decide) ?_
      refine lv_goto (tgt := 25) hx hb dX2_isAlike_21 (by decide) ?_
      exact hret _ _ _ dX2_isAlike_25 (by first | exact Or.inl rfl | exact Or.inr rfl) (zrt (by simp only [decide_eq_true c_1, decide_eq_true c_2, Bool.and_self]))

set_option maxHeartbeats 4000000 in
set_option maxRecDepth 100000 in
theorem c_X2_isAlike_0 (E : zEnv) {a k : Nat} {f : Nat → Int32} {lv b kb m2 : Nat} {g : Nat → Int32} (hm : 0 < m2 ∧ m2 ≤ 16) : zRO E yX2_isAlike wsX2_isAlike 4 93 [.ref (a), .ref (b), .int (nI (lv))] (fun H => zRing E a k 0 f H ∧ zRing E b kb m2 g H) (some (.int (nI 0))) := by
  refine zRO.ofZ (maxL := 3) rfl (Nat.le_of_ble_eq_true rfl) (fun p e s m args below meth c H Q hF hP hret ls hl => ?_)
  have S : CallFix p m c cX2_isAlike 3 s args wsX2_isAlike RX2 := hF.1
  have hG := hF.2
  obtain ⟨hx, hb, hml, hown, hts⟩ := id S
  obtain ⟨⟨h1, h2⟩, h3, h4⟩ := hP
  have hl : lv_has ls 3 [(0, .ref (a)), (1, .ref (b)), (2, .int (nI (lv)))] := hl
  have hin2 : ∀ w ∈ u_ws RX2 TX2 2, w ∈ wsX2_isAlike := by decide +kernel
  refine lv_aload_n hx hb dX2_isAlike_0 rfl (lv_at hl 0 rfl) ?_
  refine z_get (ref := RX2) (C := RX2) (T := TX2) (N := 2) hx hb hts hin2 hown hG h1 rfl 0 (by decide) (by decide +kernel) rfl rfl dX2_isAlike_1 ?_
  refine lv_aload_n hx hb dX2_isAlike_4 rfl (lv_at hl 1 rfl) ?_
  refine z_get (ref := RX2) (C := RX2) (T := TX2) (N := 2) hx hb hts hin2 hown hG h3 rfl 0 (by decide) (by decide +kernel) rfl rfl dX2_isAlike_5 ?_
  refine z_cne (tgt := 24) hx hb dX2_isAlike_8 (by decide) ⟨by omega, by omega⟩ (fun c_1 => ?_) (fun c_1 => by exfalso; omega)
  refine lv_iconst (v := nI (0)) hx hb dX2_isAlike_24 (by decide) ?_
  exact hret _ _ _ dX2_isAlike_25 (by first | exact Or.inl rfl | exact Or.inr rfl) (rfl)

set_option maxHeartbeats 4000000 in
set_option maxRecDepth 100000 in
theorem c_X2_comesFirst (E : zEnv) {a k n : Nat} {f : Nat → Int32} {ch dh : Nat} (hn : ch < 2 * n ∧ dh < 2 * n ∧ n ≤ 16) : zRO E yX2_comesFirst wsX2_comesFirst 2 44 [.ref (a), .int (nI (ch)), .int (nI (dh))] (fun H => zRing E a k n f H) (some (.int (zb (zlt n f ch dh)))) := by
  refine zRO.ofZ (maxL := 6) rfl (Nat.le_of_ble_eq_true rfl) (fun p e s m args below meth c H Q hF hP hret ls hl => ?_)
  have S : CallFix p m c cX2_comesFirst 6 s args wsX2_comesFirst RX2 := hF.1
  have hG := hF.2
  obtain ⟨hx, hb, hml, hown, hts⟩ := id S
  obtain ⟨h1, h2⟩ := hP
  have hl : lv_has ls 6 [(0, .ref (a)), (1, .int (nI (ch))), (2, .int (nI (dh)))] := hl
  have hin2 : ∀ w ∈ u_ws RX2 TX2 2, w ∈ wsX2_comesFirst := by decide +kernel
  refine lv_iconst (v := nI (0)) hx hb dX2_comesFirst_0 (by decide) ?_
  refine lv_istore_n (lv' := [(3, .int (nI (0))), (0, .ref (a)), (1, .int (nI (ch))), (2, .int (nI (dh)))]) hx hb dX2_comesFirst_1 rfl hl (by decide) rfl (fun ls hl => ?_)
  have L2 : ∀ (dd : Nat) (i : Nat), n - i < dd → i ≤ n → zlx (zimg n f ch) (zimg n f dh) i = 0 → ∀ (ls : Array Slot), lv_has ls 6 [(0, .ref (a)), (1, .int (nI (ch))), (2, .int (nI (dh))), (3, .int (nI (i)))] → W p (zl E) e (zRm 2 44) s m args below meth c H [] 0 0 Q (F0 m 2 ls []) := by
    intro dd
    induction dd with
    | zero => intro i hdd; exact absurd hdd (Nat.not_lt_zero _)
    | succ dd ih2 =>
      intro i hdd2 hi hlx ls hl
      refine lv_iload_n hx hb dX2_comesFirst_2 rfl (lv_at hl 3 rfl) ?_
      refine lv_aload_n hx hb dX2_comesFirst_3 rfl (lv_at hl 0 rfl) ?_
      refine z_get (ref := RX2) (C := RX2) (T := TX2) (N := 2) hx hb hts hin2 hown hG h1 rfl 0 (by decide) (by decide +kernel) rfl rfl dX2_comesFirst_4 ?_
      refine z_cge (tgt := 52) hx hb dX2_comesFirst_7 (by decide) ⟨by omega, by omega⟩ (fun c_1 => ?_) (fun c_1 => ?_)
      · refine lv_iconst (v := nI (0)) hx hb dX2_comesFirst_52 (by decide) ?_
        exact hret _ _ _ dX2_comesFirst_53 (by first | exact Or.inl rfl | exact Or.inr rfl) (by have e9 : i = n := (by omega); rw [e9] at hlx; exact zrf (decide_eq_false (by rw [hlx]; decide)))
      · refine lv_aload_n hx hb dX2_comesFirst_10 rfl (lv_at hl 0 rfl) ?_
        refine lv_iload_n hx hb dX2_comesFirst_11 rfl (lv_at hl 1 rfl) ?_
        refine lv_iload_n hx hb dX2_comesFirst_12 rfl (lv_at hl 3 rfl) ?_
        refine z_roV (As := [.int (nI (ch)), .int (nI (i))]) (rest := []) (q := (RX2, TX2, 2)) S hG (c_X2_kindAfter E (ch := ch) (j := i) (by omega)) 2 gX2_comesFirst_X2_kindAfter rfl kX2_kindAfter ⟨Nat.le_of_ble_eq_true rfl, Nat.le_of_ble_eq_true rfl⟩ ⟨Nat.zero_le _, Nat.zero_le _⟩ (⟨h1, h2⟩) rfl h1 rfl hl.1 rfl rfl (Nat.le_of_ble_eq_true rfl) dX2_comesFirst_13 ?_
        refine lv_istore (lv' := [(4, .int (zimg n f ch i)), (0, .ref (a)), (1, .int (nI (ch))), (2, .int (nI (dh))), (3, .int (nI (i)))]) hx hb dX2_comesFirst_16 hl (by decide) rfl (fun ls hl => ?_)
        refine lv_aload_n hx hb dX2_comesFirst_18 rfl (lv_at hl 1 rfl) ?_
        refine lv_iload_n hx hb dX2_comesFirst_19 rfl (lv_at hl 3 rfl) ?_
        refine lv_iload_n hx hb dX2_comesFirst_20 rfl (lv_at hl 4 rfl) ?_
        refine z_roV (As := [.int (nI (dh)), .int (nI (i))]) (rest := []) (q := (RX2, TX2, 2)) S hG (c_X2_kindAfter E (ch := dh) (j := i) (by omega)) 2 gX2_comesFirst_X2_kindAfter rfl kX2_kindAfter ⟨Nat.le_of_ble_eq_true rfl, Nat.le_of_ble_eq_true rfl⟩ ⟨Nat.zero_le _, Nat.zero_le _⟩ (⟨h1, h2⟩) rfl h1 rfl hl.1 rfl rfl (Nat.le_of_ble_eq_true rfl) dX2_comesFirst_21 ?_
        refine lv_istore (lv' := [(5, .int (zimg n f dh i)), (4, .int (zimg n f ch i)), (0, .ref (a)), (1, .int (nI (ch))), (2, .int (nI (dh))), (3, .int (nI (i)))]) hx hb dX2_comesFirst_24 hl (by decide) rfl (fun ls hl => ?_)
        refine lv_iload hx hb dX2_comesFirst_26 (lv_at hl 1 rfl) ?_
        refine lv_iload hx hb dX2_comesFirst_28 (lv_at hl 0 rfl) ?_
        refine lv_icmp_eq (tgt := 46) hx hb dX2_comesFirst_30 (by decide) (fun c_2 => ?_) (fun c_2 => ?_)
        · refine lv_iinc (v := nI (i + 1)) (lv' := [(3, .int (nI (i + 1))), (5, .int (zimg n f dh i)), (4, .int (zimg n f ch i)), (0, .ref (a)), (1, .int (nI (ch))), (2, .int (nI (dh)))]) hx hb dX2_comesFirst_46 hl (k := 5) rfl (z_inc1 _) (by decide) rfl (fun ls hl => ?_)
          refine lv_goto (tgt := 2) hx hb dX2_comesFirst_49 (by decide) ?_
          have hl9 := lv_sub hl [3, 4, 5, 0] (l' := [(0, .ref (a)), (1, .int (nI (ch))), (2, .int (nI (dh))), (3, .int (nI (i + 1)))]) rfl
          have e9 : (i + 1) = ((i + 1)) := by omega
          rw [e9] at hl9
          exact ih2 (i + 1) (by omega) (by omega) (zlx_eq hlx c_2) ls hl9
        · refine lv_iload hx hb dX2_comesFirst_33 (lv_at hl 1 rfl) ?_
          refine lv_iload hx hb dX2_comesFirst_35 (lv_at hl 0 rfl) ?_
          refine lv_icmp_ge (tgt := 44) hx hb dX2_comesFirst_37 (by decide) (fun c_3 => ?_) (fun c_3 => ?_)
          · refine lv_iconst (v := nI (0)) hx hb dX2_comesFirst_44 (by decide) ?_
            exact hret _ _ _ dX2_comesFirst_45 (by first | exact Or.inl rfl | exact Or.inr rfl) (zrf (decide_eq_false (by rw [zlx_ne (by omega) hlx c_2, if_neg (Int32.not_lt.mpr c_3)]; decide)))
          · refine lv_iconst (v := nI (1)) hx hb dX2_comesFirst_40 (by decide) ?_
            refine lv_goto (tgt := 45) hx hb dX2_comesFirst_41 (by decide) ?_
            exact hret _ _ _ dX2_comesFirst_45 (by first | exact Or.inl rfl | exact Or.inr rfl) (zrt (decide_eq_true ((zlx_ne (by omega) hlx c_2).trans (if_pos (Int32.not_le.mp c_3)))))
  exact L2 ((n - (0)) + 1) (0) (Nat.lt_succ_self _) (Nat.zero_le _) (rfl) ls (lv_sub hl [1, 2, 3, 0] rfl)

set_option maxHeartbeats 4000000 in
set_option maxRecDepth 100000 in
theorem c_X2_leastChange (E : zEnv) {a k n : Nat} {f : Nat → Int32} {lv : Nat} (hn : 0 < n ∧ n ≤ 16) (hlv : lv ≤ 2) : zRO E yX2_leastChange wsX2_leastChange 3 69 [.ref (a), .int (nI (lv))] (fun H => zRing E a k n f H) (some (.int (nI (zls n f lv)))) := by
  refine zRO.ofI (maxL := 6) rfl (Nat.le_of_ble_eq_true rfl) (fun p e s m args below meth c H Q hF hP hret ls hl => ?_)
  have S : CallFix p m c cX2_leastChange 6 s args wsX2_leastChange RX2 := hF.1
  have hG := hF.2
  obtain ⟨hx, hb, hml, hown, hts⟩ := id S
  obtain ⟨h1, h2⟩ := hP
  have hnc := znc_le (lv := lv) hn.2
  have hnp := znc_pos (lv := lv) hn.1
  have hl : lv_has ls 6 [(0, .ref (a)), (1, .int (nI (lv)))] := hl
  have hin2 : ∀ w ∈ u_ws RX2 TX2 2, w ∈ wsX2_leastChange := by decide +kernel
  refine lv_iconst (v := nI (0)) hx hb dX2_leastChange_0 (by decide) ?_
  refine lv_istore_n (lv' := [(2, .int (nI (0))), (0, .ref (a)), (1, .int (nI (lv)))]) hx hb dX2_leastChange_1 rfl hl (by decide) rfl (fun ls hl => ?_)
  refine lv_iload_n hx hb dX2_leastChange_2 rfl (lv_at hl 2 rfl) ?_
  refine lv_aload_n hx hb dX2_leastChange_3 rfl (lv_at hl 1 rfl) ?_
  refine z_get (ref := RX2) (C := RX2) (T := TX2) (N := 2) hx hb hts hin2 hown hG h1 rfl 0 (by decide) (by decide +kernel) rfl rfl dX2_leastChange_4 ?_
  refine z_roSN (As := [.int (nI (lv)), .int (nI (n))]) (rest := []) (host := "CharmBracelets") S hG (c_X5_changeCount E hlv) 2 gX2_leastChange_X5_changeCount_n43 (List.mem_of_getElem? (i := 33) rfl) (by decide +kernel) rfl kX5_changeCount.2 ⟨Nat.le_of_ble_eq_true rfl, Nat.le_of_ble_eq_true rfl⟩ ⟨Nat.zero_le _, Nat.zero_le _⟩ (trivial) rfl hl.1 rfl rfl (Nat.le_of_ble_eq_true rfl) dX2_leastChange_7 ?_
  refine lv_istore_n (lv' := [(3, .int (nI (znc lv n))), (2, .int (nI (0))), (0, .ref (a)), (1, .int (nI (lv)))]) hx hb dX2_leastChange_10 rfl hl (by decide) rfl (fun ls hl => ?_)
  refine lv_iconst (v := nI (1)) hx hb dX2_leastChange_11 (by decide) ?_
  refine lv_istore (lv' := [(4, .int (nI (1))), (3, .int (nI (znc lv n))), (2, .int (nI (0))), (0, .ref (a)), (1, .int (nI (lv)))]) hx hb dX2_leastChange_12 hl (by decide) rfl (fun ls hl => ?_)
  have L14 : ∀ (dd : Nat) (i : Nat), znc lv n - i < dd → i ≤ znc lv n → 0 < i → ∀ (ls : Array Slot), lv_has ls 6 [(0, .ref (a)), (1, .int (nI (lv))), (2, .int (nI (zchg lv (zli n f lv i) n))), (3, .int (nI (znc lv n))), (4, .int (nI (i)))] → W p (zl E) e (zRm 3 69) s m args below meth c H [] 0 0 Q (F0 m 14 ls []) := by
    intro dd
    induction dd with
    | zero => intro i hdd; exact absurd hdd (Nat.not_lt_zero _)
    | succ dd ih14 =>
      intro i hdd14 hi hi0 ls hl
      refine lv_iload hx hb dX2_leastChange_14 (lv_at hl 4 rfl) ?_
      refine lv_iload_n hx hb dX2_leastChange_16 rfl (lv_at hl 3 rfl) ?_
      refine z_cge (tgt := 51) hx hb dX2_leastChange_17 (by decide) ⟨by omega, by omega⟩ (fun c_1 => ?_) (fun c_1 => ?_)
      · refine lv_iload_n hx hb dX2_leastChange_51 rfl (lv_at hl 2 rfl) ?_
        exact hret _ _ _ dX2_leastChange_52 (by rw [show i = znc lv n by omega]; rfl)
      · refine lv_iload_n hx hb dX2_leastChange_20 rfl (lv_at hl 1 rfl) ?_
        refine lv_iload hx hb dX2_leastChange_21 (lv_at hl 4 rfl) ?_
        refine lv_aload_n hx hb dX2_leastChange_23 rfl (lv_at hl 0 rfl) ?_
        refine z_get (ref := RX2) (C := RX2) (T := TX2) (N := 2) hx hb hts hin2 hown hG h1 rfl 0 (by decide) (by decide +kernel) rfl rfl dX2_leastChange_24 ?_
        refine z_roSN (As := [.int (nI (lv)), .int (nI (i)), .int (nI (n))]) (rest := []) (host := "CharmBracelets") S hG (c_X5_changeAt E hlv (i := i) (by omega) hn.2) 3 gX2_leastChange_X5_changeAt_n46 (List.mem_of_getElem? (i := 34) rfl) (by decide +kernel) rfl kX5_changeAt.2 ⟨Nat.le_of_ble_eq_true rfl, Nat.le_of_ble_eq_true rfl⟩ ⟨Nat.zero_le _, Nat.zero_le _⟩ (trivial) rfl hl.1 rfl rfl (Nat.le_of_ble_eq_true rfl) dX2_leastChange_27 ?_
        refine lv_istore (lv' := [(5, .int (nI (zchg lv i n))), (0, .ref (a)), (1, .int (nI (lv))), (2, .int (nI (zchg lv (zli n f lv i) n))), (3, .int (nI (znc lv n))), (4, .int (nI (i)))]) hx hb dX2_leastChange_30 hl (by decide) rfl (fun ls hl => ?_)
        refine lv_aload_n hx hb dX2_leastChange_32 rfl (lv_at hl 1 rfl) ?_
        refine lv_iload hx hb dX2_leastChange_33 (lv_at hl 0 rfl) ?_
        refine lv_iload_n hx hb dX2_leastChange_35 rfl (lv_at hl 3 rfl) ?_
        refine z_roV (As := [.int (nI (zchg lv i n)), .int (nI (zchg lv (zli n f lv i) n))]) (rest := []) (q := (RX2, TX2, 2)) S hG (c_X2_comesFirst E ⟨zchg_lt hlv hn.1 (by omega), zchg_lt hlv hn.1 (Nat.lt_of_lt_of_le (zlc_lt (by omega)) hi), hn.2⟩) 2 gX2_leastChange_X2_comesFirst rfl kX2_comesFirst ⟨Nat.le_of_ble_eq_true rfl, Nat.le_of_ble_eq_true rfl⟩ ⟨Nat.zero_le _, Nat.zero_le _⟩ (⟨h1, h2⟩) rfl h1 rfl hl.1 rfl rfl (Nat.le_of_ble_eq_true rfl) dX2_leastChange_36 ?_
        refine z_beq (tgt := 45) hx hb dX2_leastChange_39 (by decide) (fun c_2 => ?_) (fun c_2 => ?_)
        · refine lv_iinc (v := nI (i + 1)) (lv' := [(4, .int (nI (i + 1))), (5, .int (nI (zchg lv i n))), (0, .ref (a)), (1, .int (nI (lv))), (2, .int (nI (zchg lv (zli n f lv i) n))), (3, .int (nI (znc lv n)))]) hx hb dX2_leastChange_45 hl (k := 5) rfl (z_inc1 _) (by decide) rfl (fun ls hl => ?_)
          refine lv_goto (tgt := 14) hx hb dX2_leastChange_48 (by decide) ?_
          have hl9 := lv_sub hl [2, 3, 4, 5, 0] (l' := [(0, .ref (a)), (1, .int (nI (lv))), (2, .int (nI (zchg lv (zli n f lv i) n))), (3, .int (nI (znc lv n))), (4, .int (nI (i + 1)))]) rfl
          have e9 : (zchg lv (zli n f lv i) n) = (zchg lv (zli n f lv (i + 1)) n) := by rw [zli_f c_2]
          rw [e9] at hl9
          have e9 : (i + 1) = ((i + 1)) := by omega
          rw [e9] at hl9
          exact ih14 (i + 1) (by omega) (by omega) (by omega) ls hl9
        · refine lv_iload hx hb dX2_leastChange_42 (lv_at hl 0 rfl) ?_
          refine lv_istore_n (lv' := [(2, .int (nI (zchg lv i n))), (5, .int (nI (zchg lv i n))), (0, .ref (a)), (1, .int (nI (lv))), (3, .int (nI (znc lv n))), (4, .int (nI (i)))]) hx hb dX2_leastChange_44 rfl hl (by decide) rfl (fun ls hl => ?_)
          refine lv_iinc (v := nI (i + 1)) (lv' := [(4, .int (nI (i + 1))), (2, .int (nI (zchg lv i n))), (5, .int (nI (zchg lv i n))), (0, .ref (a)), (1, .int (nI (lv))), (3, .int (nI (znc lv n)))]) hx hb dX2_leastChange_45 hl (k := 5) rfl (z_inc1 _) (by decide) rfl (fun ls hl => ?_)
          refine lv_goto (tgt := 14) hx hb dX2_leastChange_48 (by decide) ?_
          have hl9 := lv_sub hl [3, 4, 1, 5, 0] (l' := [(0, .ref (a)), (1, .int (nI (lv))), (2, .int (nI (zchg lv i n))), (3, .int (nI (znc lv n))), (4, .int (nI (i + 1)))]) rfl
          have e9 : (zchg lv i n) = (zchg lv (zli n f lv (i + 1)) n) := by rw [zli_t c_2]
          rw [e9] at hl9
          have e9 : (i + 1) = ((i + 1)) := by omega
          rw [e9] at hl9
          exact ih14 (i + 1) (by omega) (by omega) (by omega) ls hl9
  rw [show nI (0) = nI (zchg lv (zli n f lv 1) n) by rw [zli_1]] at hl
  exact L14 ((znc lv n - (1)) + 1) (1) (Nat.lt_succ_self _) (hnp) (by decide) ls (lv_sub hl [3, 4, 2, 1, 0] rfl)

set_option maxHeartbeats 4000000 in
set_option maxRecDepth 100000 in
theorem c_X2_differentRings (E : zEnv) {a k n : Nat} {f : Nat → Int32} {lv : Nat} (hn : 0 < n ∧ n ≤ 16) (hlv : lv ≤ 2) : zRO E yX2_differentRings wsX2_differentRings 3 68 [.ref (a), .int (nI (lv))] (fun H => zRing E a k n f H) (some (.int (nI (zob n f lv)))) := by
  refine zRO.ofI (maxL := 5) rfl (Nat.le_of_ble_eq_true rfl) (fun p e s m args below meth c H Q hF hP hret ls hl => ?_)
  have S : CallFix p m c cX2_differentRings 5 s args wsX2_differentRings RX2 := hF.1
  have hG := hF.2
  obtain ⟨hx, hb, hml, hown, hts⟩ := id S
  obtain ⟨h1, h2⟩ := hP
  have hnc := znc_le (lv := lv) hn.2
  have hfx := fun i => zct_le (fun i => decide (zdf n f (zchg lv i n) f = 0)) i
  have hl : lv_has ls 5 [(0, .ref (a)), (1, .int (nI (lv)))] := hl
  have hin2 : ∀ w ∈ u_ws RX2 TX2 2, w ∈ wsX2_differentRings := by decide +kernel
  refine lv_iconst (v := nI (0)) hx hb dX2_differentRings_0 (by decide) ?_
  refine lv_istore_n (lv' := [(2, .int (nI (0))), (0, .ref (a)), (1, .int (nI (lv)))]) hx hb dX2_differentRings_1 rfl hl (by decide) rfl (fun ls hl => ?_)
  refine lv_iload_n hx hb dX2_differentRings_2 rfl (lv_at hl 2 rfl) ?_
  refine lv_aload_n hx hb dX2_differentRings_3 rfl (lv_at hl 1 rfl) ?_
  refine z_get (ref := RX2) (C := RX2) (T := TX2) (N := 2) hx hb hts hin2 hown hG h1 rfl 0 (by decide) (by decide +kernel) rfl rfl dX2_differentRings_4 ?_
  refine z_roSN (As := [.int (nI (lv)), .int (nI (n))]) (rest := []) (host := "CharmBracelets") S hG (c_X5_changeCount E hlv) 2 gX2_differentRings_X5_changeCount_n43 (List.mem_of_getElem? (i := 33) rfl) (by decide +kernel) rfl kX5_changeCount.2 ⟨Nat.le_of_ble_eq_true rfl, Nat.le_of_ble_eq_true rfl⟩ ⟨Nat.zero_le _, Nat.zero_le _⟩ (trivial) rfl hl.1 rfl rfl (Nat.le_of_ble_eq_true rfl) dX2_differentRings_7 ?_
  refine lv_istore_n (lv' := [(3, .int (nI (znc lv n))), (2, .int (nI (0))), (0, .ref (a)), (1, .int (nI (lv)))]) hx hb dX2_differentRings_10 rfl hl (by decide) rfl (fun ls hl => ?_)
  refine lv_iconst (v := nI (0)) hx hb dX2_differentRings_11 (by decide) ?_
  refine lv_istore (lv' := [(4, .int (nI (0))), (3, .int (nI (znc lv n))), (2, .int (nI (0))), (0, .ref (a)), (1, .int (nI (lv)))]) hx hb dX2_differentRings_12 hl (by decide) rfl (fun ls hl => ?_)
  have L14 : ∀ (dd : Nat) (i : Nat), znc lv n - i < dd → i ≤ znc lv n → ∀ (ls : Array Slot), lv_has ls 5 [(0, .ref (a)), (1, .int (nI (lv))), (2, .int (nI (zfx n f lv i))), (3, .int (nI (znc lv n))), (4, .int (nI (i)))] → W p (zl E) e (zRm 3 68) s m args below meth c H [] 0 0 Q (F0 m 14 ls []) := by
    intro dd
    induction dd with
    | zero => intro i hdd; exact absurd hdd (Nat.not_lt_zero _)
    | succ dd ih14 =>
      intro i hdd14 hi ls hl
      have hfi : zfx n f lv i ≤ i := hfx i
      refine lv_iload hx hb dX2_differentRings_14 (lv_at hl 4 rfl) ?_
      refine lv_iload_n hx hb dX2_differentRings_16 rfl (lv_at hl 3 rfl) ?_
      refine z_cge (tgt := 47) hx hb dX2_differentRings_17 (by decide) ⟨by omega, by omega⟩ (fun c_1 => ?_) (fun c_1 => ?_)
      · refine lv_iload_n hx hb dX2_differentRings_47 rfl (lv_at hl 2 rfl) ?_
        refine lv_iconst (v := nI (1)) hx hb dX2_differentRings_48 (by decide) ?_
        refine z_cge (tgt := 56) hx hb dX2_differentRings_49 (by decide) ⟨by omega, by omega⟩ (fun c_2 => ?_) (fun c_2 => ?_)
        · refine lv_iload_n hx hb dX2_differentRings_56 rfl (lv_at hl 3 rfl) ?_
          refine lv_iload_n hx hb dX2_differentRings_57 rfl (lv_at hl 2 rfl) ?_
          refine z_idiv hx hb dX2_differentRings_58 ⟨by omega, by omega, by omega⟩ ?_
          exact hret _ _ _ dX2_differentRings_59 (by have e9 : i = znc lv n := (by omega); subst e9; unfold zob; rw [if_neg (by omega)])
        · refine lv_iload_n hx hb dX2_differentRings_52 rfl (lv_at hl 3 rfl) ?_
          refine lv_goto (tgt := 59) hx hb dX2_differentRings_53 (by decide) ?_
          exact hret _ _ _ dX2_differentRings_59 (by have e9 : i = znc lv n := (by omega); subst e9; unfold zob; rw [if_pos (by omega)])
      · refine lv_aload_n hx hb dX2_differentRings_20 rfl (lv_at hl 0 rfl) ?_
        refine lv_iload_n hx hb dX2_differentRings_21 rfl (lv_at hl 1 rfl) ?_
        refine lv_iload hx hb dX2_differentRings_22 (lv_at hl 4 rfl) ?_
        refine lv_aload_n hx hb dX2_differentRings_24 rfl (lv_at hl 0 rfl) ?_
        refine z_get (ref := RX2) (C := RX2) (T := TX2) (N := 2) hx hb hts hin2 hown hG h1 rfl 0 (by decide) (by decide +kernel) rfl rfl dX2_differentRings_25 ?_
        refine z_roSN (As := [.int (nI (lv)), .int (nI (i)), .int (nI (n))]) (rest := [.ref (a)]) (host := "CharmBracelets") S hG (c_X5_changeAt E hlv (i := i) (by omega) hn.2) 3 gX2_differentRings_X5_changeAt_n46 (List.mem_of_getElem? (i := 34) rfl) (by decide +kernel) rfl kX5_changeAt.2 ⟨Nat.le_of_ble_eq_true rfl, Nat.le_of_ble_eq_true rfl⟩ ⟨Nat.zero_le _, Nat.zero_le _⟩ (trivial) rfl hl.1 rfl rfl (Nat.le_of_ble_eq_true rfl) dX2_differentRings_28 ?_
        refine lv_aload_n hx hb dX2_differentRings_31 rfl (lv_at hl 0 rfl) ?_
        refine z_roV (As := [.int (nI (zchg lv i n)), .ref (a)]) (rest := []) (q := (RX2, TX2, 2)) S hG (c_X2_differences E ⟨zchg_lt hlv hn.1 (by omega), hn.2⟩) 2 gX2_differentRings_X2_differences rfl kX2_differences ⟨Nat.le_of_ble_eq_true rfl, Nat.le_of_ble_eq_true rfl⟩ ⟨Nat.zero_le _, Nat.zero_le _⟩ (⟨⟨h1, h2⟩, h1, h2⟩) rfl h1 rfl hl.1 rfl rfl (Nat.le_of_ble_eq_true rfl) dX2_differentRings_32 ?_
        refine z_fne (tgt := 41) hx hb dX2_differentRings_35 (by decide) (by have h9 := zdf_le n f (zchg lv i n) f; omega) (fun c_3 => ?_) (fun c_3 => ?_)
        · refine lv_iinc (v := nI (i + 1)) (lv' := [(4, .int (nI (i + 1))), (0, .ref (a)), (1, .int (nI (lv))), (2, .int (nI (zfx n f lv i))), (3, .int (nI (znc lv n)))]) hx hb dX2_differentRings_41 hl (k := 4) rfl (z_inc1 _) (by decide) rfl (fun ls hl => ?_)
          refine lv_goto (tgt := 14) hx hb dX2_differentRings_44 (by decide) ?_
          have hl9 := lv_sub hl [1, 2, 3, 4, 0] (l' := [(0, .ref (a)), (1, .int (nI (lv))), (2, .int (nI (zfx n f lv i))), (3, .int (nI (znc lv n))), (4, .int (nI (i + 1)))]) rfl
          have e9 : (zfx n f lv i) = (zfx n f lv (i + 1)) := by first | exact zct_t (decide_eq_true c_3) | exact zct_f (decide_eq_false c_3)
          rw [e9] at hl9
          have e9 : (i + 1) = ((i + 1)) := by omega
          rw [e9] at hl9
          exact ih14 (i + 1) (by omega) (by omega) ls hl9
        · refine lv_iinc (v := nI (zfx n f lv i + 1)) (lv' := [(2, .int (nI (zfx n f lv i + 1))), (0, .ref (a)), (1, .int (nI (lv))), (3, .int (nI (znc lv n))), (4, .int (nI (i)))]) hx hb dX2_differentRings_38 hl (k := 2) rfl (z_inc1 _) (by decide) rfl (fun ls hl => ?_)
          refine lv_iinc (v := nI (i + 1)) (lv' := [(4, .int (nI (i + 1))), (2, .int (nI (zfx n f lv i + 1))), (0, .ref (a)), (1, .int (nI (lv))), (3, .int (nI (znc lv n)))]) hx hb dX2_differentRings_41 hl (k := 4) rfl (z_inc1 _) (by decide) rfl (fun ls hl => ?_)
          refine lv_goto (tgt := 14) hx hb dX2_differentRings_44 (by decide) ?_
          have hl9 := lv_sub hl [2, 3, 1, 4, 0] (l' := [(0, .ref (a)), (1, .int (nI (lv))), (2, .int (nI (zfx n f lv i + 1))), (3, .int (nI (znc lv n))), (4, .int (nI (i + 1)))]) rfl
          have e9 : (zfx n f lv i + 1) = (zfx n f lv (i + 1)) := by first | exact zct_t (decide_eq_true c_3) | exact zct_f (decide_eq_false c_3)
          rw [e9] at hl9
          have e9 : (i + 1) = ((i + 1)) := by omega
          rw [e9] at hl9
          exact ih14 (i + 1) (by omega) (by omega) ls hl9
  exact L14 ((znc lv n - (0)) + 1) (0) (Nat.lt_succ_self _) (Nat.zero_le _) ls (lv_sub hl [3, 4, 2, 1, 0] rfl)
