set_option maxHeartbeats 4000000 in
set_option maxRecDepth 100000 in
theorem c_X5_greatestCommonDivisor (E : zEnv) {a b : Nat} (hab : a ≤ 32 ∧ b ≤ 32) : zRO E yX5_greatestCommonDivisor wsX5_greatestCommonDivisor 0 0 [.int (nI (a)), .int (nI (b))] (fun _ => True) (some (.int (nI (zgd a b a)))) := by
  refine zRO.ofI (maxL := 3) rfl (Nat.le_of_ble_eq_true rfl) (fun p e s m args below meth c H Q hF hP hret ls hl => ?_)
  have S : CallFix p m c cX5_greatestCommonDivisor 3 s args wsX5_greatestCommonDivisor RX5 := hF.1
  have hG := hF.2
  obtain ⟨hx, hb, hml, hown, hts⟩ := id S
  have hl : lv_has ls 3 [(0, .int (nI (a))), (1, .int (nI (b)))] := hl
  refine lv_iload_n hx hb dX5_greatestCommonDivisor_0 rfl (lv_at hl 0 rfl) ?_
  refine lv_istore_n (lv' := [(2, .int (nI (a))), (0, .int (nI (a))), (1, .int (nI (b)))]) hx hb dX5_greatestCommonDivisor_1 rfl hl (by decide) rfl (fun ls hl => ?_)
  have L2 : ∀ (dd : Nat) (d : Nat), d < dd → (d ≤ a) → (zgd a b d = zgd a b a) → ∀ (ls : Array Slot), lv_has ls 3 [(0, .int (nI (a))), (1, .int (nI (b))), (2, .int (nI (d)))] → W p (zl E) e (zRm 0 0) s m args below meth c H [] 0 0 Q (F0 m 2 ls []) := by
    intro dd
    induction dd with
    | zero => intro d hdd; exact absurd hdd (Nat.not_lt_zero _)
    | succ dd ih2 =>
      intro d hdd2 hd hg ls hl
      refine lv_iload_n hx hb dX5_greatestCommonDivisor_2 rfl (lv_at hl 2 rfl) ?_
      refine lv_iconst (v := nI (1)) hx hb dX5_greatestCommonDivisor_3 (by decide) ?_
      refine z_cle (tgt := 27) hx hb dX5_greatestCommonDivisor_4 (by decide) ⟨by omega, by omega⟩ (fun c_1 => ?_) (fun c_1 => ?_)
      · refine lv_iconst (v := nI (1)) hx hb dX5_greatestCommonDivisor_27 (by decide) ?_
        exact hret _ _ _ dX5_greatestCommonDivisor_28 (by rw [← hg, zgd_1 (by omega)])
      · refine lv_iload_n hx hb dX5_greatestCommonDivisor_7 rfl (lv_at hl 0 rfl) ?_
        refine lv_iload_n hx hb dX5_greatestCommonDivisor_8 rfl (lv_at hl 2 rfl) ?_
        refine z_irem hx hb dX5_greatestCommonDivisor_9 ⟨by omega, by omega, by omega⟩ ?_
        refine z_fne (tgt := 21) hx hb dX5_greatestCommonDivisor_10 (by decide) (by have := Nat.mod_lt a (show 0 < d by omega); omega) (fun c_2 => ?_) (fun c_2 => ?_)
        · refine lv_iinc (v := nI (d - 1)) (lv' := [(2, .int (nI (d - 1))), (0, .int (nI (a))), (1, .int (nI (b)))]) hx hb dX5_greatestCommonDivisor_21 hl (k := 2) rfl (z_decd (by omega)) (by decide) rfl (fun ls hl => ?_)
          refine lv_goto (tgt := 2) hx hb dX5_greatestCommonDivisor_24 (by decide) ?_
          have hl9 := lv_sub hl [1, 2, 0] (l' := [(0, .int (nI (a))), (1, .int (nI (b))), (2, .int (nI (d - 1)))]) rfl
          have e9_2 : (d - 1) = ((d - 1)) := by omega
          exact ih2 (d - 1) (by omega) (by omega) (by rw [← hg]; exact zgd_n (by omega) (by omega)) ls (by rw [← e9_2]; exact hl9)
        · refine lv_iload_n hx hb dX5_greatestCommonDivisor_13 rfl (lv_at hl 1 rfl) ?_
          refine lv_iload_n hx hb dX5_greatestCommonDivisor_14 rfl (lv_at hl 2 rfl) ?_
          refine z_irem hx hb dX5_greatestCommonDivisor_15 ⟨by omega, by omega, by omega⟩ ?_
          refine z_fne (tgt := 21) hx hb dX5_greatestCommonDivisor_16 (by decide) (by have := Nat.mod_lt b (show 0 < d by omega); omega) (fun c_3 => ?_) (fun c_3 => ?_)
          · refine lv_iinc (v := nI (d - 1)) (lv' := [(2, .int (nI (d - 1))), (0, .int (nI (a))), (1, .int (nI (b)))]) hx hb dX5_greatestCommonDivisor_21 hl (k := 2) rfl (z_decd (by omega)) (by decide) rfl (fun ls hl => ?_)
            refine lv_goto (tgt := 2) hx hb dX5_greatestCommonDivisor_24 (by decide) ?_
            have hl9 := lv_sub hl [1, 2, 0] (l' := [(0, .int (nI (a))), (1, .int (nI (b))), (2, .int (nI (d - 1)))]) rfl
            have e9_2 : (d - 1) = ((d - 1)) := by omega
            exact ih2 (d - 1) (by omega) (by omega) (by rw [← hg]; exact zgd_n (by omega) (by omega)) ls (by rw [← e9_2]; exact hl9)
          · refine lv_iload_n hx hb dX5_greatestCommonDivisor_19 rfl (lv_at hl 2 rfl) ?_
            exact hret _ _ _ dX5_greatestCommonDivisor_20 (by rw [← hg, zgd_y (by omega) (by omega) (by omega)])
  exact L2 (((a)) + 1) (a) (Nat.lt_succ_self _) (Nat.le_refl _) (rfl) ls (lv_sub hl [1, 2, 0] rfl)

set_option maxHeartbeats 4000000 in
set_option maxRecDepth 100000 in
theorem c_X5_cycles (E : zEnv) {ch n : Nat} (hn : 0 < n ∧ n ≤ 16) (hch : ch < 2 * n) : zRO E yX5_cycles wsX5_cycles 1 22 [.int (nI (ch)), .int (nI (n))] (fun _ => True) (some (.int (nI (zcy ch n)))) := by
  refine zRO.ofI (maxL := 3) rfl (Nat.le_of_ble_eq_true rfl) (fun p e s m args below meth c H Q hF hP hret ls hl => ?_)
  have S : CallFix p m c cX5_cycles 3 s args wsX5_cycles RX5 := hF.1
  have hG := hF.2
  obtain ⟨hx, hb, hml, hown, hts⟩ := id S
  have hl : lv_has ls 3 [(0, .int (nI (ch))), (1, .int (nI (n)))] := hl
  refine lv_iload_n hx hb dX5_cycles_0 rfl (lv_at hl 0 rfl) ?_
  refine lv_iload_n hx hb dX5_cycles_1 rfl (lv_at hl 1 rfl) ?_
  refine z_cge (tgt := 11) hx hb dX5_cycles_2 (by decide) ⟨by omega, by omega⟩ (fun c_1 => ?_) (fun c_1 => ?_)
  · refine lv_iload_n hx hb dX5_cycles_11 rfl (lv_at hl 0 rfl) ?_
    refine lv_iload_n hx hb dX5_cycles_12 rfl (lv_at hl 1 rfl) ?_
    refine z_isub hx hb dX5_cycles_13 (by omega) ?_
    refine lv_iconst (v := nI (2)) hx hb dX5_cycles_14 (by decide) ?_
    refine z_irem hx hb dX5_cycles_15 ⟨by omega, by omega, by omega⟩ ?_
    refine z_fne (tgt := 23) hx hb dX5_cycles_16 (by decide) (by omega) (fun c_2 => ?_) (fun c_2 => ?_)
    · refine lv_iconst (v := nI (0)) hx hb dX5_cycles_23 (by decide) ?_
      refine lv_istore_n (lv' := [(2, .int (nI (0))), (0, .int (nI (ch))), (1, .int (nI (n)))]) hx hb dX5_cycles_24 rfl hl (by decide) rfl (fun ls hl => ?_)
      refine lv_iload_n hx hb dX5_cycles_25 rfl (lv_at hl 0 rfl) ?_
      refine z_feq (tgt := 37) hx hb dX5_cycles_26 (by decide) (by omega) (fun c_3 => ?_) (fun c_3 => by exfalso; omega)
      refine lv_iload_n hx hb dX5_cycles_37 rfl (lv_at hl 2 rfl) ?_
      refine lv_iconst (v := nI (2)) hx hb dX5_cycles_38 (by decide) ?_
      refine z_idiv hx hb dX5_cycles_39 ⟨by omega, by omega, by omega⟩ ?_
      exact hret _ _ _ dX5_cycles_40 (by first | (unfold zcy; rw [if_neg (by omega), if_pos (by omega)]) | (unfold zcy; rw [if_neg (by omega), if_neg (by omega)]))
    · refine lv_iconst (v := nI (1)) hx hb dX5_cycles_19 (by decide) ?_
      refine lv_goto (tgt := 24) hx hb dX5_cycles_20 (by decide) ?_
      refine lv_istore_n (lv' := [(2, .int (nI (1))), (0, .int (nI (ch))), (1, .int (nI (n)))]) hx hb dX5_cycles_24 rfl hl (by decide) rfl (fun ls hl => ?_)
      refine lv_iload_n hx hb dX5_cycles_25 rfl (lv_at hl 0 rfl) ?_
      refine z_feq (tgt := 37) hx hb dX5_cycles_26 (by decide) (by omega) (fun c_4 => by exfalso; omega) (fun c_4 => ?_)
      refine lv_iload_n hx hb dX5_cycles_29 rfl (lv_at hl 2 rfl) ?_
      refine lv_iconst (v := nI (2)) hx hb dX5_cycles_30 (by decide) ?_
      refine z_idiv hx hb dX5_cycles_31 ⟨by omega, by omega, by omega⟩ ?_
      refine lv_iconst (v := nI (1)) hx hb dX5_cycles_32 (by decide) ?_
      refine z_iadd hx hb dX5_cycles_33 ?_
      refine lv_goto (tgt := 40) hx hb dX5_cycles_34 (by decide) ?_
      exact hret _ _ _ dX5_cycles_40 (by first | (unfold zcy; rw [if_neg (by omega), if_pos (by omega)]) | (unfold zcy; rw [if_neg (by omega), if_neg (by omega)]))
  · refine lv_iload_n hx hb dX5_cycles_5 rfl (lv_at hl 1 rfl) ?_
    refine lv_iload_n hx hb dX5_cycles_6 rfl (lv_at hl 0 rfl) ?_
    refine z_roSX (As := [.int (nI (n)), .int (nI (ch))]) (rest := []) S hG (c_X5_greatestCommonDivisor E (a := n) (b := ch) ⟨by omega, by omega⟩) 2 gX5_cycles_X5_greatestCommonDivisor rfl kX5_greatestCommonDivisor.2 ⟨Nat.le_of_ble_eq_true rfl, Nat.le_of_ble_eq_true rfl⟩ ⟨Nat.zero_le _, Nat.zero_le _⟩ (trivial) rfl hl.1 rfl rfl (Nat.le_of_ble_eq_true rfl) dX5_cycles_7 ?_
    exact hret _ _ _ dX5_cycles_10 (by unfold zcy; rw [if_pos (by omega)])

set_option maxHeartbeats 4000000 in
set_option maxRecDepth 100000 in
theorem c_X5_power (E : zEnv) {kd ex : Nat} (hex : ex ≤ 32) : zRO E yX5_power wsX5_power 0 0 [.int (nI (kd)), .int (nI (ex))] (fun _ => True) (some (.long (zpw kd ex))) := by
  refine zRO.ofL (maxL := 5) rfl (Nat.le_of_ble_eq_true rfl) (fun p e s m args below meth c H Q hF hP hret ls hl => ?_)
  have S : CallFix p m c cX5_power 5 s args wsX5_power RX5 := hF.1
  have hG := hF.2
  obtain ⟨hx, hb, hml, hown, hts⟩ := id S
  have hl : lv_has ls 5 [(0, .int (nI (kd))), (1, .int (nI (ex)))] := hl
  refine lv_lconst (v := 1) hx hb dX5_power_0 (by decide) ?_
  refine lv_lstore_n (lv' := [(2, .long (1)), (0, .int (nI (kd))), (1, .int (nI (ex)))]) hx hb dX5_power_1 rfl hl (by decide) rfl (fun ls hl => ?_)
  refine lv_iconst (v := nI (0)) hx hb dX5_power_2 (by decide) ?_
  refine lv_istore (lv' := [(4, .int (nI (0))), (2, .long (1)), (0, .int (nI (kd))), (1, .int (nI (ex)))]) hx hb dX5_power_3 hl (by decide) rfl (fun ls hl => ?_)
  have L5 : ∀ (dd : Nat) (i : Nat), ex - i < dd → (i ≤ ex) → ∀ (ls : Array Slot), lv_has ls 5 [(0, .int (nI (kd))), (1, .int (nI (ex))), (2, .long (zpw kd i)), (4, .int (nI (i)))] → W p (zl E) e (zRm 0 0) s m args below meth c H [] 0 0 Q (F0 m 5 ls []) := by
    intro dd
    induction dd with
    | zero => intro i hdd; exact absurd hdd (Nat.not_lt_zero _)
    | succ dd ih5 =>
      intro i hdd5 hi ls hl
      refine lv_iload hx hb dX5_power_5 (lv_at hl 3 rfl) ?_
      refine lv_iload_n hx hb dX5_power_7 rfl (lv_at hl 1 rfl) ?_
      refine z_cge (tgt := 22) hx hb dX5_power_8 (by decide) ⟨by omega, by omega⟩ (fun c_1 => ?_) (fun c_1 => ?_)
      · refine lv_lload_n hx hb dX5_power_22 rfl (lv_at hl 2 rfl) ?_
        exact hret _ _ _ dX5_power_23 (by rw [show i = ex by omega])
      · refine lv_lload_n hx hb dX5_power_11 rfl (lv_at hl 2 rfl) ?_
        refine lv_iload_n hx hb dX5_power_12 rfl (lv_at hl 0 rfl) ?_
        refine lv_i2l (v := (nI (kd)).toInt64) hx hb dX5_power_13 rfl ?_
        refine lv_lmul hx hb dX5_power_14 ?_
        refine z_topl (y := zpw kd (i + 1)) (rfl) ?_
        refine lv_lstore_n (lv' := [(2, .long (zpw kd (i + 1))), (0, .int (nI (kd))), (1, .int (nI (ex))), (4, .int (nI (i)))]) hx hb dX5_power_15 rfl hl (by decide) rfl (fun ls hl => ?_)
        refine lv_iinc (v := nI (i + 1)) (lv' := [(4, .int (nI (i + 1))), (2, .long (zpw kd (i + 1))), (0, .int (nI (kd))), (1, .int (nI (ex)))]) hx hb dX5_power_16 hl (k := 3) rfl (z_inc1 _) (by decide) rfl (fun ls hl => ?_)
        refine lv_goto (tgt := 5) hx hb dX5_power_19 (by decide) ?_
        have hl9 := lv_sub hl [2, 3, 1, 0] (l' := [(0, .int (nI (kd))), (1, .int (nI (ex))), (2, .long (zpw kd (i + 1))), (4, .int (nI (i + 1)))]) rfl
        have e9_4 : (i + 1) = ((i + 1)) := by omega
        exact ih5 (i + 1) (by omega) (by omega) ls (by rw [← e9_4]; exact hl9)
  exact L5 ((ex - (0)) + 1) (0) (Nat.lt_succ_self _) (Nat.zero_le _) ls (lv_sub hl [2, 3, 1, 0] rfl)

set_option maxHeartbeats 4000000 in
set_option maxRecDepth 100000 in
theorem c_X6_power (E : zEnv) {kd ex : Nat} (hex : ex ≤ 32) : zRO E yX6_power wsX6_power 0 0 [.int (nI (kd)), .int (nI (ex))] (fun _ => True) (some (.long (zpw kd ex))) := by
  refine zRO.ofL (maxL := 5) rfl (Nat.le_of_ble_eq_true rfl) (fun p e s m args below meth c H Q hF hP hret ls hl => ?_)
  have S : CallFix p m c cX6_power 5 s args wsX6_power RX6 := hF.1
  have hG := hF.2
  obtain ⟨hx, hb, hml, hown, hts⟩ := id S
  have hl : lv_has ls 5 [(0, .int (nI (kd))), (1, .int (nI (ex)))] := hl
  refine lv_lconst (v := 1) hx hb dX6_power_0 (by decide) ?_
  refine lv_lstore_n (lv' := [(2, .long (1)), (0, .int (nI (kd))), (1, .int (nI (ex)))]) hx hb dX6_power_1 rfl hl (by decide) rfl (fun ls hl => ?_)
  refine lv_iconst (v := nI (0)) hx hb dX6_power_2 (by decide) ?_
  refine lv_istore (lv' := [(4, .int (nI (0))), (2, .long (1)), (0, .int (nI (kd))), (1, .int (nI (ex)))]) hx hb dX6_power_3 hl (by decide) rfl (fun ls hl => ?_)
  have L5 : ∀ (dd : Nat) (i : Nat), ex - i < dd → (i ≤ ex) → ∀ (ls : Array Slot), lv_has ls 5 [(0, .int (nI (kd))), (1, .int (nI (ex))), (2, .long (zpw kd i)), (4, .int (nI (i)))] → W p (zl E) e (zRm 0 0) s m args below meth c H [] 0 0 Q (F0 m 5 ls []) := by
    intro dd
    induction dd with
    | zero => intro i hdd; exact absurd hdd (Nat.not_lt_zero _)
    | succ dd ih5 =>
      intro i hdd5 hi ls hl
      refine lv_iload hx hb dX6_power_5 (lv_at hl 3 rfl) ?_
      refine lv_iload_n hx hb dX6_power_7 rfl (lv_at hl 1 rfl) ?_
      refine z_cge (tgt := 22) hx hb dX6_power_8 (by decide) ⟨by omega, by omega⟩ (fun c_1 => ?_) (fun c_1 => ?_)
      · refine lv_lload_n hx hb dX6_power_22 rfl (lv_at hl 2 rfl) ?_
        exact hret _ _ _ dX6_power_23 (by rw [show i = ex by omega])
      · refine lv_lload_n hx hb dX6_power_11 rfl (lv_at hl 2 rfl) ?_
        refine lv_iload_n hx hb dX6_power_12 rfl (lv_at hl 0 rfl) ?_
        refine lv_i2l (v := (nI (kd)).toInt64) hx hb dX6_power_13 rfl ?_
        refine lv_lmul hx hb dX6_power_14 ?_
        refine z_topl (y := zpw kd (i + 1)) (rfl) ?_
        refine lv_lstore_n (lv' := [(2, .long (zpw kd (i + 1))), (0, .int (nI (kd))), (1, .int (nI (ex))), (4, .int (nI (i)))]) hx hb dX6_power_15 rfl hl (by decide) rfl (fun ls hl => ?_)
        refine lv_iinc (v := nI (i + 1)) (lv' := [(4, .int (nI (i + 1))), (2, .long (zpw kd (i + 1))), (0, .int (nI (kd))), (1, .int (nI (ex)))]) hx hb dX6_power_16 hl (k := 3) rfl (z_inc1 _) (by decide) rfl (fun ls hl => ?_)
        refine lv_goto (tgt := 5) hx hb dX6_power_19 (by decide) ?_
        have hl9 := lv_sub hl [2, 3, 1, 0] (l' := [(0, .int (nI (kd))), (1, .int (nI (ex))), (2, .long (zpw kd (i + 1))), (4, .int (nI (i + 1)))]) rfl
        have e9_4 : (i + 1) = ((i + 1)) := by omega
        exact ih5 (i + 1) (by omega) (by omega) ls (by rw [← e9_4]; exact hl9)
  exact L5 ((ex - (0)) + 1) (0) (Nat.lt_succ_self _) (Nat.zero_le _) ls (lv_sub hl [2, 3, 1, 0] rfl)

set_option maxHeartbeats 4000000 in
set_option maxRecDepth 100000 in
theorem c_X5_classes_0 (E : zEnv) {ad : Nat → Nat} {x y w : Int32} (hx1 : zsz x = false) : zRO E yX5_classes wsX5_classes 2 44 [.ref (ad 287), .int (x), .int (y), .int (w)] (fun _ => True) (some (.long (-2))) := by
  refine zRO.ofL (maxL := 8) rfl (Nat.le_of_ble_eq_true rfl) (fun p e s m args below meth c H Q hF hP hret ls hl => ?_)
  have S : CallFix p m c cX5_classes 8 s args wsX5_classes RX5 := hF.1
  have hG := hF.2
  obtain ⟨hx, hb, hml, hown, hts⟩ := id S
  have hl : lv_has ls 8 [(0, .ref (ad 287)), (1, .int (x)), (2, .int (y)), (3, .int (w))] := hl
  refine lv_iload_n hx hb dX5_classes_0 rfl (lv_at hl 1 rfl) ?_
  refine z_roSX (As := [.int (x)]) (rest := []) S hG (c_X5_isSize E) 1 gX5_classes_X5_isSize rfl kX5_isSize.2 ⟨Nat.le_of_ble_eq_true rfl, Nat.le_of_ble_eq_true rfl⟩ ⟨Nat.zero_le _, Nat.zero_le _⟩ (trivial) rfl hl.1 rfl rfl (Nat.le_of_ble_eq_true rfl) dX5_classes_1 ?_
  refine z_beq (tgt := 24) hx hb dX5_classes_4 (by decide) (fun c_1 => ?_) (fun c_1 => by exfalso; rw [hx1] at c_1; cases c_1)
  refine lv_ldc2 (v := -2) hx hb hown (hts (.constantLong RX5 144 (-2)) (by decide +kernel)) dX5_classes_24 ?_
  exact hret _ _ _ dX5_classes_27 (rfl)

set_option maxHeartbeats 4000000 in
set_option maxRecDepth 100000 in
theorem c_X5_classes_1 (E : zEnv) {ad : Nat → Nat} {n : Nat} {y w : Int32} (hn4 : zsz4 n) (hy : zin y 1 5 = false) : zRO E yX5_classes wsX5_classes 2 44 [.ref (ad 287), .int (nI (n)), .int (y), .int (w)] (fun _ => True) (some (.long (-2))) := by
  refine zRO.ofL (maxL := 8) rfl (Nat.le_of_ble_eq_true rfl) (fun p e s m args below meth c H Q hF hP hret ls hl => ?_)
  have S : CallFix p m c cX5_classes 8 s args wsX5_classes RX5 := hF.1
  have hG := hF.2
  obtain ⟨hx, hb, hml, hown, hts⟩ := id S
  have hl : lv_has ls 8 [(0, .ref (ad 287)), (1, .int (nI (n))), (2, .int (y)), (3, .int (w))] := hl
  refine lv_iload_n hx hb dX5_classes_0 rfl (lv_at hl 1 rfl) ?_
  refine z_roSX (As := [.int (nI (n))]) (rest := []) S hG (c_X5_isSize E) 1 gX5_classes_X5_isSize rfl kX5_isSize.2 ⟨Nat.le_of_ble_eq_true rfl, Nat.le_of_ble_eq_true rfl⟩ ⟨Nat.zero_le _, Nat.zero_le _⟩ (trivial) rfl hl.1 rfl rfl (Nat.le_of_ble_eq_true rfl) dX5_classes_1 ?_
  refine z_beq (tgt := 24) hx hb dX5_classes_4 (by decide) (fun c_1 => by exfalso; rw [zsz4_b hn4] at c_1; cases c_1) (fun c_1 => ?_)
  refine lv_iload_n hx hb dX5_classes_7 rfl (lv_at hl 2 rfl) ?_
  refine lv_iconst (v := nI (1)) hx hb dX5_classes_8 (by decide) ?_
  refine lv_icmp_lt (tgt := 24) hx hb dX5_classes_9 (by decide) (fun c_2 => ?_) (fun c_2 => ?_)
  · refine lv_ldc2 (v := -2) hx hb hown (hts (.constantLong RX5 144 (-2)) (by decide +kernel)) dX5_classes_24 ?_
    exact hret _ _ _ dX5_classes_27 (rfl)
  · refine lv_iload_n hx hb dX5_classes_12 rfl (lv_at hl 2 rfl) ?_
    refine lv_iconst (v := nI (5)) hx hb dX5_classes_13 (by decide) ?_
    refine lv_icmp_gt (tgt := 24) hx hb dX5_classes_14 (by decide) (fun c_3 => ?_) (fun c_3 => by exfalso; exact zin_c1 hy c_2 (Int32.not_lt.mp c_3))
    refine lv_ldc2 (v := -2) hx hb hown (hts (.constantLong RX5 144 (-2)) (by decide +kernel)) dX5_classes_24 ?_
    exact hret _ _ _ dX5_classes_27 (rfl)

set_option maxHeartbeats 4000000 in
set_option maxRecDepth 100000 in
theorem c_X5_classes_2 (E : zEnv) {ad : Nat → Nat} {n kd : Nat} {w : Int32} (hn4 : zsz4 n) (hk : 1 ≤ kd ∧ kd ≤ 5) (hw : zin w 0 2 = false) : zRO E yX5_classes wsX5_classes 2 44 [.ref (ad 287), .int (nI (n)), .int (nI (kd)), .int (w)] (fun _ => True) (some (.long (-2))) := by
  refine zRO.ofL (maxL := 8) rfl (Nat.le_of_ble_eq_true rfl) (fun p e s m args below meth c H Q hF hP hret ls hl => ?_)
  have S : CallFix p m c cX5_classes 8 s args wsX5_classes RX5 := hF.1
  have hG := hF.2
  obtain ⟨hx, hb, hml, hown, hts⟩ := id S
  have hl : lv_has ls 8 [(0, .ref (ad 287)), (1, .int (nI (n))), (2, .int (nI (kd))), (3, .int (w))] := hl
  refine lv_iload_n hx hb dX5_classes_0 rfl (lv_at hl 1 rfl) ?_
  refine z_roSX (As := [.int (nI (n))]) (rest := []) S hG (c_X5_isSize E) 1 gX5_classes_X5_isSize rfl kX5_isSize.2 ⟨Nat.le_of_ble_eq_true rfl, Nat.le_of_ble_eq_true rfl⟩ ⟨Nat.zero_le _, Nat.zero_le _⟩ (trivial) rfl hl.1 rfl rfl (Nat.le_of_ble_eq_true rfl) dX5_classes_1 ?_
  refine z_beq (tgt := 24) hx hb dX5_classes_4 (by decide) (fun c_1 => by exfalso; rw [zsz4_b hn4] at c_1; cases c_1) (fun c_1 => ?_)
  refine lv_iload_n hx hb dX5_classes_7 rfl (lv_at hl 2 rfl) ?_
  refine lv_iconst (v := nI (1)) hx hb dX5_classes_8 (by decide) ?_
  refine z_clt (tgt := 24) hx hb dX5_classes_9 (by decide) ⟨by omega, by omega⟩ (fun c_2 => by exfalso; omega) (fun c_2 => ?_)
  refine lv_iload_n hx hb dX5_classes_12 rfl (lv_at hl 2 rfl) ?_
  refine lv_iconst (v := nI (5)) hx hb dX5_classes_13 (by decide) ?_
  refine z_cgt (tgt := 24) hx hb dX5_classes_14 (by decide) ⟨by omega, by omega⟩ (fun c_3 => by exfalso; omega) (fun c_3 => ?_)
  refine lv_iload_n hx hb dX5_classes_17 rfl (lv_at hl 3 rfl) ?_
  refine z_roSX (As := [.int (w)]) (rest := []) S hG (c_X5_isLevel E) 1 gX5_classes_X5_isLevel rfl kX5_isLevel.2 ⟨Nat.le_of_ble_eq_true rfl, Nat.le_of_ble_eq_true rfl⟩ ⟨Nat.zero_le _, Nat.zero_le _⟩ (trivial) rfl hl.1 rfl rfl (Nat.le_of_ble_eq_true rfl) dX5_classes_18 ?_
  refine z_bne (tgt := 28) hx hb dX5_classes_21 (by decide) (fun c_4 => by exfalso; rw [hw] at c_4; cases c_4) (fun c_4 => ?_)
  refine lv_ldc2 (v := -2) hx hb hown (hts (.constantLong RX5 144 (-2)) (by decide +kernel)) dX5_classes_24 ?_
  exact hret _ _ _ dX5_classes_27 (rfl)

set_option maxHeartbeats 4000000 in
set_option maxRecDepth 100000 in
theorem c_X5_classes_3 (E : zEnv) {ad : Nat → Nat} {n kd lv : Nat} (hn4 : zsz4 n) (hk : 1 ≤ kd ∧ kd ≤ 5) (hlv : lv ≤ 2) : zRO E yX5_classes wsX5_classes 2 44 [.ref (ad 287), .int (nI (n)), .int (nI (kd)), .int (nI (lv))] (fun _ => True) (some (.long (zlcR kd n lv))) := by
  refine zRO.ofL (maxL := 8) rfl (Nat.le_of_ble_eq_true rfl) (fun p e s m args below meth c H Q hF hP hret ls hl => ?_)
  have S : CallFix p m c cX5_classes 8 s args wsX5_classes RX5 := hF.1
  have hG := hF.2
  obtain ⟨hx, hb, hml, hown, hts⟩ := id S
  have hn := hn4.b
  have hc32 := znc_le (lv := lv) hn.2.1
  have hc0 := znc_pos (lv := lv) hn.1
  have hl : lv_has ls 8 [(0, .ref (ad 287)), (1, .int (nI (n))), (2, .int (nI (kd))), (3, .int (nI (lv)))] := hl
  refine lv_iload_n hx hb dX5_classes_0 rfl (lv_at hl 1 rfl) ?_
  refine z_roSX (As := [.int (nI (n))]) (rest := []) S hG (c_X5_isSize E) 1 gX5_classes_X5_isSize rfl kX5_isSize.2 ⟨Nat.le_of_ble_eq_true rfl, Nat.le_of_ble_eq_true rfl⟩ ⟨Nat.zero_le _, Nat.zero_le _⟩ (trivial) rfl hl.1 rfl rfl (Nat.le_of_ble_eq_true rfl) dX5_classes_1 ?_
  refine z_beq (tgt := 24) hx hb dX5_classes_4 (by decide) (fun c_1 => by exfalso; rw [zsz4_b hn4] at c_1; cases c_1) (fun c_1 => ?_)
  refine lv_iload_n hx hb dX5_classes_7 rfl (lv_at hl 2 rfl) ?_
  refine lv_iconst (v := nI (1)) hx hb dX5_classes_8 (by decide) ?_
  refine z_clt (tgt := 24) hx hb dX5_classes_9 (by decide) ⟨by omega, by omega⟩ (fun c_2 => by exfalso; omega) (fun c_2 => ?_)
  refine lv_iload_n hx hb dX5_classes_12 rfl (lv_at hl 2 rfl) ?_
  refine lv_iconst (v := nI (5)) hx hb dX5_classes_13 (by decide) ?_
  refine z_cgt (tgt := 24) hx hb dX5_classes_14 (by decide) ⟨by omega, by omega⟩ (fun c_3 => by exfalso; omega) (fun c_3 => ?_)
  refine lv_iload_n hx hb dX5_classes_17 rfl (lv_at hl 3 rfl) ?_
  refine z_roSX (As := [.int (nI (lv))]) (rest := []) S hG (c_X5_isLevel E) 1 gX5_classes_X5_isLevel rfl kX5_isLevel.2 ⟨Nat.le_of_ble_eq_true rfl, Nat.le_of_ble_eq_true rfl⟩ ⟨Nat.zero_le _, Nat.zero_le _⟩ (trivial) rfl hl.1 rfl rfl (Nat.le_of_ble_eq_true rfl) dX5_classes_18 ?_
  refine z_bne (tgt := 28) hx hb dX5_classes_21 (by decide) (fun c_4 => ?_) (fun c_4 => by exfalso; rw [zin_y (by omega) hlv (by decide)] at c_4; cases c_4)
  refine lv_iload_n hx hb dX5_classes_28 rfl (lv_at hl 3 rfl) ?_
  refine lv_iload_n hx hb dX5_classes_29 rfl (lv_at hl 1 rfl) ?_
  refine z_roSX (As := [.int (nI (lv)), .int (nI (n))]) (rest := []) S hG (c_X5_changeCount E (lv := lv) (n := n) hlv) 2 gX5_classes_X5_changeCount rfl kX5_changeCount.2 ⟨Nat.le_of_ble_eq_true rfl, Nat.le_of_ble_eq_true rfl⟩ ⟨Nat.zero_le _, Nat.zero_le _⟩ (trivial) rfl hl.1 rfl rfl (Nat.le_of_ble_eq_true rfl) dX5_classes_30 ?_
  refine lv_istore (lv' := [(4, .int (nI (znc lv n))), (0, .ref (ad 287)), (1, .int (nI (n))), (2, .int (nI (kd))), (3, .int (nI (lv)))]) hx hb dX5_classes_33 hl (by decide) rfl (fun ls hl => ?_)
  refine lv_lconst (v := 0) hx hb dX5_classes_35 (by decide) ?_
  refine lv_lstore (lv' := [(5, .long (0)), (4, .int (nI (znc lv n))), (0, .ref (ad 287)), (1, .int (nI (n))), (2, .int (nI (kd))), (3, .int (nI (lv)))]) hx hb dX5_classes_36 hl (by decide) rfl (fun ls hl => ?_)
  refine lv_iconst (v := nI (0)) hx hb dX5_classes_38 (by decide) ?_
  refine lv_istore (lv' := [(7, .int (nI (0))), (5, .long (0)), (4, .int (nI (znc lv n))), (0, .ref (ad 287)), (1, .int (nI (n))), (2, .int (nI (kd))), (3, .int (nI (lv)))]) hx hb dX5_classes_39 hl (by decide) rfl (fun ls hl => ?_)
  have L41 : ∀ (dd : Nat) (i : Nat), znc lv n - i < dd → (i ≤ znc lv n) → ∀ (ls : Array Slot), lv_has ls 8 [(0, .ref (ad 287)), (1, .int (nI (n))), (2, .int (nI (kd))), (3, .int (nI (lv))), (4, .int (nI (znc lv n))), (5, .long (zlf kd n lv i)), (7, .int (nI (i)))] → W p (zl E) e (zRm 2 44) s m args below meth c H [] 0 0 Q (F0 m 41 ls []) := by
    intro dd
    induction dd with
    | zero => intro i hdd; exact absurd hdd (Nat.not_lt_zero _)
    | succ dd ih41 =>
      intro i hdd41 hi ls hl
      refine lv_iload hx hb dX5_classes_41 (lv_at hl 6 rfl) ?_
      refine lv_iload hx hb dX5_classes_43 (lv_at hl 4 rfl) ?_
      refine z_cge (tgt := 74) hx hb dX5_classes_45 (by decide) ⟨by omega, by omega⟩ (fun c_5 => ?_) (fun c_5 => ?_)
      · refine lv_iload hx hb dX5_classes_74 (lv_at hl 4 rfl) ?_
        refine lv_iconst (v := nI (1)) hx hb dX5_classes_76 (by decide) ?_
        refine z_cge (tgt := 84) hx hb dX5_classes_77 (by decide) ⟨by omega, by omega⟩ (fun c_6 => ?_) (fun c_6 => by exfalso; omega)
        refine lv_lload hx hb dX5_classes_84 (lv_at hl 5 rfl) ?_
        refine lv_iload hx hb dX5_classes_86 (lv_at hl 4 rfl) ?_
        refine lv_i2l (v := (nI (znc lv n)).toInt64) hx hb dX5_classes_88 rfl ?_
        refine lv_ldiv hx hb dX5_classes_89 (z_l32 hc0 hc32) ?_
        exact hret _ _ _ dX5_classes_90 (by rw [show i = znc lv n by omega]; rfl)
      · refine lv_lload hx hb dX5_classes_48 (lv_at hl 5 rfl) ?_
        refine lv_iload_n hx hb dX5_classes_50 rfl (lv_at hl 2 rfl) ?_
        refine lv_iload_n hx hb dX5_classes_51 rfl (lv_at hl 3 rfl) ?_
        refine lv_iload hx hb dX5_classes_52 (lv_at hl 6 rfl) ?_
        refine lv_iload_n hx hb dX5_classes_54 rfl (lv_at hl 1 rfl) ?_
        refine z_roSX (As := [.int (nI (lv)), .int (nI (i)), .int (nI (n))]) (rest := [.int (nI (kd)), .long (zlf kd n lv i)]) S hG (c_X5_changeAt E (lv := lv) (i := i) (n := n) hlv (by omega) hn.2.1) 3 gX5_classes_X5_changeAt rfl kX5_changeAt.2 ⟨Nat.le_of_ble_eq_true rfl, Nat.le_of_ble_eq_true rfl⟩ ⟨Nat.zero_le _, Nat.zero_le _⟩ (trivial) rfl hl.1 rfl rfl (Nat.le_of_ble_eq_true rfl) dX5_classes_55 ?_
        refine lv_iload_n hx hb dX5_classes_58 rfl (lv_at hl 1 rfl) ?_
        refine z_roSX (As := [.int (nI (zchg lv i n)), .int (nI (n))]) (rest := [.int (nI (kd)), .long (zlf kd n lv i)]) S hG (c_X5_cycles E (ch := zchg lv i n) (n := n) ⟨hn.1, hn.2.1⟩ (zchg_lt hlv hn.1 (by omega))) 2 gX5_classes_X5_cycles rfl kX5_cycles.2 ⟨Nat.le_of_ble_eq_true rfl, Nat.le_of_ble_eq_true rfl⟩ ⟨Nat.zero_le _, Nat.zero_le _⟩ (trivial) rfl hl.1 rfl rfl (Nat.le_of_ble_eq_true rfl) dX5_classes_59 ?_
        refine z_roSX (As := [.int (nI (kd)), .int (nI (zcy (zchg lv i n) n))]) (rest := [.long (zlf kd n lv i)]) S hG (c_X5_power E (kd := kd) (ex := zcy (zchg lv i n) n) (zcy_le hn.2.1)) 2 gX5_classes_X5_power rfl kX5_power.2 ⟨Nat.le_of_ble_eq_true rfl, Nat.le_of_ble_eq_true rfl⟩ ⟨Nat.zero_le _, Nat.zero_le _⟩ (trivial) rfl hl.1 rfl rfl (Nat.le_of_ble_eq_true rfl) dX5_classes_62 ?_
        refine lv_ladd hx hb dX5_classes_65 ?_
        refine z_topl (y := zlf kd n lv (i + 1)) (rfl) ?_
        refine lv_lstore (lv' := [(5, .long (zlf kd n lv (i + 1))), (0, .ref (ad 287)), (1, .int (nI (n))), (2, .int (nI (kd))), (3, .int (nI (lv))), (4, .int (nI (znc lv n))), (7, .int (nI (i)))]) hx hb dX5_classes_66 hl (by decide) rfl (fun ls hl => ?_)
        refine lv_iinc (v := nI (i + 1)) (lv' := [(7, .int (nI (i + 1))), (5, .long (zlf kd n lv (i + 1))), (0, .ref (ad 287)), (1, .int (nI (n))), (2, .int (nI (kd))), (3, .int (nI (lv))), (4, .int (nI (znc lv n)))]) hx hb dX5_classes_68 hl (k := 6) rfl (z_inc1 _) (by decide) rfl (fun ls hl => ?_)
        refine lv_goto (tgt := 41) hx hb dX5_classes_71 (by decide) ?_
        have hl9 := lv_sub hl [2, 3, 4, 5, 6, 1, 0] (l' := [(0, .ref (ad 287)), (1, .int (nI (n))), (2, .int (nI (kd))), (3, .int (nI (lv))), (4, .int (nI (znc lv n))), (5, .long (zlf kd n lv (i + 1))), (7, .int (nI (i + 1)))]) rfl
        have e9_7 : (i + 1) = ((i + 1)) := by omega
        exact ih41 (i + 1) (by omega) (by omega) ls (by rw [← e9_7]; exact hl9)
  exact L41 ((znc lv n - (0)) + 1) (0) (Nat.lt_succ_self _) (Nat.zero_le _) ls (lv_sub hl [3, 4, 5, 6, 2, 1, 0] rfl)

set_option maxHeartbeats 4000000 in
set_option maxRecDepth 100000 in
theorem c_X6_common (E : zEnv) {a b : Nat} (hab : a ≤ 32 ∧ b ≤ 32) : zRO E yX6_common wsX6_common 0 0 [.int (nI (a)), .int (nI (b))] (fun _ => True) (some (.int (nI (Nat.gcd a b)))) := by
  refine zRO.ofI (maxL := 5) rfl (Nat.le_of_ble_eq_true rfl) (fun p e s m args below meth c H Q hF hP hret ls hl => ?_)
  have S : CallFix p m c cX6_common 5 s args wsX6_common RX6 := hF.1
  have hG := hF.2
  obtain ⟨hx, hb, hml, hown, hts⟩ := id S
  have hl : lv_has ls 5 [(0, .int (nI (a))), (1, .int (nI (b)))] := hl
  refine lv_iload_n hx hb dX6_common_0 rfl (lv_at hl 0 rfl) ?_
  refine lv_istore_n (lv' := [(2, .int (nI (a))), (0, .int (nI (a))), (1, .int (nI (b)))]) hx hb dX6_common_1 rfl hl (by decide) rfl (fun ls hl => ?_)
  refine lv_iload_n hx hb dX6_common_2 rfl (lv_at hl 2 rfl) ?_
  refine lv_istore_n (lv' := [(3, .int (nI (b))), (2, .int (nI (a))), (0, .int (nI (a))), (1, .int (nI (b)))]) hx hb dX6_common_3 rfl hl (by decide) rfl (fun ls hl => ?_)
  have L4 : ∀ (dd : Nat) (x : Nat) (y : Nat), y < dd → (x ≤ 32 ∧ y ≤ 32) → (Nat.gcd x y = Nat.gcd a b) → ∀ (ls : Array Slot), lv_has ls 5 [(0, .int (nI (a))), (1, .int (nI (b))), (2, .int (nI (x))), (3, .int (nI (y)))] → W p (zl E) e (zRm 0 0) s m args below meth c H [] 0 0 Q (F0 m 4 ls []) := by
    intro dd
    induction dd with
    | zero => intro x y hdd; exact absurd hdd (Nat.not_lt_zero _)
    | succ dd ih4 =>
      intro x y hdd4 hxy hg ls hl
      refine lv_iload_n hx hb dX6_common_4 rfl (lv_at hl 3 rfl) ?_
      refine z_fle (tgt := 21) hx hb dX6_common_5 (by decide) (by omega) (fun c_1 => ?_) (fun c_1 => ?_)
      · refine lv_iload_n hx hb dX6_common_21 rfl (lv_at hl 2 rfl) ?_
        exact hret _ _ _ dX6_common_22 (by rw [← hg, show y = 0 by omega, Nat.gcd_zero_right])
      · refine lv_iload_n hx hb dX6_common_8 rfl (lv_at hl 2 rfl) ?_
        refine lv_iload_n hx hb dX6_common_9 rfl (lv_at hl 3 rfl) ?_
        refine z_irem hx hb dX6_common_10 ⟨by omega, by omega, by omega⟩ ?_
        refine lv_istore (lv' := [(4, .int (nI (x % y))), (0, .int (nI (a))), (1, .int (nI (b))), (2, .int (nI (x))), (3, .int (nI (y)))]) hx hb dX6_common_11 hl (by decide) rfl (fun ls hl => ?_)
        refine lv_iload_n hx hb dX6_common_13 rfl (lv_at hl 4 rfl) ?_
        refine lv_istore_n (lv' := [(2, .int (nI (y))), (4, .int (nI (x % y))), (0, .int (nI (a))), (1, .int (nI (b))), (3, .int (nI (y)))]) hx hb dX6_common_14 rfl hl (by decide) rfl (fun ls hl => ?_)
        refine lv_iload hx hb dX6_common_15 (lv_at hl 1 rfl) ?_
        refine lv_istore_n (lv' := [(3, .int (nI (x % y))), (2, .int (nI (y))), (4, .int (nI (x % y))), (0, .int (nI (a))), (1, .int (nI (b)))]) hx hb dX6_common_17 rfl hl (by decide) rfl (fun ls hl => ?_)
        refine lv_goto (tgt := 4) hx hb dX6_common_18 (by decide) ?_
        have hl9 := lv_sub hl [3, 4, 1, 0] (l' := [(0, .int (nI (a))), (1, .int (nI (b))), (2, .int (nI (y))), (3, .int (nI (x % y)))]) rfl
        have e9_3 : (x % y) = ((x % y)) := by omega
        exact ih4 (y) (x % y) (by have := Nat.mod_lt x (show 0 < y by omega); omega) (by have := Nat.mod_lt x (show 0 < y by omega); omega) (by rw [← hg, Nat.gcd_comm x y, Nat.gcd_rec y x, Nat.gcd_comm]) ls (by rw [← e9_3]; exact hl9)
  exact L4 (((b)) + 1) (a) (b) (Nat.lt_succ_self _) (hab) (rfl) ls (lv_sub hl [2, 3, 1, 0] rfl)

set_option maxHeartbeats 4000000 in
set_option maxRecDepth 100000 in
theorem c_X6_classes_0 (E : zEnv) {o : Nat} {x y w : Int32} (hx1 : zsz x = false) : zRO E yX6_classes wsX6_classes 2 42 [.ref (o), .int (x), .int (y), .int (w)] (fun _ => True) (some (.long (-2))) := by
  refine zRO.ofL (maxL := 8) rfl (Nat.le_of_ble_eq_true rfl) (fun p e s m args below meth c H Q hF hP hret ls hl => ?_)
  have S : CallFix p m c cX6_classes 8 s args wsX6_classes RX6 := hF.1
  have hG := hF.2
  obtain ⟨hx, hb, hml, hown, hts⟩ := id S
  have hl : lv_has ls 8 [(0, .ref (o)), (1, .int (x)), (2, .int (y)), (3, .int (w))] := hl
  refine lv_iload_n hx hb dX6_classes_0 rfl (lv_at hl 1 rfl) ?_
  refine z_roSX (As := [.int (x)]) (rest := []) S hG (c_X6_isRing E) 1 gX6_classes_X6_isRing rfl kX6_isRing.2 ⟨Nat.le_of_ble_eq_true rfl, Nat.le_of_ble_eq_true rfl⟩ ⟨Nat.zero_le _, Nat.zero_le _⟩ (trivial) rfl hl.1 rfl rfl (Nat.le_of_ble_eq_true rfl) dX6_classes_1 ?_
  refine z_beq (tgt := 21) hx hb dX6_classes_4 (by decide) (fun c_1 => ?_) (fun c_1 => by exfalso; rw [hx1] at c_1; cases c_1)
  refine lv_ldc2 (v := -2) hx hb hown (hts (.constantLong RX6 130 (-2)) (by decide +kernel)) dX6_classes_21 ?_
  exact hret _ _ _ dX6_classes_24 (rfl)

set_option maxHeartbeats 4000000 in
set_option maxRecDepth 100000 in
theorem c_X6_classes_1 (E : zEnv) {o : Nat} {n : Nat} {y w : Int32} (hn4 : zsz4 n) (hy : zin y 1 5 = false) : zRO E yX6_classes wsX6_classes 2 42 [.ref (o), .int (nI (n)), .int (y), .int (w)] (fun _ => True) (some (.long (-2))) := by
  refine zRO.ofL (maxL := 8) rfl (Nat.le_of_ble_eq_true rfl) (fun p e s m args below meth c H Q hF hP hret ls hl => ?_)
  have S : CallFix p m c cX6_classes 8 s args wsX6_classes RX6 := hF.1
  have hG := hF.2
  obtain ⟨hx, hb, hml, hown, hts⟩ := id S
  have hl : lv_has ls 8 [(0, .ref (o)), (1, .int (nI (n))), (2, .int (y)), (3, .int (w))] := hl
  refine lv_iload_n hx hb dX6_classes_0 rfl (lv_at hl 1 rfl) ?_
  refine z_roSX (As := [.int (nI (n))]) (rest := []) S hG (c_X6_isRing E) 1 gX6_classes_X6_isRing rfl kX6_isRing.2 ⟨Nat.le_of_ble_eq_true rfl, Nat.le_of_ble_eq_true rfl⟩ ⟨Nat.zero_le _, Nat.zero_le _⟩ (trivial) rfl hl.1 rfl rfl (Nat.le_of_ble_eq_true rfl) dX6_classes_1 ?_
  refine z_beq (tgt := 21) hx hb dX6_classes_4 (by decide) (fun c_1 => by exfalso; rw [zsz4_b hn4] at c_1; cases c_1) (fun c_1 => ?_)
  refine lv_iload_n hx hb dX6_classes_7 rfl (lv_at hl 2 rfl) ?_
  refine z_roSX (As := [.int (y)]) (rest := []) S hG (c_X6_isKind E) 1 gX6_classes_X6_isKind rfl kX6_isKind.2 ⟨Nat.le_of_ble_eq_true rfl, Nat.le_of_ble_eq_true rfl⟩ ⟨Nat.zero_le _, Nat.zero_le _⟩ (trivial) rfl hl.1 rfl rfl (Nat.le_of_ble_eq_true rfl) dX6_classes_8 ?_
  refine z_beq (tgt := 21) hx hb dX6_classes_11 (by decide) (fun c_2 => ?_) (fun c_2 => by exfalso; rw [hy] at c_2; cases c_2)
  refine lv_ldc2 (v := -2) hx hb hown (hts (.constantLong RX6 130 (-2)) (by decide +kernel)) dX6_classes_21 ?_
  exact hret _ _ _ dX6_classes_24 (rfl)

set_option maxHeartbeats 4000000 in
set_option maxRecDepth 100000 in
theorem c_X6_classes_2 (E : zEnv) {o : Nat} {n kd : Nat} {w : Int32} (hn4 : zsz4 n) (hk : 1 ≤ kd ∧ kd ≤ 5) (hw : zin w 0 2 = false) : zRO E yX6_classes wsX6_classes 2 42 [.ref (o), .int (nI (n)), .int (nI (kd)), .int (w)] (fun _ => True) (some (.long (-2))) := by
  refine zRO.ofL (maxL := 8) rfl (Nat.le_of_ble_eq_true rfl) (fun p e s m args below meth c H Q hF hP hret ls hl => ?_)
  have S : CallFix p m c cX6_classes 8 s args wsX6_classes RX6 := hF.1
  have hG := hF.2
  obtain ⟨hx, hb, hml, hown, hts⟩ := id S
  have hl : lv_has ls 8 [(0, .ref (o)), (1, .int (nI (n))), (2, .int (nI (kd))), (3, .int (w))] := hl
  refine lv_iload_n hx hb dX6_classes_0 rfl (lv_at hl 1 rfl) ?_
  refine z_roSX (As := [.int (nI (n))]) (rest := []) S hG (c_X6_isRing E) 1 gX6_classes_X6_isRing rfl kX6_isRing.2 ⟨Nat.le_of_ble_eq_true rfl, Nat.le_of_ble_eq_true rfl⟩ ⟨Nat.zero_le _, Nat.zero_le _⟩ (trivial) rfl hl.1 rfl rfl (Nat.le_of_ble_eq_true rfl) dX6_classes_1 ?_
  refine z_beq (tgt := 21) hx hb dX6_classes_4 (by decide) (fun c_1 => by exfalso; rw [zsz4_b hn4] at c_1; cases c_1) (fun c_1 => ?_)
  refine lv_iload_n hx hb dX6_classes_7 rfl (lv_at hl 2 rfl) ?_
  refine z_roSX (As := [.int (nI (kd))]) (rest := []) S hG (c_X6_isKind E) 1 gX6_classes_X6_isKind rfl kX6_isKind.2 ⟨Nat.le_of_ble_eq_true rfl, Nat.le_of_ble_eq_true rfl⟩ ⟨Nat.zero_le _, Nat.zero_le _⟩ (trivial) rfl hl.1 rfl rfl (Nat.le_of_ble_eq_true rfl) dX6_classes_8 ?_
  refine z_beq (tgt := 21) hx hb dX6_classes_11 (by decide) (fun c_2 => by exfalso; rw [zin_y hk.1 hk.2 (by decide)] at c_2; cases c_2) (fun c_2 => ?_)
  refine lv_iload_n hx hb dX6_classes_14 rfl (lv_at hl 3 rfl) ?_
  refine z_roSX (As := [.int (w)]) (rest := []) S hG (c_X6_isLevel E) 1 gX6_classes_X6_isLevel rfl kX6_isLevel.2 ⟨Nat.le_of_ble_eq_true rfl, Nat.le_of_ble_eq_true rfl⟩ ⟨Nat.zero_le _, Nat.zero_le _⟩ (trivial) rfl hl.1 rfl rfl (Nat.le_of_ble_eq_true rfl) dX6_classes_15 ?_
  refine z_bne (tgt := 25) hx hb dX6_classes_18 (by decide) (fun c_3 => by exfalso; rw [hw] at c_3; cases c_3) (fun c_3 => ?_)
  refine lv_ldc2 (v := -2) hx hb hown (hts (.constantLong RX6 130 (-2)) (by decide +kernel)) dX6_classes_21 ?_
  exact hret _ _ _ dX6_classes_24 (rfl)

set_option maxHeartbeats 4000000 in
set_option maxRecDepth 100000 in
theorem c_X6_classes_3 (E : zEnv) {o : Nat} {n kd lv : Nat} (hn4 : zsz4 n) (hk : 1 ≤ kd ∧ kd ≤ 5) (hlv : lv ≤ 2) : zRO E yX6_classes wsX6_classes 2 42 [.ref (o), .int (nI (n)), .int (nI (kd)), .int (nI (lv))] (fun _ => True) (some (.long (zlmR kd n lv))) := by
  refine zRO.ofL (maxL := 8) rfl (Nat.le_of_ble_eq_true rfl) (fun p e s m args below meth c H Q hF hP hret ls hl => ?_)
  have S : CallFix p m c cX6_classes 8 s args wsX6_classes RX6 := hF.1
  have hG := hF.2
  obtain ⟨hx, hb, hml, hown, hts⟩ := id S
  have hn := hn4.b
  have hc32 := znc_le (lv := lv) hn.2.1
  have hc0 := znc_pos (lv := lv) hn.1
  have hse := zst_e hn4 lv
  have hl : lv_has ls 8 [(0, .ref (o)), (1, .int (nI (n))), (2, .int (nI (kd))), (3, .int (nI (lv)))] := hl
  refine lv_iload_n hx hb dX6_classes_0 rfl (lv_at hl 1 rfl) ?_
  refine z_roSX (As := [.int (nI (n))]) (rest := []) S hG (c_X6_isRing E) 1 gX6_classes_X6_isRing rfl kX6_isRing.2 ⟨Nat.le_of_ble_eq_true rfl, Nat.le_of_ble_eq_true rfl⟩ ⟨Nat.zero_le _, Nat.zero_le _⟩ (trivial) rfl hl.1 rfl rfl (Nat.le_of_ble_eq_true rfl) dX6_classes_1 ?_
  refine z_beq (tgt := 21) hx hb dX6_classes_4 (by decide) (fun c_1 => by exfalso; rw [zsz4_b hn4] at c_1; cases c_1) (fun c_1 => ?_)
  refine lv_iload_n hx hb dX6_classes_7 rfl (lv_at hl 2 rfl) ?_
  refine z_roSX (As := [.int (nI (kd))]) (rest := []) S hG (c_X6_isKind E) 1 gX6_classes_X6_isKind rfl kX6_isKind.2 ⟨Nat.le_of_ble_eq_true rfl, Nat.le_of_ble_eq_true rfl⟩ ⟨Nat.zero_le _, Nat.zero_le _⟩ (trivial) rfl hl.1 rfl rfl (Nat.le_of_ble_eq_true rfl) dX6_classes_8 ?_
  refine z_beq (tgt := 21) hx hb dX6_classes_11 (by decide) (fun c_2 => by exfalso; rw [zin_y hk.1 hk.2 (by decide)] at c_2; cases c_2) (fun c_2 => ?_)
  refine lv_iload_n hx hb dX6_classes_14 rfl (lv_at hl 3 rfl) ?_
  refine z_roSX (As := [.int (nI (lv))]) (rest := []) S hG (c_X6_isLevel E) 1 gX6_classes_X6_isLevel rfl kX6_isLevel.2 ⟨Nat.le_of_ble_eq_true rfl, Nat.le_of_ble_eq_true rfl⟩ ⟨Nat.zero_le _, Nat.zero_le _⟩ (trivial) rfl hl.1 rfl rfl (Nat.le_of_ble_eq_true rfl) dX6_classes_15 ?_
  refine z_bne (tgt := 25) hx hb dX6_classes_18 (by decide) (fun c_3 => ?_) (fun c_3 => by exfalso; rw [zin_y (by omega) hlv (by decide)] at c_3; cases c_3)
  refine lv_lconst (v := 0) hx hb dX6_classes_25 (by decide) ?_
  refine lv_lstore (lv' := [(4, .long (0)), (0, .ref (o)), (1, .int (nI (n))), (2, .int (nI (kd))), (3, .int (nI (lv)))]) hx hb dX6_classes_26 hl (by decide) rfl (fun ls hl => ?_)
  refine lv_iload_n hx hb dX6_classes_28 rfl (lv_at hl 4 rfl) ?_
  refine z_fne (tgt := 38) hx hb dX6_classes_29 (by decide) (by omega) (fun c_4 => ?_) (fun c_4 => ?_)
  · refine lv_iconst (v := nI (1)) hx hb dX6_classes_38 (by decide) ?_
    refine z_top (y := nI (zst lv n)) (by unfold zst; rw [if_neg (by omega)]) ?_
    refine lv_istore (lv' := [(6, .int (nI (zst lv n))), (4, .long (0)), (0, .ref (o)), (1, .int (nI (n))), (2, .int (nI (kd))), (3, .int (nI (lv)))]) hx hb dX6_classes_39 hl (by decide) rfl (fun ls hl => ?_)
    refine lv_iconst (v := nI (0)) hx hb dX6_classes_41 (by decide) ?_
    refine lv_istore (lv' := [(7, .int (nI (0))), (6, .int (nI (zst lv n))), (4, .long (0)), (0, .ref (o)), (1, .int (nI (n))), (2, .int (nI (kd))), (3, .int (nI (lv)))]) hx hb dX6_classes_42 hl (by decide) rfl (fun ls hl => ?_)
    have L44 : ∀ (dd : Nat) (j : Nat), znk lv n - j < dd → (j ≤ znk lv n) → ∀ (ls : Array Slot), lv_has ls 8 [(0, .ref (o)), (1, .int (nI (n))), (2, .int (nI (kd))), (3, .int (nI (lv))), (4, .long (zlm kd n (zst lv n) j)), (6, .int (nI (zst lv n))), (7, .int (nI (zst lv n * j)))] → W p (zl E) e (zRm 2 42) s m args below meth c H [] 0 0 Q (F0 m 44 ls []) := by
      intro dd
      induction dd with
      | zero => intro j hdd; exact absurd hdd (Nat.not_lt_zero _)
      | succ dd ih44 =>
        intro j hdd44 hj ls hl
        have hjn := zst_le hn4 hj
        refine lv_iload hx hb dX6_classes_44 (lv_at hl 6 rfl) ?_
        refine lv_iload_n hx hb dX6_classes_46 rfl (lv_at hl 1 rfl) ?_
        refine z_cge (tgt := 75) hx hb dX6_classes_47 (by decide) ⟨by omega, by omega⟩ (fun c_5 => ?_) (fun c_5 => ?_)
        · have hj9 := zst_ge hn4 c_5
          have hj8 : j = znk lv n := by omega
          refine lv_iload_n hx hb dX6_classes_75 rfl (lv_at hl 3 rfl) ?_
          refine lv_iconst (v := nI (2)) hx hb dX6_classes_76 (by decide) ?_
          refine z_cne (tgt := 107) hx hb dX6_classes_77 (by decide) ⟨by omega, by omega⟩ (fun c_6 => ?_) (fun c_6 => ?_)
          · refine lv_lload hx hb dX6_classes_107 (lv_at hl 4 rfl) ?_
            refine lv_iload_n hx hb dX6_classes_109 rfl (lv_at hl 1 rfl) ?_
            refine lv_iload_n hx hb dX6_classes_110 rfl (lv_at hl 3 rfl) ?_
            refine z_roSX (As := [.int (nI (n)), .int (nI (lv))]) (rest := [.long (zlm kd n (zst lv n) j)]) S hG (c_X6_changes E (n := n) (lv := lv) hlv) 2 gX6_classes_X6_changes rfl kX6_changes.2 ⟨Nat.le_of_ble_eq_true rfl, Nat.le_of_ble_eq_true rfl⟩ ⟨Nat.zero_le _, Nat.zero_le _⟩ (trivial) rfl hl.1 rfl rfl (Nat.le_of_ble_eq_true rfl) dX6_classes_111 ?_
            refine lv_i2l (v := (nI (znc lv n)).toInt64) hx hb dX6_classes_114 rfl ?_
            refine lv_ldiv hx hb dX6_classes_115 (z_l32 hc0 hc32) ?_
            exact hret _ _ _ dX6_classes_116 (by first | (unfold zlmR; rw [if_pos (by omega), ← hj8]) | (unfold zlmR; rw [if_neg (by omega), ← hj8]))
          · refine lv_lload hx hb dX6_classes_80 (lv_at hl 4 rfl) ?_
            refine lv_iload_n hx hb dX6_classes_82 rfl (lv_at hl 1 rfl) ?_
            refine lv_iconst (v := nI (2)) hx hb dX6_classes_83 (by decide) ?_
            refine z_idiv hx hb dX6_classes_84 ⟨by omega, by omega, by omega⟩ ?_
            refine lv_i2l (v := (nI (n / 2)).toInt64) hx hb dX6_classes_85 rfl ?_
            refine lv_iload_n hx hb dX6_classes_86 rfl (lv_at hl 2 rfl) ?_
            refine lv_iload_n hx hb dX6_classes_87 rfl (lv_at hl 1 rfl) ?_
            refine lv_iconst (v := nI (2)) hx hb dX6_classes_88 (by decide) ?_
            refine z_idiv hx hb dX6_classes_89 ⟨by omega, by omega, by omega⟩ ?_
            refine lv_iconst (v := nI (1)) hx hb dX6_classes_90 (by decide) ?_
            refine z_iadd hx hb dX6_classes_91 ?_
            refine z_roSX (As := [.int (nI (kd)), .int (nI ((n / 2) + 1))]) (rest := [.long ((nI (n / 2)).toInt64), .long (zlm kd n (zst lv n) j)]) S hG (c_X6_power E (kd := kd) (ex := (n / 2) + 1) (by omega)) 2 gX6_classes_X6_power rfl kX6_power.2 ⟨Nat.le_of_ble_eq_true rfl, Nat.le_of_ble_eq_true rfl⟩ ⟨Nat.zero_le _, Nat.zero_le _⟩ (trivial) rfl hl.1 rfl rfl (Nat.le_of_ble_eq_true rfl) dX6_classes_92 ?_
            refine lv_iload_n hx hb dX6_classes_95 rfl (lv_at hl 2 rfl) ?_
            refine lv_iload_n hx hb dX6_classes_96 rfl (lv_at hl 1 rfl) ?_
            refine lv_iconst (v := nI (2)) hx hb dX6_classes_97 (by decide) ?_
            refine z_idiv hx hb dX6_classes_98 ⟨by omega, by omega, by omega⟩ ?_
            refine z_roSX (As := [.int (nI (kd)), .int (nI (n / 2))]) (rest := [.long (zpw kd ((n / 2) + 1)), .long ((nI (n / 2)).toInt64), .long (zlm kd n (zst lv n) j)]) S hG (c_X6_power E (kd := kd) (ex := n / 2) (by omega)) 2 gX6_classes_X6_power rfl kX6_power.2 ⟨Nat.le_of_ble_eq_true rfl, Nat.le_of_ble_eq_true rfl⟩ ⟨Nat.zero_le _, Nat.zero_le _⟩ (trivial) rfl hl.1 rfl rfl (Nat.le_of_ble_eq_true rfl) dX6_classes_99 ?_
            refine lv_ladd hx hb dX6_classes_102 ?_
            refine lv_lmul hx hb dX6_classes_103 ?_
            refine lv_ladd hx hb dX6_classes_104 ?_
            refine lv_lstore (lv' := [(4, .long ((zlm kd n (zst lv n) j) + (((nI (n / 2)).toInt64) * ((zpw kd ((n / 2) + 1)) + (zpw kd (n / 2)))))), (0, .ref (o)), (1, .int (nI (n))), (2, .int (nI (kd))), (3, .int (nI (lv))), (6, .int (nI (zst lv n))), (7, .int (nI (zst lv n * j)))]) hx hb dX6_classes_105 hl (by decide) rfl (fun ls hl => ?_)
            refine lv_lload hx hb dX6_classes_107 (lv_at hl 0 rfl) ?_
            refine lv_iload_n hx hb dX6_classes_109 rfl (lv_at hl 2 rfl) ?_
            refine lv_iload_n hx hb dX6_classes_110 rfl (lv_at hl 4 rfl) ?_
            refine z_roSX (As := [.int (nI (n)), .int (nI (lv))]) (rest := [.long ((zlm kd n (zst lv n) j) + (((nI (n / 2)).toInt64) * ((zpw kd ((n / 2) + 1)) + (zpw kd (n / 2)))))]) S hG (c_X6_changes E (n := n) (lv := lv) hlv) 2 gX6_classes_X6_changes rfl kX6_changes.2 ⟨Nat.le_of_ble_eq_true rfl, Nat.le_of_ble_eq_true rfl⟩ ⟨Nat.zero_le _, Nat.zero_le _⟩ (trivial) rfl hl.1 rfl rfl (Nat.le_of_ble_eq_true rfl) dX6_classes_111 ?_
            refine lv_i2l (v := (nI (znc lv n)).toInt64) hx hb dX6_classes_114 rfl ?_
            refine lv_ldiv hx hb dX6_classes_115 (z_l32 hc0 hc32) ?_
            exact hret _ _ _ dX6_classes_116 (by first | (unfold zlmR; rw [if_pos (by omega), ← hj8]) | (unfold zlmR; rw [if_neg (by omega), ← hj8]))
        · have hj9 := zst_lt hn4 c_5
          refine lv_lload hx hb dX6_classes_50 (lv_at hl 4 rfl) ?_
          refine lv_iload_n hx hb dX6_classes_52 rfl (lv_at hl 2 rfl) ?_
          refine lv_iload_n hx hb dX6_classes_53 rfl (lv_at hl 1 rfl) ?_
          refine lv_iload hx hb dX6_classes_54 (lv_at hl 6 rfl) ?_
          refine z_roSX (As := [.int (nI (n)), .int (nI (zst lv n * j))]) (rest := [.int (nI (kd)), .long (zlm kd n (zst lv n) j)]) S hG (c_X6_common E (a := n) (b := zst lv n * j) ⟨by omega, by omega⟩) 2 gX6_classes_X6_common rfl kX6_common.2 ⟨Nat.le_of_ble_eq_true rfl, Nat.le_of_ble_eq_true rfl⟩ ⟨Nat.zero_le _, Nat.zero_le _⟩ (trivial) rfl hl.1 rfl rfl (Nat.le_of_ble_eq_true rfl) dX6_classes_56 ?_
          refine z_roSX (As := [.int (nI (kd)), .int (nI (Nat.gcd n (zst lv n * j)))]) (rest := [.long (zlm kd n (zst lv n) j)]) S hG (c_X6_power E (kd := kd) (ex := Nat.gcd n (zst lv n * j)) (by have := Nat.le_of_dvd hn.1 (Nat.gcd_dvd_left n (zst lv n * j)); omega)) 2 gX6_classes_X6_power rfl kX6_power.2 ⟨Nat.le_of_ble_eq_true rfl, Nat.le_of_ble_eq_true rfl⟩ ⟨Nat.zero_le _, Nat.zero_le _⟩ (trivial) rfl hl.1 rfl rfl (Nat.le_of_ble_eq_true rfl) dX6_classes_59 ?_
          refine lv_ladd hx hb dX6_classes_62 ?_
          refine z_topl (y := zlm kd n (zst lv n) (j + 1)) (rfl) ?_
          refine lv_lstore (lv' := [(4, .long (zlm kd n (zst lv n) (j + 1))), (0, .ref (o)), (1, .int (nI (n))), (2, .int (nI (kd))), (3, .int (nI (lv))), (6, .int (nI (zst lv n))), (7, .int (nI (zst lv n * j)))]) hx hb dX6_classes_63 hl (by decide) rfl (fun ls hl => ?_)
          refine lv_iload hx hb dX6_classes_65 (lv_at hl 6 rfl) ?_
          refine lv_iload hx hb dX6_classes_67 (lv_at hl 5 rfl) ?_
          refine z_iadd hx hb dX6_classes_69 ?_
          refine lv_istore (lv' := [(7, .int (nI ((zst lv n * j) + (zst lv n)))), (4, .long (zlm kd n (zst lv n) (j + 1))), (0, .ref (o)), (1, .int (nI (n))), (2, .int (nI (kd))), (3, .int (nI (lv))), (6, .int (nI (zst lv n)))]) hx hb dX6_classes_70 hl (by decide) rfl (fun ls hl => ?_)
          refine lv_goto (tgt := 44) hx hb dX6_classes_72 (by decide) ?_
          have hl9 := lv_sub hl [2, 3, 4, 5, 1, 6, 0] (l' := [(0, .ref (o)), (1, .int (nI (n))), (2, .int (nI (kd))), (3, .int (nI (lv))), (4, .long (zlm kd n (zst lv n) (j + 1))), (6, .int (nI (zst lv n))), (7, .int (nI ((zst lv n * j) + (zst lv n))))]) rfl
          have e9_7 : ((zst lv n * j) + (zst lv n)) = (zst lv n * (j + 1)) := by rw [Nat.mul_add, Nat.mul_one]
          exact ih44 (j + 1) (by omega) (by omega) ls (by rw [← e9_7]; exact hl9)
    exact L44 ((znk lv n - (0)) + 1) (0) (Nat.lt_succ_self _) (Nat.zero_le _) ls (lv_sub hl [3, 4, 5, 6, 2, 1, 0] rfl)
  · refine lv_iload_n hx hb dX6_classes_32 rfl (lv_at hl 2 rfl) ?_
    refine lv_iconst (v := nI (4)) hx hb dX6_classes_33 (by decide) ?_
    refine z_idiv hx hb dX6_classes_34 ⟨by omega, by omega, by omega⟩ ?_
    refine z_top (y := nI (zst lv n)) (by unfold zst; rw [if_pos (by omega)]) ?_
    refine lv_goto (tgt := 39) hx hb dX6_classes_35 (by decide) ?_
    refine lv_istore (lv' := [(6, .int (nI (zst lv n))), (4, .long (0)), (0, .ref (o)), (1, .int (nI (n))), (2, .int (nI (kd))), (3, .int (nI (lv)))]) hx hb dX6_classes_39 hl (by decide) rfl (fun ls hl => ?_)
    refine lv_iconst (v := nI (0)) hx hb dX6_classes_41 (by decide) ?_
    refine lv_istore (lv' := [(7, .int (nI (0))), (6, .int (nI (zst lv n))), (4, .long (0)), (0, .ref (o)), (1, .int (nI (n))), (2, .int (nI (kd))), (3, .int (nI (lv)))]) hx hb dX6_classes_42 hl (by decide) rfl (fun ls hl => ?_)
    have L44 : ∀ (dd : Nat) (j : Nat), znk lv n - j < dd → (j ≤ znk lv n) → ∀ (ls : Array Slot), lv_has ls 8 [(0, .ref (o)), (1, .int (nI (n))), (2, .int (nI (kd))), (3, .int (nI (lv))), (4, .long (zlm kd n (zst lv n) j)), (6, .int (nI (zst lv n))), (7, .int (nI (zst lv n * j)))] → W p (zl E) e (zRm 2 42) s m args below meth c H [] 0 0 Q (F0 m 44 ls []) := by
      intro dd
      induction dd with
      | zero => intro j hdd; exact absurd hdd (Nat.not_lt_zero _)
      | succ dd ih44 =>
        intro j hdd44 hj ls hl
        have hjn := zst_le hn4 hj
        refine lv_iload hx hb dX6_classes_44 (lv_at hl 6 rfl) ?_
        refine lv_iload_n hx hb dX6_classes_46 rfl (lv_at hl 1 rfl) ?_
        refine z_cge (tgt := 75) hx hb dX6_classes_47 (by decide) ⟨by omega, by omega⟩ (fun c_7 => ?_) (fun c_7 => ?_)
        · have hj9 := zst_ge hn4 c_7
          have hj8 : j = znk lv n := by omega
          refine lv_iload_n hx hb dX6_classes_75 rfl (lv_at hl 3 rfl) ?_
          refine lv_iconst (v := nI (2)) hx hb dX6_classes_76 (by decide) ?_
          refine z_cne (tgt := 107) hx hb dX6_classes_77 (by decide) ⟨by omega, by omega⟩ (fun c_8 => ?_) (fun c_8 => ?_)
          · refine lv_lload hx hb dX6_classes_107 (lv_at hl 4 rfl) ?_
            refine lv_iload_n hx hb dX6_classes_109 rfl (lv_at hl 1 rfl) ?_
            refine lv_iload_n hx hb dX6_classes_110 rfl (lv_at hl 3 rfl) ?_
            refine z_roSX (As := [.int (nI (n)), .int (nI (lv))]) (rest := [.long (zlm kd n (zst lv n) j)]) S hG (c_X6_changes E (n := n) (lv := lv) hlv) 2 gX6_classes_X6_changes rfl kX6_changes.2 ⟨Nat.le_of_ble_eq_true rfl, Nat.le_of_ble_eq_true rfl⟩ ⟨Nat.zero_le _, Nat.zero_le _⟩ (trivial) rfl hl.1 rfl rfl (Nat.le_of_ble_eq_true rfl) dX6_classes_111 ?_
            refine lv_i2l (v := (nI (znc lv n)).toInt64) hx hb dX6_classes_114 rfl ?_
            refine lv_ldiv hx hb dX6_classes_115 (z_l32 hc0 hc32) ?_
            exact hret _ _ _ dX6_classes_116 (by first | (unfold zlmR; rw [if_pos (by omega), ← hj8]) | (unfold zlmR; rw [if_neg (by omega), ← hj8]))
          · refine lv_lload hx hb dX6_classes_80 (lv_at hl 4 rfl) ?_
            refine lv_iload_n hx hb dX6_classes_82 rfl (lv_at hl 1 rfl) ?_
            refine lv_iconst (v := nI (2)) hx hb dX6_classes_83 (by decide) ?_
            refine z_idiv hx hb dX6_classes_84 ⟨by omega, by omega, by omega⟩ ?_
            refine lv_i2l (v := (nI (n / 2)).toInt64) hx hb dX6_classes_85 rfl ?_
            refine lv_iload_n hx hb dX6_classes_86 rfl (lv_at hl 2 rfl) ?_
            refine lv_iload_n hx hb dX6_classes_87 rfl (lv_at hl 1 rfl) ?_
            refine lv_iconst (v := nI (2)) hx hb dX6_classes_88 (by decide) ?_
            refine z_idiv hx hb dX6_classes_89 ⟨by omega, by omega, by omega⟩ ?_
            refine lv_iconst (v := nI (1)) hx hb dX6_classes_90 (by decide) ?_
            refine z_iadd hx hb dX6_classes_91 ?_
            refine z_roSX (As := [.int (nI (kd)), .int (nI ((n / 2) + 1))]) (rest := [.long ((nI (n / 2)).toInt64), .long (zlm kd n (zst lv n) j)]) S hG (c_X6_power E (kd := kd) (ex := (n / 2) + 1) (by omega)) 2 gX6_classes_X6_power rfl kX6_power.2 ⟨Nat.le_of_ble_eq_true rfl, Nat.le_of_ble_eq_true rfl⟩ ⟨Nat.zero_le _, Nat.zero_le _⟩ (trivial) rfl hl.1 rfl rfl (Nat.le_of_ble_eq_true rfl) dX6_classes_92 ?_
            refine lv_iload_n hx hb dX6_classes_95 rfl (lv_at hl 2 rfl) ?_
            refine lv_iload_n hx hb dX6_classes_96 rfl (lv_at hl 1 rfl) ?_
            refine lv_iconst (v := nI (2)) hx hb dX6_classes_97 (by decide) ?_
            refine z_idiv hx hb dX6_classes_98 ⟨by omega, by omega, by omega⟩ ?_
            refine z_roSX (As := [.int (nI (kd)), .int (nI (n / 2))]) (rest := [.long (zpw kd ((n / 2) + 1)), .long ((nI (n / 2)).toInt64), .long (zlm kd n (zst lv n) j)]) S hG (c_X6_power E (kd := kd) (ex := n / 2) (by omega)) 2 gX6_classes_X6_power rfl kX6_power.2 ⟨Nat.le_of_ble_eq_true rfl, Nat.le_of_ble_eq_true rfl⟩ ⟨Nat.zero_le _, Nat.zero_le _⟩ (trivial) rfl hl.1 rfl rfl (Nat.le_of_ble_eq_true rfl) dX6_classes_99 ?_
            refine lv_ladd hx hb dX6_classes_102 ?_
            refine lv_lmul hx hb dX6_classes_103 ?_
            refine lv_ladd hx hb dX6_classes_104 ?_
            refine lv_lstore (lv' := [(4, .long ((zlm kd n (zst lv n) j) + (((nI (n / 2)).toInt64) * ((zpw kd ((n / 2) + 1)) + (zpw kd (n / 2)))))), (0, .ref (o)), (1, .int (nI (n))), (2, .int (nI (kd))), (3, .int (nI (lv))), (6, .int (nI (zst lv n))), (7, .int (nI (zst lv n * j)))]) hx hb dX6_classes_105 hl (by decide) rfl (fun ls hl => ?_)
            refine lv_lload hx hb dX6_classes_107 (lv_at hl 0 rfl) ?_
            refine lv_iload_n hx hb dX6_classes_109 rfl (lv_at hl 2 rfl) ?_
            refine lv_iload_n hx hb dX6_classes_110 rfl (lv_at hl 4 rfl) ?_
            refine z_roSX (As := [.int (nI (n)), .int (nI (lv))]) (rest := [.long ((zlm kd n (zst lv n) j) + (((nI (n / 2)).toInt64) * ((zpw kd ((n / 2) + 1)) + (zpw kd (n / 2)))))]) S hG (c_X6_changes E (n := n) (lv := lv) hlv) 2 gX6_classes_X6_changes rfl kX6_changes.2 ⟨Nat.le_of_ble_eq_true rfl, Nat.le_of_ble_eq_true rfl⟩ ⟨Nat.zero_le _, Nat.zero_le _⟩ (trivial) rfl hl.1 rfl rfl (Nat.le_of_ble_eq_true rfl) dX6_classes_111 ?_
            refine lv_i2l (v := (nI (znc lv n)).toInt64) hx hb dX6_classes_114 rfl ?_
            refine lv_ldiv hx hb dX6_classes_115 (z_l32 hc0 hc32) ?_
            exact hret _ _ _ dX6_classes_116 (by first | (unfold zlmR; rw [if_pos (by omega), ← hj8]) | (unfold zlmR; rw [if_neg (by omega), ← hj8]))
        · have hj9 := zst_lt hn4 c_7
          refine lv_lload hx hb dX6_classes_50 (lv_at hl 4 rfl) ?_
          refine lv_iload_n hx hb dX6_classes_52 rfl (lv_at hl 2 rfl) ?_
          refine lv_iload_n hx hb dX6_classes_53 rfl (lv_at hl 1 rfl) ?_
          refine lv_iload hx hb dX6_classes_54 (lv_at hl 6 rfl) ?_
          refine z_roSX (As := [.int (nI (n)), .int (nI (zst lv n * j))]) (rest := [.int (nI (kd)), .long (zlm kd n (zst lv n) j)]) S hG (c_X6_common E (a := n) (b := zst lv n * j) ⟨by omega, by omega⟩) 2 gX6_classes_X6_common rfl kX6_common.2 ⟨Nat.le_of_ble_eq_true rfl, Nat.le_of_ble_eq_true rfl⟩ ⟨Nat.zero_le _, Nat.zero_le _⟩ (trivial) rfl hl.1 rfl rfl (Nat.le_of_ble_eq_true rfl) dX6_classes_56 ?_
          refine z_roSX (As := [.int (nI (kd)), .int (nI (Nat.gcd n (zst lv n * j)))]) (rest := [.long (zlm kd n (zst lv n) j)]) S hG (c_X6_power E (kd := kd) (ex := Nat.gcd n (zst lv n * j)) (by have := Nat.le_of_dvd hn.1 (Nat.gcd_dvd_left n (zst lv n * j)); omega)) 2 gX6_classes_X6_power rfl kX6_power.2 ⟨Nat.le_of_ble_eq_true rfl, Nat.le_of_ble_eq_true rfl⟩ ⟨Nat.zero_le _, Nat.zero_le _⟩ (trivial) rfl hl.1 rfl rfl (Nat.le_of_ble_eq_true rfl) dX6_classes_59 ?_
          refine lv_ladd hx hb dX6_classes_62 ?_
          refine z_topl (y := zlm kd n (zst lv n) (j + 1)) (rfl) ?_
          refine lv_lstore (lv' := [(4, .long (zlm kd n (zst lv n) (j + 1))), (0, .ref (o)), (1, .int (nI (n))), (2, .int (nI (kd))), (3, .int (nI (lv))), (6, .int (nI (zst lv n))), (7, .int (nI (zst lv n * j)))]) hx hb dX6_classes_63 hl (by decide) rfl (fun ls hl => ?_)
          refine lv_iload hx hb dX6_classes_65 (lv_at hl 6 rfl) ?_
          refine lv_iload hx hb dX6_classes_67 (lv_at hl 5 rfl) ?_
          refine z_iadd hx hb dX6_classes_69 ?_
          refine lv_istore (lv' := [(7, .int (nI ((zst lv n * j) + (zst lv n)))), (4, .long (zlm kd n (zst lv n) (j + 1))), (0, .ref (o)), (1, .int (nI (n))), (2, .int (nI (kd))), (3, .int (nI (lv))), (6, .int (nI (zst lv n)))]) hx hb dX6_classes_70 hl (by decide) rfl (fun ls hl => ?_)
          refine lv_goto (tgt := 44) hx hb dX6_classes_72 (by decide) ?_
          have hl9 := lv_sub hl [2, 3, 4, 5, 1, 6, 0] (l' := [(0, .ref (o)), (1, .int (nI (n))), (2, .int (nI (kd))), (3, .int (nI (lv))), (4, .long (zlm kd n (zst lv n) (j + 1))), (6, .int (nI (zst lv n))), (7, .int (nI ((zst lv n * j) + (zst lv n))))]) rfl
          have e9_7 : ((zst lv n * j) + (zst lv n)) = (zst lv n * (j + 1)) := by rw [Nat.mul_add, Nat.mul_one]
          exact ih44 (j + 1) (by omega) (by omega) ls (by rw [← e9_7]; exact hl9)
    exact L44 ((znk lv n - (0)) + 1) (0) (Nat.lt_succ_self _) (Nat.zero_le _) ls (lv_sub hl [3, 4, 5, 6, 2, 1, 0] rfl)
