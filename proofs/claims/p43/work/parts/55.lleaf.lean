set_option maxHeartbeats 4000000 in
set_option maxRecDepth 100000 in
theorem c_L_low (E : zEnv) {v : Int32} {n : Nat} (hn : 0 < n ∧ n < 2 ^ 31) : zRO E yL_low wsL_low 0 0 [.int (v), .int (nI (n))] (fun _ => True) (some (.int (nI (zlw v n)))) := by
  refine zRO.ofI (maxL := 2) rfl (Nat.le_of_ble_eq_true rfl) (fun p e s m args below meth c H Q hF hP hret ls hl => ?_)
  have S : CallFix p m c cL_low 2 s args wsL_low RL := hF.1
  have hG := hF.2
  obtain ⟨hx, hb, hml, hown, hts⟩ := id S
  have hv := zla_e v
  have hl : lv_has ls 2 [(0, .int (v)), (1, .int (nI (n)))] := hl
  refine lv_iload_n hx hb dL_low_0 rfl (lv_at hl 0 rfl) ?_
  refine lv_ldc (v := 2147483647) hx hb hown (hts (.constant RL 9 (2147483647)) (by decide +kernel)) dL_low_1 ?_
  refine lv_iand hx hb dL_low_3 ?_
  refine z_top (y := nI (zla v)) (hv.1) ?_
  refine lv_iload_n hx hb dL_low_4 rfl (lv_at hl 1 rfl) ?_
  refine z_irem hx hb dL_low_5 ⟨hv.2, hn.1, hn.2⟩ ?_
  exact hret _ _ _ dL_low_6 (rfl)

set_option maxHeartbeats 4000000 in
set_option maxRecDepth 100000 in
theorem c_L_slots (E : zEnv) {n : Nat} {f : Nat → Int32} (hn : zsz4 n) (hk : ∀ s, s < n → zk (f s)) : zRO E yL_slots wsL_slots 0 0 [.long (lN (zLn f n))] (fun _ => True) (some (.int (nI n))) := by
  refine zRO.ofI (maxL := 5) rfl (Nat.le_of_ble_eq_true rfl) (fun p e s m args below meth c H Q hF hP hret ls hl => ?_)
  have S : CallFix p m c cL_slots 5 s args wsL_slots RL := hF.1
  have hG := hF.2
  obtain ⟨hx, hb, hml, hown, hts⟩ := id S
  have hb4 := hn.b
  have hL := zLn_62 hb4.2.1 hk
  have hL7 := zLn_pos (f := f) n
  have hl : lv_has ls 5 [(0, .long (lN (zLn f n)))] := hl
  refine lv_iconst (v := nI (0)) hx hb dL_slots_0 (by decide) ?_
  refine lv_istore_n (lv' := [(2, .int (nI (0))), (0, .long (lN (zLn f n)))]) hx hb dL_slots_1 rfl hl (by decide) rfl (fun ls hl => ?_)
  refine lv_lload_n hx hb dL_slots_2 rfl (lv_at hl 1 rfl) ?_
  refine lv_lstore_n (lv' := [(3, .long (lN (zLn f n))), (2, .int (nI (0))), (0, .long (lN (zLn f n)))]) hx hb dL_slots_3 rfl hl (by decide) rfl (fun ls hl => ?_)
  have L4 : ∀ (dd : Nat) (i : Nat), n - i < dd → (i ≤ n) → ∀ (ls : Array Slot), lv_has ls 5 [(0, .long (lN (zLn f n))), (2, .int (nI (i))), (3, .long (lN (zLn f (n - i))))] → W p (zl E) e (zRm 0 0) s m args below meth c H [] 0 0 Q (F0 m 4 ls []) := by
    intro dd
    induction dd with
    | zero => intro i hdd; exact absurd hdd (Nat.not_lt_zero _)
    | succ dd ih4 =>
      intro i hdd4 hi ls hl
      have hL2 := zL_sub (f := f) hb4.2.1 hi hk
      refine lv_lload_n hx hb dL_slots_4 rfl (lv_at hl 2 rfl) ?_
      refine lv_ldc2 (v := 7) hx hb hown (hts (.constantLong RL 10 (7)) (by decide +kernel)) dL_slots_5 ?_
      refine z_topl (y := lN 7) rfl ?_
      refine W.lcmp hx hb dL_slots_8 ?_
      refine z_lle (tgt := 22) hx hb dL_slots_9 (by decide) ⟨by omega, by omega⟩ (fun c_1 => ?_) (fun c_1 => ?_)
      · refine lv_iload_n hx hb dL_slots_22 rfl (lv_at hl 1 rfl) ?_
        exact hret _ _ _ dL_slots_23 (by rw [zL_last hi c_1])
      · refine lv_iinc (v := nI (i + 1)) (lv' := [(2, .int (nI (i + 1))), (0, .long (lN (zLn f n))), (3, .long (lN (zLn f (n - i))))]) hx hb dL_slots_12 hl (k := 1) rfl (z_inc1 _) (by decide) rfl (fun ls hl => ?_)
        refine lv_lload_n hx hb dL_slots_15 rfl (lv_at hl 2 rfl) ?_
        refine lv_iconst (v := nI (3)) hx hb dL_slots_16 (by decide) ?_
        refine z_lshr hx hb dL_slots_17 ⟨by omega, by omega⟩ ?_
        refine lv_lstore_n (lv' := [(3, .long (lN ((zLn f (n - i)) / 2 ^ 3))), (2, .int (nI (i + 1))), (0, .long (lN (zLn f n)))]) hx hb dL_slots_18 rfl hl (by decide) rfl (fun ls hl => ?_)
        refine lv_goto (tgt := 4) hx hb dL_slots_19 (by decide) ?_
        have hl9 := lv_sub hl [2, 1, 0] (l' := [(0, .long (lN (zLn f n))), (2, .int (nI (i + 1))), (3, .long (lN ((zLn f (n - i)) / 2 ^ 3)))]) rfl
        have e9_2 : (i + 1) = ((i + 1)) := by omega
        have e9_3 : ((zLn f (n - i)) / 2 ^ 3) = (zLn f (n - (i + 1))) := zL_dec hi c_1 hk
        exact ih4 (i + 1) (by have := zL_more hi (by assumption); omega) (zL_more hi c_1) ls (by rw [← e9_2, ← e9_3]; exact hl9)
  exact L4 ((n - (0)) + 1) (0) (Nat.lt_succ_self _) (Nat.zero_le _) ls (lv_sub hl [2, 1, 0] rfl)

set_option maxHeartbeats 4000000 in
set_option maxRecDepth 100000 in
theorem c_L_kind (E : zEnv) {n : Nat} {f : Nat → Int32} {j : Nat} (hn : zsz4 n) (hk : ∀ s, s < n → zk (f s)) (hj : j < n) : zRO E yL_kind wsL_kind 1 24 [.long (lN (zLn f n)), .int (nI (j))] (fun _ => True) (some (.int (f j))) := by
  refine zRO.ofI (maxL := 3) rfl (Nat.le_of_ble_eq_true rfl) (fun p e s m args below meth c H Q hF hP hret ls hl => ?_)
  have S : CallFix p m c cL_kind 3 s args wsL_kind RL := hF.1
  have hG := hF.2
  obtain ⟨hx, hb, hml, hown, hts⟩ := id S
  have hb4 := hn.b
  have hL := zLn_62 hb4.2.1 hk
  have hL7 := zLn_pos (f := f) n
  have hl : lv_has ls 3 [(0, .long (lN (zLn f n))), (2, .int (nI (j)))] := hl
  refine lv_lload_n hx hb dL_kind_0 rfl (lv_at hl 0 rfl) ?_
  refine lv_iconst (v := nI (3)) hx hb dL_kind_1 (by decide) ?_
  refine lv_lload_n hx hb dL_kind_2 rfl (lv_at hl 0 rfl) ?_
  refine z_roSX (As := [.long (lN (zLn f n))]) (rest := [.int (nI (3)), .long (lN (zLn f n))]) S hG (c_L_slots E hn hk) 1 gL_kind_L_slots rfl kL_slots.2 ⟨Nat.le_of_ble_eq_true rfl, Nat.le_of_ble_eq_true rfl⟩ ⟨Nat.zero_le _, Nat.zero_le _⟩ (trivial) rfl hl.1 rfl rfl (Nat.le_of_ble_eq_true rfl) dL_kind_3 ?_
  refine lv_iconst (v := nI (1)) hx hb dL_kind_6 (by decide) ?_
  refine z_isub hx hb dL_kind_7 (by omega) ?_
  refine lv_iload_n hx hb dL_kind_8 rfl (lv_at hl 1 rfl) ?_
  refine z_isub hx hb dL_kind_9 (by omega) ?_
  refine z_imul hx hb dL_kind_10 ?_
  refine z_lshr hx hb dL_kind_11 ⟨by omega, by omega⟩ ?_
  refine lv_l2i (v := nI ((zLn f n) / 2 ^ (3 * ((n - 1) - j)))) hx hb dL_kind_12 (lN_i _) ?_
  refine lv_bipush (v := nI (7)) hx hb dL_kind_13 (by decide) ?_
  refine lv_iand hx hb dL_kind_15 ?_
  refine z_top (y := (f j)) (zL_kind hk hj) ?_
  exact hret _ _ _ dL_kind_16 (rfl)

set_option maxHeartbeats 4000000 in
set_option maxRecDepth 100000 in
theorem c_L_lay (E : zEnv) {n : Nat} {f : Nat → Int32} {j : Nat} {x : Int32} (hn : zsz4 n) (hk : ∀ s, s < n → zk (f s)) (hj : j < n) (hx9 : zk x) : zRO E yL_lay wsL_lay 1 24 [.long (lN (zLn f n)), .int (nI (j)), .int (x)] (fun _ => True) (some (.long (lN (zLn (upd f j x) n)))) := by
  refine zRO.ofL (maxL := 5) rfl (Nat.le_of_ble_eq_true rfl) (fun p e s m args below meth c H Q hF hP hret ls hl => ?_)
  have S : CallFix p m c cL_lay 5 s args wsL_lay RL := hF.1
  have hG := hF.2
  obtain ⟨hx, hb, hml, hown, hts⟩ := id S
  have hb4 := hn.b
  have hL := zLn_62 hb4.2.1 hk
  have hL7 := zLn_pos (f := f) n
  have hx8 := zk_d hx9
  have hl : lv_has ls 5 [(0, .long (lN (zLn f n))), (2, .int (nI (j))), (3, .int (x))] := hl
  refine lv_iconst (v := nI (3)) hx hb dL_lay_0 (by decide) ?_
  refine lv_lload_n hx hb dL_lay_1 rfl (lv_at hl 0 rfl) ?_
  refine z_roSX (As := [.long (lN (zLn f n))]) (rest := [.int (nI (3))]) S hG (c_L_slots E hn hk) 1 gL_lay_L_slots rfl kL_slots.2 ⟨Nat.le_of_ble_eq_true rfl, Nat.le_of_ble_eq_true rfl⟩ ⟨Nat.zero_le _, Nat.zero_le _⟩ (trivial) rfl hl.1 rfl rfl (Nat.le_of_ble_eq_true rfl) dL_lay_2 ?_
  refine lv_iconst (v := nI (1)) hx hb dL_lay_5 (by decide) ?_
  refine z_isub hx hb dL_lay_6 (by omega) ?_
  refine lv_iload_n hx hb dL_lay_7 rfl (lv_at hl 1 rfl) ?_
  refine z_isub hx hb dL_lay_8 (by omega) ?_
  refine z_imul hx hb dL_lay_9 ?_
  refine lv_istore (lv' := [(4, .int (nI (3 * ((n - 1) - j)))), (0, .long (lN (zLn f n))), (2, .int (nI (j))), (3, .int (x))]) hx hb dL_lay_10 hl (by decide) rfl (fun ls hl => ?_)
  refine lv_lload_n hx hb dL_lay_12 rfl (lv_at hl 1 rfl) ?_
  refine lv_ldc2 (v := 7) hx hb hown (hts (.constantLong RL 10 (7)) (by decide +kernel)) dL_lay_13 ?_
  refine z_topl (y := lN 7) rfl ?_
  refine lv_iload hx hb dL_lay_16 (lv_at hl 0 rfl) ?_
  refine z_lshl hx hb dL_lay_18 (by omega) ?_
  refine lv_ldc2 (v := -1) hx hb hown (hts (.constantLong RL 18 (-1)) (by decide +kernel)) dL_lay_19 ?_
  refine lv_lxor hx hb dL_lay_22 ?_
  refine lv_land hx hb dL_lay_23 ?_
  refine lv_iload_n hx hb dL_lay_24 rfl (lv_at hl 3 rfl) ?_
  refine lv_i2l (v := lN (x.toNatClampNeg)) hx hb dL_lay_25 ((congrArg Int32.toInt64 hx8.1).trans (nI_l (by omega))) ?_
  refine lv_iload hx hb dL_lay_26 (lv_at hl 0 rfl) ?_
  refine z_lshl hx hb dL_lay_28 (by omega) ?_
  refine lv_lor hx hb dL_lay_29 ?_
  refine z_topl (y := lN (zLn (upd f j x) n)) (zL_lay hk hj hx9) ?_
  exact hret _ _ _ dL_lay_30 (rfl)

set_option maxHeartbeats 4000000 in
set_option maxRecDepth 100000 in
theorem c_L_rolled (E : zEnv) {n : Nat} {f : Nat → Int32} (hn : zsz4 n) (hk : ∀ s, s < n → zk (f s)) : zRO E yL_rolled wsL_rolled 1 24 [.long (lN (zLn f n))] (fun _ => True) (some (.long (lN (zLn (zimg n f 1) n)))) := by
  refine zRO.ofL (maxL := 5) rfl (Nat.le_of_ble_eq_true rfl) (fun p e s m args below meth c H Q hF hP hret ls hl => ?_)
  have S : CallFix p m c cL_rolled 5 s args wsL_rolled RL := hF.1
  have hG := hF.2
  obtain ⟨hx, hb, hml, hown, hts⟩ := id S
  have hb4 := hn.b
  have hL := zLn_62 hb4.2.1 hk
  have hL7 := zLn_pos (f := f) n
  have hP := zl_p3 hb4.2.1
  have hD := zdi_lt hk
  have hl : lv_has ls 5 [(0, .long (lN (zLn f n)))] := hl
  refine lv_lload_n hx hb dL_rolled_0 rfl (lv_at hl 0 rfl) ?_
  refine z_roSX (As := [.long (lN (zLn f n))]) (rest := []) S hG (c_L_slots E hn hk) 1 gL_rolled_L_slots rfl kL_slots.2 ⟨Nat.le_of_ble_eq_true rfl, Nat.le_of_ble_eq_true rfl⟩ ⟨Nat.zero_le _, Nat.zero_le _⟩ (trivial) rfl hl.1 rfl rfl (Nat.le_of_ble_eq_true rfl) dL_rolled_1 ?_
  refine lv_istore_n (lv' := [(2, .int (nI (n))), (0, .long (lN (zLn f n)))]) hx hb dL_rolled_4 rfl hl (by decide) rfl (fun ls hl => ?_)
  refine lv_lload_n hx hb dL_rolled_5 rfl (lv_at hl 1 rfl) ?_
  refine lv_lconst (v := lN 1) hx hb dL_rolled_6 rfl ?_
  refine lv_iconst (v := nI (3)) hx hb dL_rolled_7 (by decide) ?_
  refine lv_iload_n hx hb dL_rolled_8 rfl (lv_at hl 0 rfl) ?_
  refine z_imul hx hb dL_rolled_9 ?_
  refine z_lshl hx hb dL_rolled_10 (by omega) ?_
  refine lv_lconst (v := lN 1) hx hb dL_rolled_11 rfl ?_
  refine z_lsub hx hb dL_rolled_12 (by omega) ?_
  refine z_land hx hb dL_rolled_13 ⟨by omega, by omega⟩ ?_
  refine z_topl (y := lN (zdi f n)) (zL_dig hk) ?_
  refine lv_lstore_n (lv' := [(3, .long (lN (zdi f n))), (2, .int (nI (n))), (0, .long (lN (zLn f n)))]) hx hb dL_rolled_14 rfl hl (by decide) rfl (fun ls hl => ?_)
  refine lv_ldc2 (v := 7) hx hb hown (hts (.constantLong RL 10 (7)) (by decide +kernel)) dL_rolled_15 ?_
  refine z_topl (y := lN 7) rfl ?_
  refine lv_iconst (v := nI (3)) hx hb dL_rolled_18 (by decide) ?_
  refine lv_iload_n hx hb dL_rolled_19 rfl (lv_at hl 1 rfl) ?_
  refine z_imul hx hb dL_rolled_20 ?_
  refine z_lshl hx hb dL_rolled_21 (by omega) ?_
  refine lv_lload_n hx hb dL_rolled_22 rfl (lv_at hl 0 rfl) ?_
  refine lv_ldc2 (v := 7) hx hb hown (hts (.constantLong RL 10 (7)) (by decide +kernel)) dL_rolled_23 ?_
  refine z_topl (y := lN 7) rfl ?_
  refine z_land hx hb dL_rolled_26 ⟨by omega, by decide⟩ ?_
  refine z_topl (y := lN (zdi f n % 8)) (zL_m8 _) ?_
  refine lv_iconst (v := nI (3)) hx hb dL_rolled_27 (by decide) ?_
  refine lv_iload_n hx hb dL_rolled_28 rfl (lv_at hl 1 rfl) ?_
  refine lv_iconst (v := nI (1)) hx hb dL_rolled_29 (by decide) ?_
  refine z_isub hx hb dL_rolled_30 (by omega) ?_
  refine z_imul hx hb dL_rolled_31 ?_
  refine z_lshl hx hb dL_rolled_32 (by omega) ?_
  refine z_lor hx hb dL_rolled_33 (zl_o1 hn hk) ?_
  refine lv_lload_n hx hb dL_rolled_34 rfl (lv_at hl 0 rfl) ?_
  refine lv_iconst (v := nI (3)) hx hb dL_rolled_35 (by decide) ?_
  refine z_lshr hx hb dL_rolled_36 ⟨by omega, by omega⟩ ?_
  refine z_lor hx hb dL_rolled_37 (zl_o2 hn hk) ?_
  refine z_topl (y := lN (zLn (zimg n f 1) n)) (zL_rolledN hn hk) ?_
  exact hret _ _ _ dL_rolled_38 (rfl)

set_option maxHeartbeats 4000000 in
set_option maxRecDepth 100000 in
theorem c_L_rolledBy (E : zEnv) {n : Nat} {f : Nat → Int32} {by9 : Nat} (hn : zsz4 n) (hk : ∀ s, s < n → zk (f s)) (hy : by9 < n) : zRO E yL_rolledBy wsL_rolledBy 2 48 [.long (lN (zLn f n)), .int (nI (by9))] (fun _ => True) (some (.long (lN (zLn (zimg n f by9) n)))) := by
  refine zRO.ofL (maxL := 6) rfl (Nat.le_of_ble_eq_true rfl) (fun p e s m args below meth c H Q hF hP hret ls hl => ?_)
  have S : CallFix p m c cL_rolledBy 6 s args wsL_rolledBy RL := hF.1
  have hG := hF.2
  obtain ⟨hx, hb, hml, hown, hts⟩ := id S
  have hb4 := hn.b
  have hL := zLn_62 hb4.2.1 hk
  have hL7 := zLn_pos (f := f) n
  have hl : lv_has ls 6 [(0, .long (lN (zLn f n))), (2, .int (nI (by9)))] := hl
  refine lv_lload_n hx hb dL_rolledBy_0 rfl (lv_at hl 0 rfl) ?_
  refine lv_lstore_n (lv' := [(3, .long (lN (zLn f n))), (0, .long (lN (zLn f n))), (2, .int (nI (by9)))]) hx hb dL_rolledBy_1 rfl hl (by decide) rfl (fun ls hl => ?_)
  refine lv_iconst (v := nI (0)) hx hb dL_rolledBy_2 (by decide) ?_
  refine lv_istore (lv' := [(5, .int (nI (0))), (3, .long (lN (zLn f n))), (0, .long (lN (zLn f n))), (2, .int (nI (by9)))]) hx hb dL_rolledBy_3 hl (by decide) rfl (fun ls hl => ?_)
  have L5 : ∀ (dd : Nat) (i : Nat), by9 - i < dd → (i ≤ by9) → ∀ (ls : Array Slot), lv_has ls 6 [(0, .long (lN (zLn f n))), (2, .int (nI (by9))), (3, .long (lN (zLn (zimg n f i) n))), (5, .int (nI (i)))] → W p (zl E) e (zRm 2 48) s m args below meth c H [] 0 0 Q (F0 m 5 ls []) := by
    intro dd
    induction dd with
    | zero => intro i hdd; exact absurd hdd (Nat.not_lt_zero _)
    | succ dd ih5 =>
      intro i hdd5 hi ls hl
      refine lv_iload hx hb dL_rolledBy_5 (lv_at hl 3 rfl) ?_
      refine lv_iload_n hx hb dL_rolledBy_7 rfl (lv_at hl 1 rfl) ?_
      refine z_cge (tgt := 22) hx hb dL_rolledBy_8 (by decide) ⟨by omega, by omega⟩ (fun c_1 => ?_) (fun c_1 => ?_)
      · refine lv_lload_n hx hb dL_rolledBy_22 rfl (lv_at hl 2 rfl) ?_
        exact hret _ _ _ dL_rolledBy_23 (by rw [show i = by9 by omega])
      · refine lv_lload_n hx hb dL_rolledBy_11 rfl (lv_at hl 2 rfl) ?_
        refine z_roSX (As := [.long (lN (zLn (zimg n f i) n))]) (rest := []) S hG (c_L_rolled E (f := zimg n f i) hn (zLn_k hb4.1 hk)) 1 gL_rolledBy_L_rolled rfl kL_rolled.2 ⟨Nat.le_of_ble_eq_true rfl, Nat.le_of_ble_eq_true rfl⟩ ⟨Nat.zero_le _, Nat.zero_le _⟩ (trivial) rfl hl.1 rfl rfl (Nat.le_of_ble_eq_true rfl) dL_rolledBy_12 ?_
        refine z_topl (y := lN (zLn (zimg n f (i + 1)) n)) (by rw [zL_1 (by omega)]) ?_
        refine lv_lstore_n (lv' := [(3, .long (lN (zLn (zimg n f (i + 1)) n))), (0, .long (lN (zLn f n))), (2, .int (nI (by9))), (5, .int (nI (i)))]) hx hb dL_rolledBy_15 rfl hl (by decide) rfl (fun ls hl => ?_)
        refine lv_iinc (v := nI (i + 1)) (lv' := [(5, .int (nI (i + 1))), (3, .long (lN (zLn (zimg n f (i + 1)) n))), (0, .long (lN (zLn f n))), (2, .int (nI (by9)))]) hx hb dL_rolledBy_16 hl (k := 3) rfl (z_inc1 _) (by decide) rfl (fun ls hl => ?_)
        refine lv_goto (tgt := 5) hx hb dL_rolledBy_19 (by decide) ?_
        have hl9 := lv_sub hl [2, 3, 1, 0] (l' := [(0, .long (lN (zLn f n))), (2, .int (nI (by9))), (3, .long (lN (zLn (zimg n f (i + 1)) n))), (5, .int (nI (i + 1)))]) rfl
        have e9_5 : (i + 1) = ((i + 1)) := by omega
        exact ih5 (i + 1) (by omega) (by omega) ls (by rw [← e9_5]; exact hl9)
  have hl : lv_has ls 6 [(5, .int (nI (0))), (3, .long (lN (zLn (zimg n f 0) n))), (0, .long (lN (zLn f n))), (2, .int (nI (by9)))] := by rw [← zL_0]; exact hl
  exact L5 ((by9 - (0)) + 1) (0) (Nat.lt_succ_self _) (Nat.zero_le _) ls (lv_sub hl [2, 3, 1, 0] rfl)

set_option maxHeartbeats 4000000 in
set_option maxRecDepth 100000 in
theorem c_L_mirrored (E : zEnv) {n : Nat} {f : Nat → Int32} (hn : zsz4 n) (hk : ∀ s, s < n → zk (f s)) : zRO E yL_mirrored wsL_mirrored 2 48 [.long (lN (zLn f n))] (fun _ => True) (some (.long (lN (zLn (zimg n f n) n)))) := by
  refine zRO.ofL (maxL := 6) rfl (Nat.le_of_ble_eq_true rfl) (fun p e s m args below meth c H Q hF hP hret ls hl => ?_)
  have S : CallFix p m c cL_mirrored 6 s args wsL_mirrored RL := hF.1
  have hG := hF.2
  obtain ⟨hx, hb, hml, hown, hts⟩ := id S
  have hb4 := hn.b
  have hL := zLn_62 hb4.2.1 hk
  have hL7 := zLn_pos (f := f) n
  have hl : lv_has ls 6 [(0, .long (lN (zLn f n)))] := hl
  refine lv_lload_n hx hb dL_mirrored_0 rfl (lv_at hl 0 rfl) ?_
  refine lv_lstore_n (lv' := [(2, .long (lN (zLn f n))), (0, .long (lN (zLn f n)))]) hx hb dL_mirrored_1 rfl hl (by decide) rfl (fun ls hl => ?_)
  refine lv_lload_n hx hb dL_mirrored_2 rfl (lv_at hl 1 rfl) ?_
  refine z_roSX (As := [.long (lN (zLn f n))]) (rest := []) S hG (c_L_slots E hn hk) 1 gL_mirrored_L_slots rfl kL_slots.2 ⟨Nat.le_of_ble_eq_true rfl, Nat.le_of_ble_eq_true rfl⟩ ⟨Nat.zero_le _, Nat.zero_le _⟩ (trivial) rfl hl.1 rfl rfl (Nat.le_of_ble_eq_true rfl) dL_mirrored_3 ?_
  refine lv_istore (lv' := [(4, .int (nI (n))), (2, .long (lN (zLn f n))), (0, .long (lN (zLn f n)))]) hx hb dL_mirrored_6 hl (by decide) rfl (fun ls hl => ?_)
  refine lv_iconst (v := nI (1)) hx hb dL_mirrored_8 (by decide) ?_
  refine lv_istore (lv' := [(5, .int (nI (1))), (4, .int (nI (n))), (2, .long (lN (zLn f n))), (0, .long (lN (zLn f n)))]) hx hb dL_mirrored_9 hl (by decide) rfl (fun ls hl => ?_)
  have L11 : ∀ (dd : Nat) (i : Nat), n - i < dd → (i ≤ n) → (1 ≤ i) → ∀ (ls : Array Slot), lv_has ls 6 [(0, .long (lN (zLn f n))), (2, .long (lN (zLn (zpm (zimg n f n) f i) n))), (4, .int (nI (n))), (5, .int (nI (i)))] → W p (zl E) e (zRm 2 48) s m args below meth c H [] 0 0 Q (F0 m 11 ls []) := by
    intro dd
    induction dd with
    | zero => intro i hdd; exact absurd hdd (Nat.not_lt_zero _)
    | succ dd ih11 =>
      intro i hdd11 hi hi1 ls hl
      refine lv_iload hx hb dL_mirrored_11 (lv_at hl 3 rfl) ?_
      refine lv_iload hx hb dL_mirrored_13 (lv_at hl 2 rfl) ?_
      refine z_cge (tgt := 40) hx hb dL_mirrored_15 (by decide) ⟨by omega, by omega⟩ (fun c_1 => ?_) (fun c_1 => ?_)
      · refine lv_lload_n hx hb dL_mirrored_40 rfl (lv_at hl 1 rfl) ?_
        exact hret _ _ _ dL_mirrored_41 (by rw [show i = n by omega, zL_pe])
      · refine lv_lload_n hx hb dL_mirrored_18 rfl (lv_at hl 1 rfl) ?_
        refine lv_iload hx hb dL_mirrored_19 (lv_at hl 3 rfl) ?_
        refine lv_lload_n hx hb dL_mirrored_21 rfl (lv_at hl 0 rfl) ?_
        refine lv_iload hx hb dL_mirrored_22 (lv_at hl 2 rfl) ?_
        refine lv_iload hx hb dL_mirrored_24 (lv_at hl 3 rfl) ?_
        refine z_isub hx hb dL_mirrored_26 (by omega) ?_
        refine z_roSX (As := [.long (lN (zLn f n)), .int (nI (n - i))]) (rest := [.int (nI (i)), .long (lN (zLn (zpm (zimg n f n) f i) n))]) S hG (c_L_kind E (j := n - i) hn hk (by omega)) 2 gL_mirrored_L_kind rfl kL_kind.2 ⟨Nat.le_of_ble_eq_true rfl, Nat.le_of_ble_eq_true rfl⟩ ⟨Nat.zero_le _, Nat.zero_le _⟩ (trivial) rfl hl.1 rfl rfl (Nat.le_of_ble_eq_true rfl) dL_mirrored_27 ?_
        refine z_roSX (As := [.long (lN (zLn (zpm (zimg n f n) f i) n)), .int (nI (i)), .int (f (n - i))]) (rest := []) S hG (c_L_lay E (f := zpm (zimg n f n) f i) (j := i) (x := f (n - i)) hn (zpm_k2 (zLn_k hb4.1 hk) hk) (by omega) (hk _ (by omega))) 3 gL_mirrored_L_lay rfl kL_lay.2 ⟨Nat.le_of_ble_eq_true rfl, Nat.le_of_ble_eq_true rfl⟩ ⟨Nat.zero_le _, Nat.zero_le _⟩ (trivial) rfl hl.1 rfl rfl (Nat.le_of_ble_eq_true rfl) dL_mirrored_30 ?_
        refine z_topl (y := lN (zLn (zpm (zimg n f n) f (i + 1)) n)) (by rw [← zimg_ms (n := n) (f := f) (s := i) (by omega) (by omega), zpm_s]) ?_
        refine lv_lstore_n (lv' := [(2, .long (lN (zLn (zpm (zimg n f n) f (i + 1)) n))), (0, .long (lN (zLn f n))), (4, .int (nI (n))), (5, .int (nI (i)))]) hx hb dL_mirrored_33 rfl hl (by decide) rfl (fun ls hl => ?_)
        refine lv_iinc (v := nI (i + 1)) (lv' := [(5, .int (nI (i + 1))), (2, .long (lN (zLn (zpm (zimg n f n) f (i + 1)) n))), (0, .long (lN (zLn f n))), (4, .int (nI (n)))]) hx hb dL_mirrored_34 hl (k := 3) rfl (z_inc1 _) (by decide) rfl (fun ls hl => ?_)
        refine lv_goto (tgt := 11) hx hb dL_mirrored_37 (by decide) ?_
        have hl9 := lv_sub hl [2, 1, 3, 0] (l' := [(0, .long (lN (zLn f n))), (2, .long (lN (zLn (zpm (zimg n f n) f (i + 1)) n))), (4, .int (nI (n))), (5, .int (nI (i + 1)))]) rfl
        have e9_5 : (i + 1) = ((i + 1)) := by omega
        exact ih11 (i + 1) (by omega) (by omega) (by omega) ls (by rw [← e9_5]; exact hl9)
  have hl : lv_has ls 6 [(5, .int (nI (1))), (4, .int (nI (n))), (2, .long (lN (zLn (zpm (zimg n f n) f 1) n))), (0, .long (lN (zLn f n)))] := by rw [← zL_p1 hb4.1]; exact hl
  exact L11 ((n - (1)) + 1) (1) (Nat.lt_succ_self _) (by omega) (Nat.le_refl _) ls (lv_sub hl [3, 2, 1, 0] rfl)

set_option maxHeartbeats 4000000 in
set_option maxRecDepth 100000 in
theorem c_L_image (E : zEnv) {n : Nat} {f : Nat → Int32} {lv ch : Nat} (hn : zsz4 n) (hk : ∀ s, s < n → zk (f s)) (hlv : lv ≤ 2) (hc : ch < znc lv n) : zRO E yL_image wsL_image 3 73 [.long (lN (zLn f n)), .int (nI (lv)), .int (nI (ch))] (fun _ => True) (some (.long (lN (zLn (zimg n f (zchg lv ch n)) n)))) := by
  refine zRO.ofL (maxL := 7) rfl (Nat.le_of_ble_eq_true rfl) (fun p e s m args below meth c H Q hF hP hret ls hl => ?_)
  have S : CallFix p m c cL_image 7 s args wsL_image RL := hF.1
  have hG := hF.2
  obtain ⟨hx, hb, hml, hown, hts⟩ := id S
  have hb4 := hn.b
  have hL := zLn_62 hb4.2.1 hk
  have hL7 := zLn_pos (f := f) n
  have hnc := znc_le (lv := lv) hb4.2.1
  have h00 : lv = 0 → ch < 4 ∧ ch * n ≤ 3 * n := fun e9 => (by unfold znc at hc; rw [if_pos e9] at hc; exact ⟨hc, Nat.mul_le_mul_right n (show ch ≤ 3 by omega)⟩)
  have h22 : ¬ lv = 0 → ch < 2 * n := fun e9 => (by unfold znc at hc; rw [if_neg e9] at hc; split at hc <;> omega)
  have hl : lv_has ls 7 [(0, .long (lN (zLn f n))), (2, .int (nI (lv))), (3, .int (nI (ch)))] := hl
  refine lv_lload_n hx hb dL_image_0 rfl (lv_at hl 0 rfl) ?_
  refine z_roSX (As := [.long (lN (zLn f n))]) (rest := []) S hG (c_L_slots E hn hk) 1 gL_image_L_slots rfl kL_slots.2 ⟨Nat.le_of_ble_eq_true rfl, Nat.le_of_ble_eq_true rfl⟩ ⟨Nat.zero_le _, Nat.zero_le _⟩ (trivial) rfl hl.1 rfl rfl (Nat.le_of_ble_eq_true rfl) dL_image_1 ?_
  refine lv_istore (lv' := [(4, .int (nI (n))), (0, .long (lN (zLn f n))), (2, .int (nI (lv))), (3, .int (nI (ch)))]) hx hb dL_image_4 hl (by decide) rfl (fun ls hl => ?_)
  refine lv_iload_n hx hb dL_image_6 rfl (lv_at hl 3 rfl) ?_
  refine lv_iload hx hb dL_image_7 (lv_at hl 0 rfl) ?_
  refine z_clt (tgt := 19) hx hb dL_image_9 (by decide) ⟨by omega, by omega⟩ (fun c_1 => ?_) (fun c_1 => ?_)
  · refine lv_lload_n hx hb dL_image_19 rfl (lv_at hl 1 rfl) ?_
    refine lv_lstore (lv' := [(5, .long (lN (zLn f n))), (4, .int (nI (n))), (0, .long (lN (zLn f n))), (2, .int (nI (lv))), (3, .int (nI (ch)))]) hx hb dL_image_20 hl (by decide) rfl (fun ls hl => ?_)
    refine lv_lload hx hb dL_image_22 (lv_at hl 0 rfl) ?_
    refine lv_iload_n hx hb dL_image_24 rfl (lv_at hl 3 rfl) ?_
    refine z_fne (tgt := 37) hx hb dL_image_25 (by decide) (by omega) (fun c_2 => ?_) (fun c_2 => ?_)
    · have h9 := h22 c_2
      have h8 := Nat.mod_lt ch hb4.1
      refine lv_iload_n hx hb dL_image_37 rfl (lv_at hl 4 rfl) ?_
      refine lv_iload hx hb dL_image_38 (lv_at hl 1 rfl) ?_
      refine z_irem hx hb dL_image_40 ⟨by omega, by omega, by omega⟩ ?_
      refine z_roSX (As := [.long (lN (zLn f n)), .int (nI (ch % n))]) (rest := []) S hG (c_L_rolledBy E (f := f) (by9 := ch % n) hn hk (by omega)) 2 gL_image_L_rolledBy rfl kL_rolledBy.2 ⟨Nat.le_of_ble_eq_true rfl, Nat.le_of_ble_eq_true rfl⟩ ⟨Nat.zero_le _, Nat.zero_le _⟩ (trivial) rfl hl.1 rfl rfl (Nat.le_of_ble_eq_true rfl) dL_image_41 ?_
      exact hret _ _ _ dL_image_44 (by first | (rw [zchg_0 (lv := lv) (i := ch) (n := n) (by omega)]) | (rw [zchg_1 (lv := lv) (i := ch) (n := n) (by omega), zL_mr (by omega) (by omega)]) | (rw [zchg_1 (lv := lv) (i := ch) (n := n) (by omega), Nat.mod_eq_of_lt (by omega)]) | (exfalso; omega))
    · have h9 := h00 c_2
      refine lv_iload_n hx hb dL_image_28 rfl (lv_at hl 4 rfl) ?_
      refine lv_iload hx hb dL_image_29 (lv_at hl 1 rfl) ?_
      refine z_imul hx hb dL_image_31 ?_
      refine lv_iconst (v := nI (4)) hx hb dL_image_32 (by decide) ?_
      refine z_idiv hx hb dL_image_33 ⟨by omega, by decide, by decide⟩ ?_
      refine lv_goto (tgt := 41) hx hb dL_image_34 (by decide) ?_
      refine z_roSX (As := [.long (lN (zLn f n)), .int (nI ((ch * n) / 4))]) (rest := []) S hG (c_L_rolledBy E (f := f) (by9 := (ch * n) / 4) hn hk (by omega)) 2 gL_image_L_rolledBy rfl kL_rolledBy.2 ⟨Nat.le_of_ble_eq_true rfl, Nat.le_of_ble_eq_true rfl⟩ ⟨Nat.zero_le _, Nat.zero_le _⟩ (trivial) rfl hl.1 rfl rfl (Nat.le_of_ble_eq_true rfl) dL_image_41 ?_
      exact hret _ _ _ dL_image_44 (by first | (rw [zchg_0 (lv := lv) (i := ch) (n := n) (by omega)]) | (rw [zchg_1 (lv := lv) (i := ch) (n := n) (by omega), zL_mr (by omega) (by omega)]) | (rw [zchg_1 (lv := lv) (i := ch) (n := n) (by omega), Nat.mod_eq_of_lt (by omega)]) | (exfalso; omega))
  · refine lv_lload_n hx hb dL_image_12 rfl (lv_at hl 1 rfl) ?_
    refine z_roSX (As := [.long (lN (zLn f n))]) (rest := []) S hG (c_L_mirrored E hn hk) 1 gL_image_L_mirrored rfl kL_mirrored.2 ⟨Nat.le_of_ble_eq_true rfl, Nat.le_of_ble_eq_true rfl⟩ ⟨Nat.zero_le _, Nat.zero_le _⟩ (trivial) rfl hl.1 rfl rfl (Nat.le_of_ble_eq_true rfl) dL_image_13 ?_
    refine lv_goto (tgt := 20) hx hb dL_image_16 (by decide) ?_
    refine lv_lstore (lv' := [(5, .long (lN (zLn (zimg n f n) n))), (4, .int (nI (n))), (0, .long (lN (zLn f n))), (2, .int (nI (lv))), (3, .int (nI (ch)))]) hx hb dL_image_20 hl (by decide) rfl (fun ls hl => ?_)
    refine lv_lload hx hb dL_image_22 (lv_at hl 0 rfl) ?_
    refine lv_iload_n hx hb dL_image_24 rfl (lv_at hl 3 rfl) ?_
    refine z_fne (tgt := 37) hx hb dL_image_25 (by decide) (by omega) (fun c_3 => ?_) (fun c_3 => by exfalso; have h9 := h00 c_3; omega)
    have h9 := h22 c_3
    have h8 := Nat.mod_lt ch hb4.1
    refine lv_iload_n hx hb dL_image_37 rfl (lv_at hl 4 rfl) ?_
    refine lv_iload hx hb dL_image_38 (lv_at hl 1 rfl) ?_
    refine z_irem hx hb dL_image_40 ⟨by omega, by omega, by omega⟩ ?_
    refine z_roSX (As := [.long (lN (zLn (zimg n f n) n)), .int (nI (ch % n))]) (rest := []) S hG (c_L_rolledBy E (f := zimg n f n) (by9 := ch % n) hn (zLn_k hb4.1 hk) (by omega)) 2 gL_image_L_rolledBy rfl kL_rolledBy.2 ⟨Nat.le_of_ble_eq_true rfl, Nat.le_of_ble_eq_true rfl⟩ ⟨Nat.zero_le _, Nat.zero_le _⟩ (trivial) rfl hl.1 rfl rfl (Nat.le_of_ble_eq_true rfl) dL_image_41 ?_
    exact hret _ _ _ dL_image_44 (by first | (rw [zchg_0 (lv := lv) (i := ch) (n := n) (by omega)]) | (rw [zchg_1 (lv := lv) (i := ch) (n := n) (by omega), zL_mr (by omega) (by omega)]) | (rw [zchg_1 (lv := lv) (i := ch) (n := n) (by omega), Nat.mod_eq_of_lt (by omega)]) | (exfalso; omega))

set_option maxHeartbeats 4000000 in
set_option maxRecDepth 100000 in
theorem c_L_changes (E : zEnv) {n : Nat} {f : Nat → Int32} {lv : Nat} (hn : zsz4 n) (hk : ∀ s, s < n → zk (f s)) (hlv : lv ≤ 2) : zRO E yL_changes wsL_changes 1 24 [.long (lN (zLn f n)), .int (nI (lv))] (fun _ => True) (some (.int (nI (znc lv n)))) := by
  refine zRO.ofI (maxL := 3) rfl (Nat.le_of_ble_eq_true rfl) (fun p e s m args below meth c H Q hF hP hret ls hl => ?_)
  have S : CallFix p m c cL_changes 3 s args wsL_changes RL := hF.1
  have hG := hF.2
  obtain ⟨hx, hb, hml, hown, hts⟩ := id S
  have hb4 := hn.b
  have hL := zLn_62 hb4.2.1 hk
  have hL7 := zLn_pos (f := f) n
  have hl : lv_has ls 3 [(0, .long (lN (zLn f n))), (2, .int (nI (lv)))] := hl
  refine lv_iload_n hx hb dL_changes_0 rfl (lv_at hl 1 rfl) ?_
  refine z_fne (tgt := 8) hx hb dL_changes_1 (by decide) (by omega) (fun c_1 => ?_) (fun c_1 => ?_)
  · refine lv_iload_n hx hb dL_changes_8 rfl (lv_at hl 1 rfl) ?_
    refine lv_iconst (v := nI (1)) hx hb dL_changes_9 (by decide) ?_
    refine z_cne (tgt := 20) hx hb dL_changes_10 (by decide) ⟨by omega, by omega⟩ (fun c_2 => ?_) (fun c_2 => ?_)
    · refine lv_iconst (v := nI (2)) hx hb dL_changes_20 (by decide) ?_
      refine lv_lload_n hx hb dL_changes_21 rfl (lv_at hl 0 rfl) ?_
      refine z_roSX (As := [.long (lN (zLn f n))]) (rest := [.int (nI (2))]) S hG (c_L_slots E hn hk) 1 gL_changes_L_slots rfl kL_slots.2 ⟨Nat.le_of_ble_eq_true rfl, Nat.le_of_ble_eq_true rfl⟩ ⟨Nat.zero_le _, Nat.zero_le _⟩ (trivial) rfl hl.1 rfl rfl (Nat.le_of_ble_eq_true rfl) dL_changes_22 ?_
      refine z_imul hx hb dL_changes_25 ?_
      exact hret _ _ _ dL_changes_26 (by rw [← znc_2 (by omega) (by omega)])
    · refine lv_lload_n hx hb dL_changes_13 rfl (lv_at hl 0 rfl) ?_
      refine z_roSX (As := [.long (lN (zLn f n))]) (rest := []) S hG (c_L_slots E hn hk) 1 gL_changes_L_slots rfl kL_slots.2 ⟨Nat.le_of_ble_eq_true rfl, Nat.le_of_ble_eq_true rfl⟩ ⟨Nat.zero_le _, Nat.zero_le _⟩ (trivial) rfl hl.1 rfl rfl (Nat.le_of_ble_eq_true rfl) dL_changes_14 ?_
      refine lv_goto (tgt := 26) hx hb dL_changes_17 (by decide) ?_
      exact hret _ _ _ dL_changes_26 (by rw [← znc_1 (by omega)])
  · refine lv_iconst (v := nI (4)) hx hb dL_changes_4 (by decide) ?_
    refine lv_goto (tgt := 26) hx hb dL_changes_5 (by decide) ?_
    exact hret _ _ _ dL_changes_26 (by rw [← znc_0 c_1])

set_option maxHeartbeats 4000000 in
set_option maxRecDepth 100000 in
theorem c_L_least (E : zEnv) {n : Nat} {f : Nat → Int32} {lv : Nat} (hn : zsz4 n) (hk : ∀ s, s < n → zk (f s)) (hlv : lv ≤ 2) : zRO E yL_least wsL_least 4 99 [.long (lN (zLn f n)), .int (nI (lv))] (fun _ => True) (some (.long (lN (zLe lv n f)))) := by
  refine zRO.ofL (maxL := 8) rfl (Nat.le_of_ble_eq_true rfl) (fun p e s m args below meth c H Q hF hP hret ls hl => ?_)
  have S : CallFix p m c cL_least 8 s args wsL_least RL := hF.1
  have hG := hF.2
  obtain ⟨hx, hb, hml, hown, hts⟩ := id S
  have hb4 := hn.b
  have hL := zLn_62 hb4.2.1 hk
  have hL7 := zLn_pos (f := f) n
  have hnc := znc_le (lv := lv) hb4.2.1
  have hl : lv_has ls 8 [(0, .long (lN (zLn f n))), (2, .int (nI (lv)))] := hl
  refine lv_lload_n hx hb dL_least_0 rfl (lv_at hl 0 rfl) ?_
  refine lv_lstore_n (lv' := [(3, .long (lN (zLn f n))), (0, .long (lN (zLn f n))), (2, .int (nI (lv)))]) hx hb dL_least_1 rfl hl (by decide) rfl (fun ls hl => ?_)
  refine lv_iconst (v := nI (0)) hx hb dL_least_2 (by decide) ?_
  refine lv_istore (lv' := [(5, .int (nI (0))), (3, .long (lN (zLn f n))), (0, .long (lN (zLn f n))), (2, .int (nI (lv)))]) hx hb dL_least_3 hl (by decide) rfl (fun ls hl => ?_)
  have L5 : ∀ (dd : Nat) (i : Nat), znc lv n - i < dd → (i ≤ znc lv n) → ∀ (ls : Array Slot), lv_has ls 8 [(0, .long (lN (zLn f n))), (2, .int (nI (lv))), (3, .long (lN (zLn (zimg n f (zchg lv (zli n f lv i) n)) n))), (5, .int (nI (i)))] → W p (zl E) e (zRm 4 99) s m args below meth c H [] 0 0 Q (F0 m 5 ls []) := by
    intro dd
    induction dd with
    | zero => intro i hdd; exact absurd hdd (Nat.not_lt_zero _)
    | succ dd ih5 =>
      intro i hdd5 hi ls hl
      refine lv_iload hx hb dL_least_5 (lv_at hl 3 rfl) ?_
      refine lv_lload_n hx hb dL_least_7 rfl (lv_at hl 0 rfl) ?_
      refine lv_iload_n hx hb dL_least_8 rfl (lv_at hl 1 rfl) ?_
      refine z_roSX (As := [.long (lN (zLn f n)), .int (nI (lv))]) (rest := [.int (nI (i))]) S hG (c_L_changes E hn hk hlv) 2 gL_least_L_changes rfl kL_changes.2 ⟨Nat.le_of_ble_eq_true rfl, Nat.le_of_ble_eq_true rfl⟩ ⟨Nat.zero_le _, Nat.zero_le _⟩ (trivial) rfl hl.1 rfl rfl (Nat.le_of_ble_eq_true rfl) dL_least_9 ?_
      refine z_cge (tgt := 44) hx hb dL_least_12 (by decide) ⟨by omega, by omega⟩ (fun c_1 => ?_) (fun c_1 => ?_)
      · refine lv_lload_n hx hb dL_least_44 rfl (lv_at hl 2 rfl) ?_
        exact hret _ _ _ dL_least_45 (by rw [show i = znc lv n by omega]; rfl)
      · refine lv_lload_n hx hb dL_least_15 rfl (lv_at hl 0 rfl) ?_
        refine lv_iload_n hx hb dL_least_16 rfl (lv_at hl 1 rfl) ?_
        refine lv_iload hx hb dL_least_17 (lv_at hl 3 rfl) ?_
        refine z_roSX (As := [.long (lN (zLn f n)), .int (nI (lv)), .int (nI (i))]) (rest := []) S hG (c_L_image E (lv := lv) (ch := i) hn hk hlv (by omega)) 3 gL_least_L_image rfl kL_image.2 ⟨Nat.le_of_ble_eq_true rfl, Nat.le_of_ble_eq_true rfl⟩ ⟨Nat.zero_le _, Nat.zero_le _⟩ (trivial) rfl hl.1 rfl rfl (Nat.le_of_ble_eq_true rfl) dL_least_19 ?_
        refine lv_lstore (lv' := [(6, .long (lN (zLn (zimg n f (zchg lv i n)) n))), (0, .long (lN (zLn f n))), (2, .int (nI (lv))), (3, .long (lN (zLn (zimg n f (zchg lv (zli n f lv i) n)) n))), (5, .int (nI (i)))]) hx hb dL_least_22 hl (by decide) rfl (fun ls hl => ?_)
        refine lv_lload hx hb dL_least_24 (lv_at hl 0 rfl) ?_
        refine lv_lload_n hx hb dL_least_26 rfl (lv_at hl 3 rfl) ?_
        refine W.lcmp hx hb dL_least_27 ?_
        refine z_lge (tgt := 36) hx hb dL_least_28 (by decide) ⟨by have h9 := zLn_62 (f := zimg n f (zchg lv i n)) hb4.2.1 (zLn_k hb4.1 hk); omega, by have h9 := zLn_62 (f := zimg n f (zchg lv (zli n f lv i) n)) hb4.2.1 (zLn_k hb4.1 hk); omega⟩ (fun c_2 => ?_) (fun c_2 => ?_)
        · refine lv_lload_n hx hb dL_least_36 rfl (lv_at hl 3 rfl) ?_
          refine lv_lstore_n (lv' := [(3, .long (lN (zLn (zimg n f (zchg lv (zli n f lv i) n)) n))), (6, .long (lN (zLn (zimg n f (zchg lv i n)) n))), (0, .long (lN (zLn f n))), (2, .int (nI (lv))), (5, .int (nI (i)))]) hx hb dL_least_37 rfl hl (by decide) rfl (fun ls hl => ?_)
          refine lv_iinc (v := nI (i + 1)) (lv' := [(5, .int (nI (i + 1))), (3, .long (lN (zLn (zimg n f (zchg lv (zli n f lv i) n)) n))), (6, .long (lN (zLn (zimg n f (zchg lv i n)) n))), (0, .long (lN (zLn f n))), (2, .int (nI (lv)))]) hx hb dL_least_38 hl (k := 4) rfl (z_inc1 _) (by decide) rfl (fun ls hl => ?_)
          refine lv_goto (tgt := 5) hx hb dL_least_41 (by decide) ?_
          have hl9 := lv_sub hl [3, 4, 1, 0] (l' := [(0, .long (lN (zLn f n))), (2, .int (nI (lv))), (3, .long (lN (zLn (zimg n f (zchg lv (zli n f lv i) n)) n))), (5, .int (nI (i + 1)))]) rfl
          have e9_3 : (zLn (zimg n f (zchg lv (zli n f lv i) n)) n) = (zLn (zimg n f (zchg lv (zli n f lv (i + 1)) n)) n) := zL_lf (zlt_nf (fun q => absurd ((zlt_L hb4.1 hk).mpr q) (Nat.not_lt.mpr c_2)))
          have e9_5 : (i + 1) = ((i + 1)) := by omega
          exact ih5 (i + 1) (by omega) (by omega) ls (by rw [← e9_3, ← e9_5]; exact hl9)
        · refine lv_lload hx hb dL_least_31 (lv_at hl 0 rfl) ?_
          refine lv_goto (tgt := 37) hx hb dL_least_33 (by decide) ?_
          refine lv_lstore_n (lv' := [(3, .long (lN (zLn (zimg n f (zchg lv i n)) n))), (6, .long (lN (zLn (zimg n f (zchg lv i n)) n))), (0, .long (lN (zLn f n))), (2, .int (nI (lv))), (5, .int (nI (i)))]) hx hb dL_least_37 rfl hl (by decide) rfl (fun ls hl => ?_)
          refine lv_iinc (v := nI (i + 1)) (lv' := [(5, .int (nI (i + 1))), (3, .long (lN (zLn (zimg n f (zchg lv i n)) n))), (6, .long (lN (zLn (zimg n f (zchg lv i n)) n))), (0, .long (lN (zLn f n))), (2, .int (nI (lv)))]) hx hb dL_least_38 hl (k := 4) rfl (z_inc1 _) (by decide) rfl (fun ls hl => ?_)
          refine lv_goto (tgt := 5) hx hb dL_least_41 (by decide) ?_
          have hl9 := lv_sub hl [3, 4, 1, 0] (l' := [(0, .long (lN (zLn f n))), (2, .int (nI (lv))), (3, .long (lN (zLn (zimg n f (zchg lv i n)) n))), (5, .int (nI (i + 1)))]) rfl
          have e9_3 : (zLn (zimg n f (zchg lv i n)) n) = (zLn (zimg n f (zchg lv (zli n f lv (i + 1)) n)) n) := zL_li ((zlt_L hb4.1 hk).mp c_2)
          have e9_5 : (i + 1) = ((i + 1)) := by omega
          exact ih5 (i + 1) (by omega) (by omega) ls (by rw [← e9_3, ← e9_5]; exact hl9)
  have hl : lv_has ls 8 [(5, .int (nI (0))), (3, .long (lN (zLn (zimg n f (zchg lv (zli n f lv 0) n)) n))), (0, .long (lN (zLn f n))), (2, .int (nI (lv)))] := by rw [zli_0, ← zL_0]; exact hl
  exact L5 ((znc lv n - (0)) + 1) (0) (Nat.lt_succ_self _) (Nat.zero_le _) ls (lv_sub hl [2, 3, 1, 0] rfl)

set_option maxHeartbeats 4000000 in
set_option maxRecDepth 100000 in
theorem c_L_stays (E : zEnv) {n : Nat} {f : Nat → Int32} {lv : Nat} (hn : zsz4 n) (hk : ∀ s, s < n → zk (f s)) (hlv : lv ≤ 2) : zRO E yL_stays wsL_stays 4 99 [.long (lN (zLn f n)), .int (nI (lv))] (fun _ => True) (some (.int (nI (zfx n f lv (znc lv n))))) := by
  refine zRO.ofI (maxL := 5) rfl (Nat.le_of_ble_eq_true rfl) (fun p e s m args below meth c H Q hF hP hret ls hl => ?_)
  have S : CallFix p m c cL_stays 5 s args wsL_stays RL := hF.1
  have hG := hF.2
  obtain ⟨hx, hb, hml, hown, hts⟩ := id S
  have hb4 := hn.b
  have hL := zLn_62 hb4.2.1 hk
  have hL7 := zLn_pos (f := f) n
  have hnc := znc_le (lv := lv) hb4.2.1
  have hl : lv_has ls 5 [(0, .long (lN (zLn f n))), (2, .int (nI (lv)))] := hl
  refine lv_iconst (v := nI (0)) hx hb dL_stays_0 (by decide) ?_
  refine lv_istore_n (lv' := [(3, .int (nI (0))), (0, .long (lN (zLn f n))), (2, .int (nI (lv)))]) hx hb dL_stays_1 rfl hl (by decide) rfl (fun ls hl => ?_)
  refine lv_iconst (v := nI (0)) hx hb dL_stays_2 (by decide) ?_
  refine lv_istore (lv' := [(4, .int (nI (0))), (3, .int (nI (0))), (0, .long (lN (zLn f n))), (2, .int (nI (lv)))]) hx hb dL_stays_3 hl (by decide) rfl (fun ls hl => ?_)
  have L5 : ∀ (dd : Nat) (i : Nat), znc lv n - i < dd → (i ≤ znc lv n) → ∀ (ls : Array Slot), lv_has ls 5 [(0, .long (lN (zLn f n))), (2, .int (nI (lv))), (3, .int (nI (zfx n f lv i))), (4, .int (nI (i)))] → W p (zl E) e (zRm 4 99) s m args below meth c H [] 0 0 Q (F0 m 5 ls []) := by
    intro dd
    induction dd with
    | zero => intro i hdd; exact absurd hdd (Nat.not_lt_zero _)
    | succ dd ih5 =>
      intro i hdd5 hi ls hl
      refine lv_iload hx hb dL_stays_5 (lv_at hl 3 rfl) ?_
      refine lv_lload_n hx hb dL_stays_7 rfl (lv_at hl 0 rfl) ?_
      refine lv_iload_n hx hb dL_stays_8 rfl (lv_at hl 1 rfl) ?_
      refine z_roSX (As := [.long (lN (zLn f n)), .int (nI (lv))]) (rest := [.int (nI (i))]) S hG (c_L_changes E hn hk hlv) 2 gL_stays_L_changes rfl kL_changes.2 ⟨Nat.le_of_ble_eq_true rfl, Nat.le_of_ble_eq_true rfl⟩ ⟨Nat.zero_le _, Nat.zero_le _⟩ (trivial) rfl hl.1 rfl rfl (Nat.le_of_ble_eq_true rfl) dL_stays_9 ?_
      refine z_cge (tgt := 41) hx hb dL_stays_12 (by decide) ⟨by omega, by omega⟩ (fun c_1 => ?_) (fun c_1 => ?_)
      · refine lv_iload_n hx hb dL_stays_41 rfl (lv_at hl 2 rfl) ?_
        exact hret _ _ _ dL_stays_42 (by rw [show i = znc lv n by omega])
      · refine lv_iload_n hx hb dL_stays_15 rfl (lv_at hl 2 rfl) ?_
        refine lv_lload_n hx hb dL_stays_16 rfl (lv_at hl 0 rfl) ?_
        refine lv_iload_n hx hb dL_stays_17 rfl (lv_at hl 1 rfl) ?_
        refine lv_iload hx hb dL_stays_18 (lv_at hl 3 rfl) ?_
        refine z_roSX (As := [.long (lN (zLn f n)), .int (nI (lv)), .int (nI (i))]) (rest := [.int (nI (zfx n f lv i))]) S hG (c_L_image E (lv := lv) (ch := i) hn hk hlv (by omega)) 3 gL_stays_L_image rfl kL_image.2 ⟨Nat.le_of_ble_eq_true rfl, Nat.le_of_ble_eq_true rfl⟩ ⟨Nat.zero_le _, Nat.zero_le _⟩ (trivial) rfl hl.1 rfl rfl (Nat.le_of_ble_eq_true rfl) dL_stays_20 ?_
        refine lv_lload_n hx hb dL_stays_23 rfl (lv_at hl 0 rfl) ?_
        refine W.lcmp hx hb dL_stays_24 ?_
        refine z_lne (tgt := 32) hx hb dL_stays_25 (by decide) ⟨by have h9 := zLn_62 (f := zimg n f (zchg lv i n)) hb4.2.1 (zLn_k hb4.1 hk); omega, by omega⟩ (fun c_2 => ?_) (fun c_2 => ?_)
        · refine lv_iconst (v := nI (0)) hx hb dL_stays_32 (by decide) ?_
          refine z_iadd hx hb dL_stays_33 ?_
          refine lv_istore_n (lv' := [(3, .int (nI ((zfx n f lv i) + 0))), (0, .long (lN (zLn f n))), (2, .int (nI (lv))), (4, .int (nI (i)))]) hx hb dL_stays_34 rfl hl (by decide) rfl (fun ls hl => ?_)
          refine lv_iinc (v := nI (i + 1)) (lv' := [(4, .int (nI (i + 1))), (3, .int (nI ((zfx n f lv i) + 0))), (0, .long (lN (zLn f n))), (2, .int (nI (lv)))]) hx hb dL_stays_35 hl (k := 3) rfl (z_inc1 _) (by decide) rfl (fun ls hl => ?_)
          refine lv_goto (tgt := 5) hx hb dL_stays_38 (by decide) ?_
          have hl9 := lv_sub hl [2, 3, 1, 0] (l' := [(0, .long (lN (zLn f n))), (2, .int (nI (lv))), (3, .int (nI ((zfx n f lv i) + 0))), (4, .int (nI (i + 1)))]) rfl
          have e9_3 : ((zfx n f lv i) + 0) = (zfx n f lv (i + 1)) := by first | exact zct_t (decide_eq_true ((zdf_0 hb4.1 hk).mp c_2)) | exact zct_f (decide_eq_false (fun q => c_2 ((zdf_0 hb4.1 hk).mpr q)))
          have e9_4 : (i + 1) = ((i + 1)) := by omega
          exact ih5 (i + 1) (by omega) (by omega) ls (by rw [← e9_3, ← e9_4]; exact hl9)
        · refine lv_iconst (v := nI (1)) hx hb dL_stays_28 (by decide) ?_
          refine lv_goto (tgt := 33) hx hb dL_stays_29 (by decide) ?_
          refine z_iadd hx hb dL_stays_33 ?_
          refine lv_istore_n (lv' := [(3, .int (nI ((zfx n f lv i) + 1))), (0, .long (lN (zLn f n))), (2, .int (nI (lv))), (4, .int (nI (i)))]) hx hb dL_stays_34 rfl hl (by decide) rfl (fun ls hl => ?_)
          refine lv_iinc (v := nI (i + 1)) (lv' := [(4, .int (nI (i + 1))), (3, .int (nI ((zfx n f lv i) + 1))), (0, .long (lN (zLn f n))), (2, .int (nI (lv)))]) hx hb dL_stays_35 hl (k := 3) rfl (z_inc1 _) (by decide) rfl (fun ls hl => ?_)
          refine lv_goto (tgt := 5) hx hb dL_stays_38 (by decide) ?_
          have hl9 := lv_sub hl [2, 3, 1, 0] (l' := [(0, .long (lN (zLn f n))), (2, .int (nI (lv))), (3, .int (nI ((zfx n f lv i) + 1))), (4, .int (nI (i + 1)))]) rfl
          have e9_3 : ((zfx n f lv i) + 1) = (zfx n f lv (i + 1)) := by first | exact zct_t (decide_eq_true ((zdf_0 hb4.1 hk).mp c_2)) | exact zct_f (decide_eq_false (fun q => c_2 ((zdf_0 hb4.1 hk).mpr q)))
          have e9_4 : (i + 1) = ((i + 1)) := by omega
          exact ih5 (i + 1) (by omega) (by omega) ls (by rw [← e9_3, ← e9_4]; exact hl9)
  exact L5 ((znc lv n - (0)) + 1) (0) (Nat.lt_succ_self _) (Nat.zero_le _) ls (lv_sub hl [2, 3, 1, 0] rfl)

set_option maxHeartbeats 4000000 in
set_option maxRecDepth 100000 in
theorem c_L_weight (E : zEnv) {a : Nat} {bb : Nat → Int32} {n : Nat} {f : Nat → Int32} {fa tt : Nat} (hn : zsz4 n) (hk : ∀ s, s < n → zk (f s)) (hft : fa ≤ tt ∧ tt ≤ n) : zRO E yL_weight wsL_weight 2 46 [.ref (a), .long (lN (zLn f n)), .int (nI (fa)), .int (nI (tt))] (fun H => zat E a (.inl (zI E, 10, .inl bb)) H) (some (.int (zqs (fun k9 => bb (4 + k9)) f fa (tt - fa)))) := by
  refine zRO.ofI (maxL := 7) rfl (Nat.le_of_ble_eq_true rfl) (fun p e s m args below meth c H Q hF hP hret ls hl => ?_)
  have S : CallFix p m c cL_weight 7 s args wsL_weight RL := hF.1
  have hG := hF.2
  obtain ⟨hx, hb, hml, hown, hts⟩ := id S
  have hb4 := hn.b
  have hL := zLn_62 hb4.2.1 hk
  have hL7 := zLn_pos (f := f) n
  have hl : lv_has ls 7 [(0, .ref (a)), (1, .long (lN (zLn f n))), (3, .int (nI (fa))), (4, .int (nI (tt)))] := hl
  refine lv_iconst (v := nI (0)) hx hb dL_weight_0 (by decide) ?_
  refine lv_istore (lv' := [(5, .int (nI (0))), (0, .ref (a)), (1, .long (lN (zLn f n))), (3, .int (nI (fa))), (4, .int (nI (tt)))]) hx hb dL_weight_1 hl (by decide) rfl (fun ls hl => ?_)
  refine lv_iload_n hx hb dL_weight_3 rfl (lv_at hl 3 rfl) ?_
  refine lv_istore (lv' := [(6, .int (nI (fa))), (5, .int (nI (0))), (0, .ref (a)), (1, .long (lN (zLn f n))), (3, .int (nI (fa))), (4, .int (nI (tt)))]) hx hb dL_weight_4 hl (by decide) rfl (fun ls hl => ?_)
  have L6 : ∀ (dd : Nat) (j : Nat), tt - (fa + j) < dd → (fa + j ≤ tt) → ∀ (ls : Array Slot), lv_has ls 7 [(0, .ref (a)), (1, .long (lN (zLn f n))), (3, .int (nI (fa))), (4, .int (nI (tt))), (5, .int (zqs (fun k9 => bb (4 + k9)) f fa j)), (6, .int (nI (fa + j)))] → W p (zl E) e (zRm 2 46) s m args below meth c H [] 0 0 Q (F0 m 6 ls []) := by
    intro dd
    induction dd with
    | zero => intro j hdd; exact absurd hdd (Nat.not_lt_zero _)
    | succ dd ih6 =>
      intro j hdd6 hj ls hl
      refine lv_iload hx hb dL_weight_6 (lv_at hl 5 rfl) ?_
      refine lv_iload hx hb dL_weight_8 (lv_at hl 3 rfl) ?_
      refine z_cge (tgt := 47) hx hb dL_weight_10 (by decide) ⟨by omega, by omega⟩ (fun c_1 => ?_) (fun c_1 => ?_)
      · refine lv_iload hx hb dL_weight_47 (lv_at hl 4 rfl) ?_
        exact hret _ _ _ dL_weight_49 (by rw [show tt - fa = j by omega])
      · refine lv_iload hx hb dL_weight_13 (lv_at hl 4 rfl) ?_
        refine lv_lload_n hx hb dL_weight_15 rfl (lv_at hl 1 rfl) ?_
        refine lv_iload hx hb dL_weight_16 (lv_at hl 5 rfl) ?_
        refine z_roSX (As := [.long (lN (zLn f n)), .int (nI (fa + j))]) (rest := [.int (zqs (fun k9 => bb (4 + k9)) f fa j)]) S hG (c_L_kind E (j := fa + j) hn hk (by omega)) 2 gL_weight_L_kind rfl kL_kind.2 ⟨Nat.le_of_ble_eq_true rfl, Nat.le_of_ble_eq_true rfl⟩ ⟨Nat.zero_le _, Nat.zero_le _⟩ (trivial) rfl hl.1 rfl rfl (Nat.le_of_ble_eq_true rfl) dL_weight_18 ?_
        refine lv_if_ne (tgt := 28) hx hb dL_weight_21 (by decide) (fun c_2 => ?_) (fun c_2 => ?_)
        · refine lv_aload_n hx hb dL_weight_28 rfl (lv_at hl 0 rfl) ?_
          refine lv_iconst (v := nI (4)) hx hb dL_weight_29 (by decide) ?_
          refine lv_lload_n hx hb dL_weight_30 rfl (lv_at hl 1 rfl) ?_
          refine lv_iload hx hb dL_weight_31 (lv_at hl 5 rfl) ?_
          refine z_roSX (As := [.long (lN (zLn f n)), .int (nI (fa + j))]) (rest := [.int (nI (4)), .ref (a), .int (zqs (fun k9 => bb (4 + k9)) f fa j)]) S hG (c_L_kind E (j := fa + j) hn hk (by omega)) 2 gL_weight_L_kind rfl kL_kind.2 ⟨Nat.le_of_ble_eq_true rfl, Nat.le_of_ble_eq_true rfl⟩ ⟨Nat.zero_le _, Nat.zero_le _⟩ (trivial) rfl hl.1 rfl rfl (Nat.le_of_ble_eq_true rfl) dL_weight_33 ?_
          refine z_top (y := nI ((f (fa + j)).toNatClampNeg)) ((zk_d (hk (fa + j) (by omega))).1) ?_
          refine z_iadd hx hb dL_weight_36 ?_
          refine z_iald (j := 4 + ((f (fa + j)).toNatClampNeg)) hx hb hG hP ⟨by have h9 := (zk_d (hk (fa + j) (by omega))).2; omega, by decide⟩ dL_weight_37 ?_
          refine lv_iadd hx hb dL_weight_38 ?_
          refine lv_istore (lv' := [(5, .int ((zqs (fun k9 => bb (4 + k9)) f fa j) + (bb (4 + ((f (fa + j)).toNatClampNeg))))), (0, .ref (a)), (1, .long (lN (zLn f n))), (3, .int (nI (fa))), (4, .int (nI (tt))), (6, .int (nI (fa + j)))]) hx hb dL_weight_39 hl (by decide) rfl (fun ls hl => ?_)
          refine lv_iinc (v := nI (fa + j + 1)) (lv' := [(6, .int (nI (fa + j + 1))), (5, .int ((zqs (fun k9 => bb (4 + k9)) f fa j) + (bb (4 + ((f (fa + j)).toNatClampNeg))))), (0, .ref (a)), (1, .long (lN (zLn f n))), (3, .int (nI (fa))), (4, .int (nI (tt)))]) hx hb dL_weight_41 hl (k := 5) rfl (z_inc1 _) (by decide) rfl (fun ls hl => ?_)
          refine lv_goto (tgt := 6) hx hb dL_weight_44 (by decide) ?_
          have hl9 := lv_sub hl [2, 3, 4, 5, 1, 0] (l' := [(0, .ref (a)), (1, .long (lN (zLn f n))), (3, .int (nI (fa))), (4, .int (nI (tt))), (5, .int ((zqs (fun k9 => bb (4 + k9)) f fa j) + (bb (4 + ((f (fa + j)).toNatClampNeg))))), (6, .int (nI (fa + j + 1)))]) rfl
          have e9_5 : ((zqs (fun k9 => bb (4 + k9)) f fa j) + (bb (4 + ((f (fa + j)).toNatClampNeg)))) = (zqs (fun k9 => bb (4 + k9)) f fa (j + 1)) := by first | exact congrArg (zqs (fun k9 => bb (4 + k9)) f fa j + ·) (zw_0 (wt := fun k9 => bb (4 + k9)) c_2).symm | exact congrArg (zqs (fun k9 => bb (4 + k9)) f fa j + ·) (zw_1 (wt := fun k9 => bb (4 + k9)) c_2).symm
          have e9_6 : (fa + j + 1) = (fa + (j + 1)) := by omega
          exact ih6 (j + 1) (by omega) (by omega) ls (by rw [← e9_5, ← e9_6]; exact hl9)
        · refine lv_iconst (v := nI (0)) hx hb dL_weight_24 (by decide) ?_
          refine lv_goto (tgt := 38) hx hb dL_weight_25 (by decide) ?_
          refine lv_iadd hx hb dL_weight_38 ?_
          refine lv_istore (lv' := [(5, .int ((zqs (fun k9 => bb (4 + k9)) f fa j) + nI (0))), (0, .ref (a)), (1, .long (lN (zLn f n))), (3, .int (nI (fa))), (4, .int (nI (tt))), (6, .int (nI (fa + j)))]) hx hb dL_weight_39 hl (by decide) rfl (fun ls hl => ?_)
          refine lv_iinc (v := nI (fa + j + 1)) (lv' := [(6, .int (nI (fa + j + 1))), (5, .int ((zqs (fun k9 => bb (4 + k9)) f fa j) + nI (0))), (0, .ref (a)), (1, .long (lN (zLn f n))), (3, .int (nI (fa))), (4, .int (nI (tt)))]) hx hb dL_weight_41 hl (k := 5) rfl (z_inc1 _) (by decide) rfl (fun ls hl => ?_)
          refine lv_goto (tgt := 6) hx hb dL_weight_44 (by decide) ?_
          have hl9 := lv_sub hl [2, 3, 4, 5, 1, 0] (l' := [(0, .ref (a)), (1, .long (lN (zLn f n))), (3, .int (nI (fa))), (4, .int (nI (tt))), (5, .int ((zqs (fun k9 => bb (4 + k9)) f fa j) + nI (0))), (6, .int (nI (fa + j + 1)))]) rfl
          have e9_5 : ((zqs (fun k9 => bb (4 + k9)) f fa j) + nI (0)) = (zqs (fun k9 => bb (4 + k9)) f fa (j + 1)) := by first | exact congrArg (zqs (fun k9 => bb (4 + k9)) f fa j + ·) (zw_0 (wt := fun k9 => bb (4 + k9)) c_2).symm | exact congrArg (zqs (fun k9 => bb (4 + k9)) f fa j + ·) (zw_1 (wt := fun k9 => bb (4 + k9)) c_2).symm
          have e9_6 : (fa + j + 1) = (fa + (j + 1)) := by omega
          exact ih6 (j + 1) (by omega) (by omega) ls (by rw [← e9_5, ← e9_6]; exact hl9)
  exact L6 ((tt - (fa + (0))) + 1) (0) (Nat.lt_succ_self _) (by omega) ls (lv_sub hl [2, 3, 4, 5, 1, 0] rfl)

set_option maxHeartbeats 4000000 in
set_option maxRecDepth 100000 in
theorem c_L_lean (E : zEnv) {a : Nat} {bb : Nat → Int32} {n : Nat} {f : Nat → Int32} (hn : zsz4 n) (hk : ∀ s, s < n → zk (f s)) : zRO E yL_lean wsL_lean 3 72 [.ref (a), .long (lN (zLn f n))] (fun H => zat E a (.inl (zI E, 10, .inl bb)) H) (some (.int (zlean (fun k9 => bb (4 + k9)) n f))) := by
  refine zRO.ofI (maxL := 6) rfl (Nat.le_of_ble_eq_true rfl) (fun p e s m args below meth c H Q hF hP hret ls hl => ?_)
  have S : CallFix p m c cL_lean 6 s args wsL_lean RL := hF.1
  have hG := hF.2
  obtain ⟨hx, hb, hml, hown, hts⟩ := id S
  have hb4 := hn.b
  have hL := zLn_62 hb4.2.1 hk
  have hL7 := zLn_pos (f := f) n
  have hq4 := hn.q
  have hl : lv_has ls 6 [(0, .ref (a)), (1, .long (lN (zLn f n)))] := hl
  refine lv_lload_n hx hb dL_lean_0 rfl (lv_at hl 1 rfl) ?_
  refine z_roSX (As := [.long (lN (zLn f n))]) (rest := []) S hG (c_L_slots E hn hk) 1 gL_lean_L_slots rfl kL_slots.2 ⟨Nat.le_of_ble_eq_true rfl, Nat.le_of_ble_eq_true rfl⟩ ⟨Nat.zero_le _, Nat.zero_le _⟩ (trivial) rfl hl.1 rfl rfl (Nat.le_of_ble_eq_true rfl) dL_lean_1 ?_
  refine lv_iconst (v := nI (4)) hx hb dL_lean_4 (by decide) ?_
  refine z_idiv hx hb dL_lean_5 ⟨by omega, by omega, by omega⟩ ?_
  refine lv_istore_n (lv' := [(3, .int (nI (n / 4))), (0, .ref (a)), (1, .long (lN (zLn f n)))]) hx hb dL_lean_6 rfl hl (by decide) rfl (fun ls hl => ?_)
  refine lv_aload_n hx hb dL_lean_7 rfl (lv_at hl 1 rfl) ?_
  refine lv_lload_n hx hb dL_lean_8 rfl (lv_at hl 2 rfl) ?_
  refine lv_iconst (v := nI (0)) hx hb dL_lean_9 (by decide) ?_
  refine lv_iload_n hx hb dL_lean_10 rfl (lv_at hl 0 rfl) ?_
  refine z_roSX (As := [.ref (a), .long (lN (zLn f n)), .int (nI (0)), .int (nI (n / 4))]) (rest := []) S hG (c_L_weight E (bb := bb) (fa := 0) (tt := n / 4) hn hk ⟨by omega, by omega⟩) 4 gL_lean_L_weight rfl kL_weight.2 ⟨Nat.le_of_ble_eq_true rfl, Nat.le_of_ble_eq_true rfl⟩ ⟨Nat.zero_le _, Nat.zero_le _⟩ (hP) rfl hl.1 rfl rfl (Nat.le_of_ble_eq_true rfl) dL_lean_11 ?_
  refine z_top (y := (zqs (fun k9 => bb (4 + k9)) f (0 * (n / 4)) (n / 4))) (by rw [Nat.zero_mul, Nat.sub_zero]) ?_
  refine lv_aload_n hx hb dL_lean_14 rfl (lv_at hl 1 rfl) ?_
  refine lv_lload_n hx hb dL_lean_15 rfl (lv_at hl 2 rfl) ?_
  refine lv_iconst (v := nI (2)) hx hb dL_lean_16 (by decide) ?_
  refine lv_iload_n hx hb dL_lean_17 rfl (lv_at hl 0 rfl) ?_
  refine z_imul hx hb dL_lean_18 ?_
  refine lv_iconst (v := nI (3)) hx hb dL_lean_19 (by decide) ?_
  refine lv_iload_n hx hb dL_lean_20 rfl (lv_at hl 0 rfl) ?_
  refine z_imul hx hb dL_lean_21 ?_
  refine z_roSX (As := [.ref (a), .long (lN (zLn f n)), .int (nI (2 * (n / 4))), .int (nI (3 * (n / 4)))]) (rest := [.int (zqs (fun k9 => bb (4 + k9)) f (0 * (n / 4)) (n / 4))]) S hG (c_L_weight E (bb := bb) (fa := 2 * (n / 4)) (tt := 3 * (n / 4)) hn hk ⟨by omega, by omega⟩) 4 gL_lean_L_weight rfl kL_weight.2 ⟨Nat.le_of_ble_eq_true rfl, Nat.le_of_ble_eq_true rfl⟩ ⟨Nat.zero_le _, Nat.zero_le _⟩ (hP) rfl hl.1 rfl rfl (Nat.le_of_ble_eq_true rfl) dL_lean_22 ?_
  refine z_top (y := (zqs (fun k9 => bb (4 + k9)) f (2 * (n / 4)) (n / 4))) (by rw [show 3 * (n / 4) - 2 * (n / 4) = n / 4 by omega]) ?_
  refine lv_isub hx hb dL_lean_25 ?_
  refine lv_istore (lv' := [(4, .int ((zqs (fun k9 => bb (4 + k9)) f (0 * (n / 4)) (n / 4)) - (zqs (fun k9 => bb (4 + k9)) f (2 * (n / 4)) (n / 4)))), (3, .int (nI (n / 4))), (0, .ref (a)), (1, .long (lN (zLn f n)))]) hx hb dL_lean_26 hl (by decide) rfl (fun ls hl => ?_)
  refine lv_aload_n hx hb dL_lean_28 rfl (lv_at hl 2 rfl) ?_
  refine lv_lload_n hx hb dL_lean_29 rfl (lv_at hl 3 rfl) ?_
  refine lv_iload_n hx hb dL_lean_30 rfl (lv_at hl 1 rfl) ?_
  refine lv_iconst (v := nI (2)) hx hb dL_lean_31 (by decide) ?_
  refine lv_iload_n hx hb dL_lean_32 rfl (lv_at hl 1 rfl) ?_
  refine z_imul hx hb dL_lean_33 ?_
  refine z_roSX (As := [.ref (a), .long (lN (zLn f n)), .int (nI (n / 4)), .int (nI (2 * (n / 4)))]) (rest := []) S hG (c_L_weight E (bb := bb) (fa := n / 4) (tt := 2 * (n / 4)) hn hk ⟨by omega, by omega⟩) 4 gL_lean_L_weight rfl kL_weight.2 ⟨Nat.le_of_ble_eq_true rfl, Nat.le_of_ble_eq_true rfl⟩ ⟨Nat.zero_le _, Nat.zero_le _⟩ (hP) rfl hl.1 rfl rfl (Nat.le_of_ble_eq_true rfl) dL_lean_34 ?_
  refine z_top (y := (zqs (fun k9 => bb (4 + k9)) f (1 * (n / 4)) (n / 4))) (by rw [Nat.one_mul, show 2 * (n / 4) - n / 4 = n / 4 by omega]) ?_
  refine lv_aload_n hx hb dL_lean_37 rfl (lv_at hl 2 rfl) ?_
  refine lv_lload_n hx hb dL_lean_38 rfl (lv_at hl 3 rfl) ?_
  refine lv_iconst (v := nI (3)) hx hb dL_lean_39 (by decide) ?_
  refine lv_iload_n hx hb dL_lean_40 rfl (lv_at hl 1 rfl) ?_
  refine z_imul hx hb dL_lean_41 ?_
  refine lv_iconst (v := nI (4)) hx hb dL_lean_42 (by decide) ?_
  refine lv_iload_n hx hb dL_lean_43 rfl (lv_at hl 1 rfl) ?_
  refine z_imul hx hb dL_lean_44 ?_
  refine z_roSX (As := [.ref (a), .long (lN (zLn f n)), .int (nI (3 * (n / 4))), .int (nI (4 * (n / 4)))]) (rest := [.int (zqs (fun k9 => bb (4 + k9)) f (1 * (n / 4)) (n / 4))]) S hG (c_L_weight E (bb := bb) (fa := 3 * (n / 4)) (tt := 4 * (n / 4)) hn hk ⟨by omega, by omega⟩) 4 gL_lean_L_weight rfl kL_weight.2 ⟨Nat.le_of_ble_eq_true rfl, Nat.le_of_ble_eq_true rfl⟩ ⟨Nat.zero_le _, Nat.zero_le _⟩ (hP) rfl hl.1 rfl rfl (Nat.le_of_ble_eq_true rfl) dL_lean_45 ?_
  refine z_top (y := (zqs (fun k9 => bb (4 + k9)) f (3 * (n / 4)) (n / 4))) (by rw [show 4 * (n / 4) - 3 * (n / 4) = n / 4 by omega]) ?_
  refine lv_isub hx hb dL_lean_48 ?_
  refine lv_istore (lv' := [(5, .int ((zqs (fun k9 => bb (4 + k9)) f (1 * (n / 4)) (n / 4)) - (zqs (fun k9 => bb (4 + k9)) f (3 * (n / 4)) (n / 4)))), (4, .int ((zqs (fun k9 => bb (4 + k9)) f (0 * (n / 4)) (n / 4)) - (zqs (fun k9 => bb (4 + k9)) f (2 * (n / 4)) (n / 4)))), (3, .int (nI (n / 4))), (0, .ref (a)), (1, .long (lN (zLn f n)))]) hx hb dL_lean_49 hl (by decide) rfl (fun ls hl => ?_)
  refine lv_iload hx hb dL_lean_51 (lv_at hl 1 rfl) ?_
  refine lv_if_ge (tgt := 62) hx hb dL_lean_53 (by decide) (fun c_1 => ?_) (fun c_1 => ?_)
  · refine lv_iload hx hb dL_lean_62 (lv_at hl 1 rfl) ?_
    refine lv_iload hx hb dL_lean_64 (lv_at hl 0 rfl) ?_
    refine lv_if_ge (tgt := 75) hx hb dL_lean_66 (by decide) (fun c_2 => ?_) (fun c_2 => ?_)
    · refine lv_iload hx hb dL_lean_75 (lv_at hl 0 rfl) ?_
      refine lv_iadd hx hb dL_lean_77 ?_
      exact hret _ _ _ dL_lean_78 (zsi (by unfold zlean; rw [zqw_4 hb4.2.2, zqw_4 hb4.2.2, zqw_4 hb4.2.2, zqw_4 hb4.2.2, show zabs (zqs (fun k9 => bb (4 + k9)) f (0 * (n / 4)) (n / 4) - zqs (fun k9 => bb (4 + k9)) f (2 * (n / 4)) (n / 4)) = _ from (by first | exact zabs_a c_1 | exact zabs_a (Int32.not_lt.mpr c_1) | exact zabs_b c_1 | exact zabs_b (Int32.not_le.mp c_1)), show zabs (zqs (fun k9 => bb (4 + k9)) f (1 * (n / 4)) (n / 4) - zqs (fun k9 => bb (4 + k9)) f (3 * (n / 4)) (n / 4)) = _ from (by first | exact zabs_a c_2 | exact zabs_a (Int32.not_lt.mpr c_2) | exact zabs_b c_2 | exact zabs_b (Int32.not_le.mp c_2))]))
    · refine lv_iload hx hb dL_lean_69 (lv_at hl 0 rfl) ?_
      refine lv_ineg hx hb dL_lean_71 ?_
      refine lv_goto (tgt := 77) hx hb dL_lean_72 (by decide) ?_
      refine lv_iadd hx hb dL_lean_77 ?_
      exact hret _ _ _ dL_lean_78 (zsi (by unfold zlean; rw [zqw_4 hb4.2.2, zqw_4 hb4.2.2, zqw_4 hb4.2.2, zqw_4 hb4.2.2, show zabs (zqs (fun k9 => bb (4 + k9)) f (0 * (n / 4)) (n / 4) - zqs (fun k9 => bb (4 + k9)) f (2 * (n / 4)) (n / 4)) = _ from (by first | exact zabs_a c_1 | exact zabs_a (Int32.not_lt.mpr c_1) | exact zabs_b c_1 | exact zabs_b (Int32.not_le.mp c_1)), show zabs (zqs (fun k9 => bb (4 + k9)) f (1 * (n / 4)) (n / 4) - zqs (fun k9 => bb (4 + k9)) f (3 * (n / 4)) (n / 4)) = _ from (by first | exact zabs_a c_2 | exact zabs_a (Int32.not_lt.mpr c_2) | exact zabs_b c_2 | exact zabs_b (Int32.not_le.mp c_2))]))
  · refine lv_iload hx hb dL_lean_56 (lv_at hl 1 rfl) ?_
    refine lv_ineg hx hb dL_lean_58 ?_
    refine lv_goto (tgt := 64) hx hb dL_lean_59 (by decide) ?_
    refine lv_iload hx hb dL_lean_64 (lv_at hl 0 rfl) ?_
    refine lv_if_ge (tgt := 75) hx hb dL_lean_66 (by decide) (fun c_3 => ?_) (fun c_3 => ?_)
    · refine lv_iload hx hb dL_lean_75 (lv_at hl 0 rfl) ?_
      refine lv_iadd hx hb dL_lean_77 ?_
      exact hret _ _ _ dL_lean_78 (zsi (by unfold zlean; rw [zqw_4 hb4.2.2, zqw_4 hb4.2.2, zqw_4 hb4.2.2, zqw_4 hb4.2.2, show zabs (zqs (fun k9 => bb (4 + k9)) f (0 * (n / 4)) (n / 4) - zqs (fun k9 => bb (4 + k9)) f (2 * (n / 4)) (n / 4)) = _ from (by first | exact zabs_a c_1 | exact zabs_a (Int32.not_lt.mpr c_1) | exact zabs_b c_1 | exact zabs_b (Int32.not_le.mp c_1)), show zabs (zqs (fun k9 => bb (4 + k9)) f (1 * (n / 4)) (n / 4) - zqs (fun k9 => bb (4 + k9)) f (3 * (n / 4)) (n / 4)) = _ from (by first | exact zabs_a c_3 | exact zabs_a (Int32.not_lt.mpr c_3) | exact zabs_b c_3 | exact zabs_b (Int32.not_le.mp c_3))]))
    · refine lv_iload hx hb dL_lean_69 (lv_at hl 0 rfl) ?_
      refine lv_ineg hx hb dL_lean_71 ?_
      refine lv_goto (tgt := 77) hx hb dL_lean_72 (by decide) ?_
      refine lv_iadd hx hb dL_lean_77 ?_
      exact hret _ _ _ dL_lean_78 (zsi (by unfold zlean; rw [zqw_4 hb4.2.2, zqw_4 hb4.2.2, zqw_4 hb4.2.2, zqw_4 hb4.2.2, show zabs (zqs (fun k9 => bb (4 + k9)) f (0 * (n / 4)) (n / 4) - zqs (fun k9 => bb (4 + k9)) f (2 * (n / 4)) (n / 4)) = _ from (by first | exact zabs_a c_1 | exact zabs_a (Int32.not_lt.mpr c_1) | exact zabs_b c_1 | exact zabs_b (Int32.not_le.mp c_1)), show zabs (zqs (fun k9 => bb (4 + k9)) f (1 * (n / 4)) (n / 4) - zqs (fun k9 => bb (4 + k9)) f (3 * (n / 4)) (n / 4)) = _ from (by first | exact zabs_a c_3 | exact zabs_a (Int32.not_lt.mpr c_3) | exact zabs_b c_3 | exact zabs_b (Int32.not_le.mp c_3))]))

set_option maxHeartbeats 4000000 in
set_option maxRecDepth 100000 in
theorem c_L_places (E : zEnv) {a ml : Nat} {gg : Nat → Int32} {n : Nat} {f : Nat → Int32} (hn : zsz4 n) (hk : ∀ s, s < n → zk (f s)) (hg6 : gg 6 = nI ml) (hml : ml ≤ 6) : zRO E yL_places wsL_places 2 46 [.ref (a), .long (lN (zLn f n))] (fun H => zat E a (.inl (zI E, 7, .inl gg)) H) (some (.int (zset (zmt ml gg n f) n))) := by
  refine zRO.ofI (maxL := 8) rfl (Nat.le_of_ble_eq_true rfl) (fun p e s m args below meth c H Q hF hP hret ls hl => ?_)
  have S : CallFix p m c cL_places 8 s args wsL_places RL := hF.1
  have hG := hF.2
  obtain ⟨hx, hb, hml, hown, hts⟩ := id S
  have hb4 := hn.b
  have hL := zLn_62 hb4.2.1 hk
  have hL7 := zLn_pos (f := f) n
  have hl : lv_has ls 8 [(0, .ref (a)), (1, .long (lN (zLn f n)))] := hl
  refine lv_iconst (v := nI (0)) hx hb dL_places_0 (by decide) ?_
  refine lv_istore_n (lv' := [(3, .int (nI (0))), (0, .ref (a)), (1, .long (lN (zLn f n)))]) hx hb dL_places_1 rfl hl (by decide) rfl (fun ls hl => ?_)
  refine lv_lload_n hx hb dL_places_2 rfl (lv_at hl 2 rfl) ?_
  refine z_roSX (As := [.long (lN (zLn f n))]) (rest := []) S hG (c_L_slots E hn hk) 1 gL_places_L_slots rfl kL_slots.2 ⟨Nat.le_of_ble_eq_true rfl, Nat.le_of_ble_eq_true rfl⟩ ⟨Nat.zero_le _, Nat.zero_le _⟩ (trivial) rfl hl.1 rfl rfl (Nat.le_of_ble_eq_true rfl) dL_places_3 ?_
  refine lv_istore (lv' := [(4, .int (nI (n))), (3, .int (nI (0))), (0, .ref (a)), (1, .long (lN (zLn f n)))]) hx hb dL_places_6 hl (by decide) rfl (fun ls hl => ?_)
  refine lv_iconst (v := nI (0)) hx hb dL_places_8 (by decide) ?_
  refine lv_istore (lv' := [(5, .int (nI (0))), (4, .int (nI (n))), (3, .int (nI (0))), (0, .ref (a)), (1, .long (lN (zLn f n)))]) hx hb dL_places_9 hl (by decide) rfl (fun ls hl => ?_)
  have L11 : ∀ (dd : Nat) (i : Nat), n - i < dd → (i ≤ n) → ∀ (ls : Array Slot), lv_has ls 8 [(0, .ref (a)), (1, .long (lN (zLn f n))), (3, .int (zset (zmt ml gg n f) i)), (4, .int (nI (n))), (5, .int (nI (i)))] → W p (zl E) e (zRm 2 46) s m args below meth c H [] 0 0 Q (F0 m 11 ls []) := by
    intro dd
    induction dd with
    | zero => intro i hdd; exact absurd hdd (Nat.not_lt_zero _)
    | succ dd ih11 =>
      intro i hdd11 hi ls hl
      refine lv_iload hx hb dL_places_11 (lv_at hl 4 rfl) ?_
      refine lv_iload hx hb dL_places_13 (lv_at hl 3 rfl) ?_
      refine z_cge (tgt := 117) hx hb dL_places_15 (by decide) ⟨by omega, by omega⟩ (fun c_1 => ?_) (fun c_1 => ?_)
      · refine lv_iload_n hx hb dL_places_117 rfl (lv_at hl 2 rfl) ?_
        exact hret _ _ _ dL_places_118 (zsi (by first | (rw [show i = n by omega]) | (exact zset_00 (fun j9 => zmt_o (by omega)) _ _)))
      · refine lv_aload_n hx hb dL_places_18 rfl (lv_at hl 0 rfl) ?_
        refine lv_bipush (v := nI (6)) hx hb dL_places_19 (by decide) ?_
        refine z_iald (j := 6) hx hb hG hP ⟨by omega, by omega⟩ dL_places_21 ?_
        refine z_top (y := nI (ml)) (hg6) ?_
        refine z_fle (tgt := 117) hx hb dL_places_22 (by decide) (by omega) (fun c_2 => ?_) (fun c_2 => ?_)
        · refine lv_iload_n hx hb dL_places_117 rfl (lv_at hl 2 rfl) ?_
          exact hret _ _ _ dL_places_118 (zsi (by first | (rw [show i = n by omega]) | (exact zset_00 (fun j9 => zmt_o (by omega)) _ _)))
        · refine lv_aload_n hx hb dL_places_25 rfl (lv_at hl 0 rfl) ?_
          refine lv_bipush (v := nI (6)) hx hb dL_places_26 (by decide) ?_
          refine z_iald (j := 6) hx hb hG hP ⟨by omega, by omega⟩ dL_places_28 ?_
          refine z_top (y := nI (ml)) (hg6) ?_
          refine lv_iload hx hb dL_places_29 (lv_at hl 3 rfl) ?_
          refine z_cgt (tgt := 117) hx hb dL_places_31 (by decide) ⟨by omega, by omega⟩ (fun c_3 => ?_) (fun c_3 => ?_)
          · refine lv_iload_n hx hb dL_places_117 rfl (lv_at hl 2 rfl) ?_
            exact hret _ _ _ dL_places_118 (zsi (by first | (rw [show i = n by omega]) | (exact zset_00 (fun j9 => zmt_o (by omega)) _ _)))
          · refine lv_iconst (v := nI (1)) hx hb dL_places_34 (by decide) ?_
            refine lv_istore (lv' := [(6, .int (nI (1))), (0, .ref (a)), (1, .long (lN (zLn f n))), (3, .int (zset (zmt ml gg n f) i)), (4, .int (nI (n))), (5, .int (nI (i)))]) hx hb dL_places_35 hl (by decide) rfl (fun ls hl => ?_)
            refine lv_iconst (v := nI (0)) hx hb dL_places_37 (by decide) ?_
            refine lv_istore (lv' := [(7, .int (nI (0))), (6, .int (nI (1))), (0, .ref (a)), (1, .long (lN (zLn f n))), (3, .int (zset (zmt ml gg n f) i)), (4, .int (nI (n))), (5, .int (nI (i)))]) hx hb dL_places_38 hl (by decide) rfl (fun ls hl => ?_)
            have L40 : ∀ (dd : Nat) (t : Nat), ml - t < dd → (t ≤ ml) → ∀ (ls : Array Slot), lv_has ls 8 [(0, .ref (a)), (1, .long (lN (zLn f n))), (3, .int (zset (zmt ml gg n f) i)), (4, .int (nI (n))), (5, .int (nI (i))), (6, .int (zb (zmp ml gg n f i t))), (7, .int (nI (t)))] → W p (zl E) e (zRm 2 46) s m args below meth c H [] 0 0 Q (F0 m 40 ls []) := by
              intro dd
              induction dd with
              | zero => intro t hdd; exact absurd hdd (Nat.not_lt_zero _)
              | succ dd ih40 =>
                intro t hdd40 ht ls hl
                refine lv_iload hx hb dL_places_40 (lv_at hl 6 rfl) ?_
                refine lv_aload_n hx hb dL_places_42 rfl (lv_at hl 0 rfl) ?_
                refine lv_bipush (v := nI (6)) hx hb dL_places_43 (by decide) ?_
                refine z_iald (j := 6) hx hb hG hP ⟨by omega, by omega⟩ dL_places_45 ?_
                refine z_top (y := nI (ml)) (hg6) ?_
                refine z_cge (tgt := 95) hx hb dL_places_46 (by decide) ⟨by omega, by omega⟩ (fun c_4 => ?_) (fun c_4 => ?_)
                · refine lv_iload_n hx hb dL_places_95 rfl (lv_at hl 2 rfl) ?_
                  refine lv_iload hx hb dL_places_96 (lv_at hl 5 rfl) ?_
                  refine z_beq (tgt := 108) hx hb dL_places_98 (by decide) (fun c_5 => ?_) (fun c_5 => ?_)
                  · refine lv_iconst (v := nI (0)) hx hb dL_places_108 (by decide) ?_
                    refine lv_ior hx hb dL_places_109 ?_
                    refine lv_istore_n (lv' := [(3, .int ((zset (zmt ml gg n f) i) ||| nI (0))), (0, .ref (a)), (1, .long (lN (zLn f n))), (4, .int (nI (n))), (5, .int (nI (i))), (6, .int (zb (zmp ml gg n f i t))), (7, .int (nI (t)))]) hx hb dL_places_110 rfl hl (by decide) rfl (fun ls hl => ?_)
                    refine lv_iinc (v := nI (i + 1)) (lv' := [(5, .int (nI (i + 1))), (3, .int ((zset (zmt ml gg n f) i) ||| nI (0))), (0, .ref (a)), (1, .long (lN (zLn f n))), (4, .int (nI (n))), (6, .int (zb (zmp ml gg n f i t))), (7, .int (nI (t)))]) hx hb dL_places_111 hl (k := 4) rfl (z_inc1 _) (by decide) rfl (fun ls hl => ?_)
                    refine lv_goto (tgt := 11) hx hb dL_places_114 (by decide) ?_
                    have hl9 := lv_sub hl [2, 3, 1, 4, 0] (l' := [(0, .ref (a)), (1, .long (lN (zLn f n))), (3, .int ((zset (zmt ml gg n f) i) ||| nI (0))), (4, .int (nI (n))), (5, .int (nI (i + 1)))]) rfl
                    have e9_3 : ((zset (zmt ml gg n f) i) ||| nI (0)) = (zset (zmt ml gg n f) (i + 1)) := by first | exact zpl_t c_5 (by omega) (by omega) | exact zpl_f c_5 (by omega) (by omega)
                    have e9_5 : (i + 1) = ((i + 1)) := by omega
                    exact ih11 (i + 1) (by omega) (by omega) ls (by rw [← e9_3, ← e9_5]; exact hl9)
                  · refine lv_iconst (v := nI (1)) hx hb dL_places_101 (by decide) ?_
                    refine lv_iload hx hb dL_places_102 (lv_at hl 4 rfl) ?_
                    refine lv_ishl hx hb dL_places_104 ?_
                    refine lv_goto (tgt := 109) hx hb dL_places_105 (by decide) ?_
                    refine lv_ior hx hb dL_places_109 ?_
                    refine lv_istore_n (lv' := [(3, .int ((zset (zmt ml gg n f) i) ||| (nI (1) <<< (nI (i) &&& 31)))), (0, .ref (a)), (1, .long (lN (zLn f n))), (4, .int (nI (n))), (5, .int (nI (i))), (6, .int (zb (zmp ml gg n f i t))), (7, .int (nI (t)))]) hx hb dL_places_110 rfl hl (by decide) rfl (fun ls hl => ?_)
                    refine lv_iinc (v := nI (i + 1)) (lv' := [(5, .int (nI (i + 1))), (3, .int ((zset (zmt ml gg n f) i) ||| (nI (1) <<< (nI (i) &&& 31)))), (0, .ref (a)), (1, .long (lN (zLn f n))), (4, .int (nI (n))), (6, .int (zb (zmp ml gg n f i t))), (7, .int (nI (t)))]) hx hb dL_places_111 hl (k := 4) rfl (z_inc1 _) (by decide) rfl (fun ls hl => ?_)
                    refine lv_goto (tgt := 11) hx hb dL_places_114 (by decide) ?_
                    have hl9 := lv_sub hl [2, 3, 1, 4, 0] (l' := [(0, .ref (a)), (1, .long (lN (zLn f n))), (3, .int ((zset (zmt ml gg n f) i) ||| (nI (1) <<< (nI (i) &&& 31)))), (4, .int (nI (n))), (5, .int (nI (i + 1)))]) rfl
                    have e9_3 : ((zset (zmt ml gg n f) i) ||| (nI (1) <<< (nI (i) &&& 31))) = (zset (zmt ml gg n f) (i + 1)) := by first | exact zpl_t c_5 (by omega) (by omega) | exact zpl_f c_5 (by omega) (by omega)
                    have e9_5 : (i + 1) = ((i + 1)) := by omega
                    exact ih11 (i + 1) (by omega) (by omega) ls (by rw [← e9_3, ← e9_5]; exact hl9)
                · refine lv_iload hx hb dL_places_49 (lv_at hl 5 rfl) ?_
                  refine z_beq (tgt := 86) hx hb dL_places_51 (by decide) (fun c_6 => ?_) (fun c_6 => ?_)
                  · refine lv_iconst (v := nI (0)) hx hb dL_places_86 (by decide) ?_
                    refine lv_istore (lv' := [(6, .int (nI (0))), (0, .ref (a)), (1, .long (lN (zLn f n))), (3, .int (zset (zmt ml gg n f) i)), (4, .int (nI (n))), (5, .int (nI (i))), (7, .int (nI (t)))]) hx hb dL_places_87 hl (by decide) rfl (fun ls hl => ?_)
                    refine lv_iinc (v := nI (t + 1)) (lv' := [(7, .int (nI (t + 1))), (6, .int (nI (0))), (0, .ref (a)), (1, .long (lN (zLn f n))), (3, .int (zset (zmt ml gg n f) i)), (4, .int (nI (n))), (5, .int (nI (i)))]) hx hb dL_places_89 hl (k := 6) rfl (z_inc1 _) (by decide) rfl (fun ls hl => ?_)
                    refine lv_goto (tgt := 40) hx hb dL_places_92 (by decide) ?_
                    have hl9 := lv_sub hl [2, 3, 4, 5, 6, 1, 0] (l' := [(0, .ref (a)), (1, .long (lN (zLn f n))), (3, .int (zset (zmt ml gg n f) i)), (4, .int (nI (n))), (5, .int (nI (i))), (6, .int (nI (0))), (7, .int (nI (t + 1)))]) rfl
                    have e9_6 : (nI (0)) = (zb (zmp ml gg n f i (t + 1))) := zb_f (by first | exact zmp_f (by assumption) (by assumption) | exact zmp_z (by assumption))
                    have e9_7 : (t + 1) = ((t + 1)) := by omega
                    exact ih40 (t + 1) (by omega) (by omega) ls (by rw [← e9_6, ← e9_7]; exact hl9)
                  · refine lv_aload_n hx hb dL_places_54 rfl (lv_at hl 0 rfl) ?_
                    refine lv_iload hx hb dL_places_55 (lv_at hl 6 rfl) ?_
                    refine z_iald (j := t) hx hb hG hP ⟨by omega, by omega⟩ dL_places_57 ?_
                    refine lv_bipush (v := nI (9)) hx hb dL_places_58 (by decide) ?_
                    refine lv_icmp_eq (tgt := 82) hx hb dL_places_60 (by decide) (fun c_7 => ?_) (fun c_7 => ?_)
                    · refine lv_iconst (v := nI (1)) hx hb dL_places_82 (by decide) ?_
                      refine lv_goto (tgt := 87) hx hb dL_places_83 (by decide) ?_
                      refine lv_istore (lv' := [(6, .int (nI (1))), (0, .ref (a)), (1, .long (lN (zLn f n))), (3, .int (zset (zmt ml gg n f) i)), (4, .int (nI (n))), (5, .int (nI (i))), (7, .int (nI (t)))]) hx hb dL_places_87 hl (by decide) rfl (fun ls hl => ?_)
                      refine lv_iinc (v := nI (t + 1)) (lv' := [(7, .int (nI (t + 1))), (6, .int (nI (1))), (0, .ref (a)), (1, .long (lN (zLn f n))), (3, .int (zset (zmt ml gg n f) i)), (4, .int (nI (n))), (5, .int (nI (i)))]) hx hb dL_places_89 hl (k := 6) rfl (z_inc1 _) (by decide) rfl (fun ls hl => ?_)
                      refine lv_goto (tgt := 40) hx hb dL_places_92 (by decide) ?_
                      have hl9 := lv_sub hl [2, 3, 4, 5, 6, 1, 0] (l' := [(0, .ref (a)), (1, .long (lN (zLn f n))), (3, .int (zset (zmt ml gg n f) i)), (4, .int (nI (n))), (5, .int (nI (i))), (6, .int (nI (1))), (7, .int (nI (t + 1)))]) rfl
                      have e9_6 : (nI (1)) = (zb (zmp ml gg n f i (t + 1))) := zb_t (by first | exact zmp_t (by assumption) (Or.inl (by assumption)) | exact zmp_t (by assumption) (Or.inr (by assumption)))
                      have e9_7 : (t + 1) = ((t + 1)) := by omega
                      exact ih40 (t + 1) (by omega) (by omega) ls (by rw [← e9_6, ← e9_7]; exact hl9)
                    · refine lv_aload_n hx hb dL_places_63 rfl (lv_at hl 0 rfl) ?_
                      refine lv_iload hx hb dL_places_64 (lv_at hl 6 rfl) ?_
                      refine z_iald (j := t) hx hb hG hP ⟨by omega, by omega⟩ dL_places_66 ?_
                      refine lv_lload_n hx hb dL_places_67 rfl (lv_at hl 1 rfl) ?_
                      refine lv_iload hx hb dL_places_68 (lv_at hl 4 rfl) ?_
                      refine lv_iload hx hb dL_places_70 (lv_at hl 6 rfl) ?_
                      refine z_iadd hx hb dL_places_72 ?_
                      refine lv_iload hx hb dL_places_73 (lv_at hl 3 rfl) ?_
                      refine z_irem hx hb dL_places_75 ⟨by omega, by omega, by omega⟩ ?_
                      refine z_roSX (As := [.long (lN (zLn f n)), .int (nI ((i + t) % n))]) (rest := [.int (gg t)]) S hG (c_L_kind E (j := (i + t) % n) hn hk (Nat.mod_lt _ hb4.1)) 2 gL_places_L_kind rfl kL_kind.2 ⟨Nat.le_of_ble_eq_true rfl, Nat.le_of_ble_eq_true rfl⟩ ⟨Nat.zero_le _, Nat.zero_le _⟩ (trivial) rfl hl.1 rfl rfl (Nat.le_of_ble_eq_true rfl) dL_places_76 ?_
                      refine lv_icmp_ne (tgt := 86) hx hb dL_places_79 (by decide) (fun c_8 => ?_) (fun c_8 => ?_)
                      · refine lv_iconst (v := nI (0)) hx hb dL_places_86 (by decide) ?_
                        refine lv_istore (lv' := [(6, .int (nI (0))), (0, .ref (a)), (1, .long (lN (zLn f n))), (3, .int (zset (zmt ml gg n f) i)), (4, .int (nI (n))), (5, .int (nI (i))), (7, .int (nI (t)))]) hx hb dL_places_87 hl (by decide) rfl (fun ls hl => ?_)
                        refine lv_iinc (v := nI (t + 1)) (lv' := [(7, .int (nI (t + 1))), (6, .int (nI (0))), (0, .ref (a)), (1, .long (lN (zLn f n))), (3, .int (zset (zmt ml gg n f) i)), (4, .int (nI (n))), (5, .int (nI (i)))]) hx hb dL_places_89 hl (k := 6) rfl (z_inc1 _) (by decide) rfl (fun ls hl => ?_)
                        refine lv_goto (tgt := 40) hx hb dL_places_92 (by decide) ?_
                        have hl9 := lv_sub hl [2, 3, 4, 5, 6, 1, 0] (l' := [(0, .ref (a)), (1, .long (lN (zLn f n))), (3, .int (zset (zmt ml gg n f) i)), (4, .int (nI (n))), (5, .int (nI (i))), (6, .int (nI (0))), (7, .int (nI (t + 1)))]) rfl
                        have e9_6 : (nI (0)) = (zb (zmp ml gg n f i (t + 1))) := zb_f (by first | exact zmp_f (by assumption) (by assumption) | exact zmp_z (by assumption))
                        have e9_7 : (t + 1) = ((t + 1)) := by omega
                        exact ih40 (t + 1) (by omega) (by omega) ls (by rw [← e9_6, ← e9_7]; exact hl9)
                      · refine lv_iconst (v := nI (1)) hx hb dL_places_82 (by decide) ?_
                        refine lv_goto (tgt := 87) hx hb dL_places_83 (by decide) ?_
                        refine lv_istore (lv' := [(6, .int (nI (1))), (0, .ref (a)), (1, .long (lN (zLn f n))), (3, .int (zset (zmt ml gg n f) i)), (4, .int (nI (n))), (5, .int (nI (i))), (7, .int (nI (t)))]) hx hb dL_places_87 hl (by decide) rfl (fun ls hl => ?_)
                        refine lv_iinc (v := nI (t + 1)) (lv' := [(7, .int (nI (t + 1))), (6, .int (nI (1))), (0, .ref (a)), (1, .long (lN (zLn f n))), (3, .int (zset (zmt ml gg n f) i)), (4, .int (nI (n))), (5, .int (nI (i)))]) hx hb dL_places_89 hl (k := 6) rfl (z_inc1 _) (by decide) rfl (fun ls hl => ?_)
                        refine lv_goto (tgt := 40) hx hb dL_places_92 (by decide) ?_
                        have hl9 := lv_sub hl [2, 3, 4, 5, 6, 1, 0] (l' := [(0, .ref (a)), (1, .long (lN (zLn f n))), (3, .int (zset (zmt ml gg n f) i)), (4, .int (nI (n))), (5, .int (nI (i))), (6, .int (nI (1))), (7, .int (nI (t + 1)))]) rfl
                        have e9_6 : (nI (1)) = (zb (zmp ml gg n f i (t + 1))) := zb_t (by first | exact zmp_t (by assumption) (Or.inl (by assumption)) | exact zmp_t (by assumption) (Or.inr (by assumption)))
                        have e9_7 : (t + 1) = ((t + 1)) := by omega
                        exact ih40 (t + 1) (by omega) (by omega) ls (by rw [← e9_6, ← e9_7]; exact hl9)
            rw [show nI 1 = zb (zmp ml gg n f i 0) from zb_t (zmp_0 ⟨by omega, by omega⟩)] at hl
            exact L40 ((ml - (0)) + 1) (0) (Nat.lt_succ_self _) (Nat.zero_le _) ls (lv_sub hl [2, 3, 4, 5, 6, 1, 0] rfl)
  exact L11 ((n - (0)) + 1) (0) (Nat.lt_succ_self _) (Nat.zero_le _) ls (lv_sub hl [3, 4, 2, 1, 0] rfl)

set_option maxHeartbeats 4000000 in
set_option maxRecDepth 100000 in
theorem c_L_ones (E : zEnv) {x : Int32}  : zRO E yL_ones wsL_ones 0 0 [.int (x)] (fun _ => True) (some (.int (zbc x 16))) := by
  refine zRO.ofI (maxL := 3) rfl (Nat.le_of_ble_eq_true rfl) (fun p e s m args below meth c H Q hF hP hret ls hl => ?_)
  have S : CallFix p m c cL_ones 3 s args wsL_ones RL := hF.1
  have hG := hF.2
  obtain ⟨hx, hb, hml, hown, hts⟩ := id S
  have hl : lv_has ls 3 [(0, .int (x))] := hl
  refine lv_iconst (v := nI (0)) hx hb dL_ones_0 (by decide) ?_
  refine lv_istore_n (lv' := [(1, .int (nI (0))), (0, .int (x))]) hx hb dL_ones_1 rfl hl (by decide) rfl (fun ls hl => ?_)
  refine lv_iconst (v := nI (0)) hx hb dL_ones_2 (by decide) ?_
  refine lv_istore_n (lv' := [(2, .int (nI (0))), (1, .int (nI (0))), (0, .int (x))]) hx hb dL_ones_3 rfl hl (by decide) rfl (fun ls hl => ?_)
  have L4 : ∀ (dd : Nat) (i : Nat), 16 - i < dd → (i ≤ 16) → ∀ (ls : Array Slot), lv_has ls 3 [(0, .int (x)), (1, .int (zbc x i)), (2, .int (nI (i)))] → W p (zl E) e (zRm 0 0) s m args below meth c H [] 0 0 Q (F0 m 4 ls []) := by
    intro dd
    induction dd with
    | zero => intro i hdd; exact absurd hdd (Nat.not_lt_zero _)
    | succ dd ih4 =>
      intro i hdd4 hi ls hl
      refine lv_iload_n hx hb dL_ones_4 rfl (lv_at hl 2 rfl) ?_
      refine lv_bipush (v := nI (16)) hx hb dL_ones_5 (by decide) ?_
      refine z_cge (tgt := 24) hx hb dL_ones_7 (by decide) ⟨by omega, by omega⟩ (fun c_1 => ?_) (fun c_1 => ?_)
      · refine lv_iload_n hx hb dL_ones_24 rfl (lv_at hl 1 rfl) ?_
        exact hret _ _ _ dL_ones_25 (by rw [show i = 16 by omega])
      · refine lv_iload_n hx hb dL_ones_10 rfl (lv_at hl 1 rfl) ?_
        refine lv_iload_n hx hb dL_ones_11 rfl (lv_at hl 0 rfl) ?_
        refine lv_iload_n hx hb dL_ones_12 rfl (lv_at hl 2 rfl) ?_
        refine lv_ishr hx hb dL_ones_13 ?_
        refine lv_iconst (v := nI (1)) hx hb dL_ones_14 (by decide) ?_
        refine lv_iand hx hb dL_ones_15 ?_
        refine lv_iadd hx hb dL_ones_16 ?_
        refine lv_istore_n (lv' := [(1, .int ((zbc x i) + (((x) >>> (nI (i) &&& 31)) &&& nI (1)))), (0, .int (x)), (2, .int (nI (i)))]) hx hb dL_ones_17 rfl hl (by decide) rfl (fun ls hl => ?_)
        refine lv_iinc (v := nI (i + 1)) (lv' := [(2, .int (nI (i + 1))), (1, .int ((zbc x i) + (((x) >>> (nI (i) &&& 31)) &&& nI (1)))), (0, .int (x))]) hx hb dL_ones_18 hl (k := 2) rfl (z_inc1 _) (by decide) rfl (fun ls hl => ?_)
        refine lv_goto (tgt := 4) hx hb dL_ones_21 (by decide) ?_
        have hl9 := lv_sub hl [2, 1, 0] (l' := [(0, .int (x)), (1, .int ((zbc x i) + (((x) >>> (nI (i) &&& 31)) &&& nI (1)))), (2, .int (nI (i + 1)))]) rfl
        have e9_1 : ((zbc x i) + (((x) >>> (nI (i) &&& 31)) &&& nI (1))) = (zbc x (i + 1)) := rfl
        have e9_2 : (i + 1) = ((i + 1)) := by omega
        exact ih4 (i + 1) (by omega) (by omega) ls (by rw [← e9_1, ← e9_2]; exact hl9)
  exact L4 ((16 - (0)) + 1) (0) (Nat.lt_succ_self _) (Nat.zero_le _) ls (lv_sub hl [2, 1, 0] rfl)

set_option maxHeartbeats 4000000 in
set_option maxRecDepth 100000 in
theorem c_L_charms (E : zEnv) {n : Nat} {f : Nat → Int32} {x : Int32} (hn : zsz4 n) (hk : ∀ s, s < n → zk (f s)) : zRO E yL_charms wsL_charms 2 46 [.long (lN (zLn f n)), .int (x)] (fun _ => True) (some (.int (nI (zcn f x n)))) := by
  refine zRO.ofI (maxL := 5) rfl (Nat.le_of_ble_eq_true rfl) (fun p e s m args below meth c H Q hF hP hret ls hl => ?_)
  have S : CallFix p m c cL_charms 5 s args wsL_charms RL := hF.1
  have hG := hF.2
  obtain ⟨hx, hb, hml, hown, hts⟩ := id S
  have hb4 := hn.b
  have hL := zLn_62 hb4.2.1 hk
  have hL7 := zLn_pos (f := f) n
  have hl : lv_has ls 5 [(0, .long (lN (zLn f n))), (2, .int (x))] := hl
  refine lv_iconst (v := nI (0)) hx hb dL_charms_0 (by decide) ?_
  refine lv_istore_n (lv' := [(3, .int (nI (0))), (0, .long (lN (zLn f n))), (2, .int (x))]) hx hb dL_charms_1 rfl hl (by decide) rfl (fun ls hl => ?_)
  refine lv_iconst (v := nI (0)) hx hb dL_charms_2 (by decide) ?_
  refine lv_istore (lv' := [(4, .int (nI (0))), (3, .int (nI (0))), (0, .long (lN (zLn f n))), (2, .int (x))]) hx hb dL_charms_3 hl (by decide) rfl (fun ls hl => ?_)
  have L5 : ∀ (dd : Nat) (i : Nat), n - i < dd → (i ≤ n) → ∀ (ls : Array Slot), lv_has ls 5 [(0, .long (lN (zLn f n))), (2, .int (x)), (3, .int (nI (zcn f x i))), (4, .int (nI (i)))] → W p (zl E) e (zRm 2 46) s m args below meth c H [] 0 0 Q (F0 m 5 ls []) := by
    intro dd
    induction dd with
    | zero => intro i hdd; exact absurd hdd (Nat.not_lt_zero _)
    | succ dd ih5 =>
      intro i hdd5 hi ls hl
      refine lv_iload hx hb dL_charms_5 (lv_at hl 3 rfl) ?_
      refine lv_lload_n hx hb dL_charms_7 rfl (lv_at hl 0 rfl) ?_
      refine z_roSX (As := [.long (lN (zLn f n))]) (rest := [.int (nI (i))]) S hG (c_L_slots E hn hk) 1 gL_charms_L_slots rfl kL_slots.2 ⟨Nat.le_of_ble_eq_true rfl, Nat.le_of_ble_eq_true rfl⟩ ⟨Nat.zero_le _, Nat.zero_le _⟩ (trivial) rfl hl.1 rfl rfl (Nat.le_of_ble_eq_true rfl) dL_charms_8 ?_
      refine z_cge (tgt := 38) hx hb dL_charms_11 (by decide) ⟨by omega, by omega⟩ (fun c_1 => ?_) (fun c_1 => ?_)
      · refine lv_iload_n hx hb dL_charms_38 rfl (lv_at hl 2 rfl) ?_
        exact hret _ _ _ dL_charms_39 (by rw [show i = n by omega])
      · refine lv_iload_n hx hb dL_charms_14 rfl (lv_at hl 2 rfl) ?_
        refine lv_lload_n hx hb dL_charms_15 rfl (lv_at hl 0 rfl) ?_
        refine lv_iload hx hb dL_charms_16 (lv_at hl 3 rfl) ?_
        refine z_roSX (As := [.long (lN (zLn f n)), .int (nI (i))]) (rest := [.int (nI (zcn f x i))]) S hG (c_L_kind E (f := f) (j := i) hn hk (by omega)) 2 gL_charms_L_kind rfl kL_kind.2 ⟨Nat.le_of_ble_eq_true rfl, Nat.le_of_ble_eq_true rfl⟩ ⟨Nat.zero_le _, Nat.zero_le _⟩ (trivial) rfl hl.1 rfl rfl (Nat.le_of_ble_eq_true rfl) dL_charms_18 ?_
        refine lv_iload_n hx hb dL_charms_21 rfl (lv_at hl 1 rfl) ?_
        refine lv_icmp_ne (tgt := 29) hx hb dL_charms_22 (by decide) (fun c_2 => ?_) (fun c_2 => ?_)
        · refine lv_iconst (v := nI (0)) hx hb dL_charms_29 (by decide) ?_
          refine z_iadd hx hb dL_charms_30 ?_
          refine lv_istore_n (lv' := [(3, .int (nI ((zcn f x i) + 0))), (0, .long (lN (zLn f n))), (2, .int (x)), (4, .int (nI (i)))]) hx hb dL_charms_31 rfl hl (by decide) rfl (fun ls hl => ?_)
          refine lv_iinc (v := nI (i + 1)) (lv' := [(4, .int (nI (i + 1))), (3, .int (nI ((zcn f x i) + 0))), (0, .long (lN (zLn f n))), (2, .int (x))]) hx hb dL_charms_32 hl (k := 3) rfl (z_inc1 _) (by decide) rfl (fun ls hl => ?_)
          refine lv_goto (tgt := 5) hx hb dL_charms_35 (by decide) ?_
          have hl9 := lv_sub hl [2, 3, 1, 0] (l' := [(0, .long (lN (zLn f n))), (2, .int (x)), (3, .int (nI ((zcn f x i) + 0))), (4, .int (nI (i + 1)))]) rfl
          have e9_3 : ((zcn f x i) + 0) = (zcn f x (i + 1)) := by first | exact zct_t (decide_eq_true c_2) | exact zct_f (decide_eq_false c_2)
          have e9_4 : (i + 1) = ((i + 1)) := by omega
          exact ih5 (i + 1) (by omega) (by omega) ls (by rw [← e9_3, ← e9_4]; exact hl9)
        · refine lv_iconst (v := nI (1)) hx hb dL_charms_25 (by decide) ?_
          refine lv_goto (tgt := 30) hx hb dL_charms_26 (by decide) ?_
          refine z_iadd hx hb dL_charms_30 ?_
          refine lv_istore_n (lv' := [(3, .int (nI ((zcn f x i) + 1))), (0, .long (lN (zLn f n))), (2, .int (x)), (4, .int (nI (i)))]) hx hb dL_charms_31 rfl hl (by decide) rfl (fun ls hl => ?_)
          refine lv_iinc (v := nI (i + 1)) (lv' := [(4, .int (nI (i + 1))), (3, .int (nI ((zcn f x i) + 1))), (0, .long (lN (zLn f n))), (2, .int (x))]) hx hb dL_charms_32 hl (k := 3) rfl (z_inc1 _) (by decide) rfl (fun ls hl => ?_)
          refine lv_goto (tgt := 5) hx hb dL_charms_35 (by decide) ?_
          have hl9 := lv_sub hl [2, 3, 1, 0] (l' := [(0, .long (lN (zLn f n))), (2, .int (x)), (3, .int (nI ((zcn f x i) + 1))), (4, .int (nI (i + 1)))]) rfl
          have e9_3 : ((zcn f x i) + 1) = (zcn f x (i + 1)) := by first | exact zct_t (decide_eq_true c_2) | exact zct_f (decide_eq_false c_2)
          have e9_4 : (i + 1) = ((i + 1)) := by omega
          exact ih5 (i + 1) (by omega) (by omega) ls (by rw [← e9_3, ← e9_4]; exact hl9)
  exact L5 ((n - (0)) + 1) (0) (Nat.lt_succ_self _) (Nat.zero_le _) ls (lv_sub hl [2, 3, 1, 0] rfl)

set_option maxHeartbeats 4000000 in
set_option maxRecDepth 100000 in
theorem c_L_unlike (E : zEnv) {n : Nat} {f : Nat → Int32} {g : Nat → Int32} (hn : zsz4 n) (hk : ∀ s, s < n → zk (f s)) (hg : ∀ s, s < n → zk (g s)) : zRO E yL_unlike wsL_unlike 2 46 [.long (lN (zLn f n)), .long (lN (zLn g n))] (fun _ => True) (some (.int (nI (zct (fun s9 => decide (f s9 ≠ g s9)) n)))) := by
  refine zRO.ofI (maxL := 6) rfl (Nat.le_of_ble_eq_true rfl) (fun p e s m args below meth c H Q hF hP hret ls hl => ?_)
  have S : CallFix p m c cL_unlike 6 s args wsL_unlike RL := hF.1
  have hG := hF.2
  obtain ⟨hx, hb, hml, hown, hts⟩ := id S
  have hb4 := hn.b
  have hL := zLn_62 hb4.2.1 hk
  have hL7 := zLn_pos (f := f) n
  have hl : lv_has ls 6 [(0, .long (lN (zLn f n))), (2, .long (lN (zLn g n)))] := hl
  refine lv_iconst (v := nI (0)) hx hb dL_unlike_0 (by decide) ?_
  refine lv_istore (lv' := [(4, .int (nI (0))), (0, .long (lN (zLn f n))), (2, .long (lN (zLn g n)))]) hx hb dL_unlike_1 hl (by decide) rfl (fun ls hl => ?_)
  refine lv_iconst (v := nI (0)) hx hb dL_unlike_3 (by decide) ?_
  refine lv_istore (lv' := [(5, .int (nI (0))), (4, .int (nI (0))), (0, .long (lN (zLn f n))), (2, .long (lN (zLn g n)))]) hx hb dL_unlike_4 hl (by decide) rfl (fun ls hl => ?_)
  have L6 : ∀ (dd : Nat) (i : Nat), n - i < dd → (i ≤ n) → ∀ (ls : Array Slot), lv_has ls 6 [(0, .long (lN (zLn f n))), (2, .long (lN (zLn g n))), (4, .int (nI (zct (fun s9 => decide (f s9 ≠ g s9)) i))), (5, .int (nI (i)))] → W p (zl E) e (zRm 2 46) s m args below meth c H [] 0 0 Q (F0 m 6 ls []) := by
    intro dd
    induction dd with
    | zero => intro i hdd; exact absurd hdd (Nat.not_lt_zero _)
    | succ dd ih6 =>
      intro i hdd6 hi ls hl
      refine lv_iload hx hb dL_unlike_6 (lv_at hl 3 rfl) ?_
      refine lv_lload_n hx hb dL_unlike_8 rfl (lv_at hl 0 rfl) ?_
      refine z_roSX (As := [.long (lN (zLn f n))]) (rest := [.int (nI (i))]) S hG (c_L_slots E hn hk) 1 gL_unlike_L_slots rfl kL_slots.2 ⟨Nat.le_of_ble_eq_true rfl, Nat.le_of_ble_eq_true rfl⟩ ⟨Nat.zero_le _, Nat.zero_le _⟩ (trivial) rfl hl.1 rfl rfl (Nat.le_of_ble_eq_true rfl) dL_unlike_9 ?_
      refine z_cge (tgt := 46) hx hb dL_unlike_12 (by decide) ⟨by omega, by omega⟩ (fun c_1 => ?_) (fun c_1 => ?_)
      · refine lv_iload hx hb dL_unlike_46 (lv_at hl 2 rfl) ?_
        exact hret _ _ _ dL_unlike_48 (by rw [show i = n by omega])
      · refine lv_iload hx hb dL_unlike_15 (lv_at hl 2 rfl) ?_
        refine lv_lload_n hx hb dL_unlike_17 rfl (lv_at hl 0 rfl) ?_
        refine lv_iload hx hb dL_unlike_18 (lv_at hl 3 rfl) ?_
        refine z_roSX (As := [.long (lN (zLn f n)), .int (nI (i))]) (rest := [.int (nI (zct (fun s9 => decide (f s9 ≠ g s9)) i))]) S hG (c_L_kind E (f := f) (j := i) hn hk (by omega)) 2 gL_unlike_L_kind rfl kL_kind.2 ⟨Nat.le_of_ble_eq_true rfl, Nat.le_of_ble_eq_true rfl⟩ ⟨Nat.zero_le _, Nat.zero_le _⟩ (trivial) rfl hl.1 rfl rfl (Nat.le_of_ble_eq_true rfl) dL_unlike_20 ?_
        refine lv_lload_n hx hb dL_unlike_23 rfl (lv_at hl 1 rfl) ?_
        refine lv_iload hx hb dL_unlike_24 (lv_at hl 3 rfl) ?_
        refine z_roSX (As := [.long (lN (zLn g n)), .int (nI (i))]) (rest := [.int (f i), .int (nI (zct (fun s9 => decide (f s9 ≠ g s9)) i))]) S hG (c_L_kind E (f := g) (j := i) hn hg (by omega)) 2 gL_unlike_L_kind rfl kL_kind.2 ⟨Nat.le_of_ble_eq_true rfl, Nat.le_of_ble_eq_true rfl⟩ ⟨Nat.zero_le _, Nat.zero_le _⟩ (trivial) rfl hl.1 rfl rfl (Nat.le_of_ble_eq_true rfl) dL_unlike_26 ?_
        refine lv_icmp_ne (tgt := 36) hx hb dL_unlike_29 (by decide) (fun c_2 => ?_) (fun c_2 => ?_)
        · refine lv_iconst (v := nI (1)) hx hb dL_unlike_36 (by decide) ?_
          refine z_iadd hx hb dL_unlike_37 ?_
          refine lv_istore (lv' := [(4, .int (nI ((zct (fun s9 => decide (f s9 ≠ g s9)) i) + 1))), (0, .long (lN (zLn f n))), (2, .long (lN (zLn g n))), (5, .int (nI (i)))]) hx hb dL_unlike_38 hl (by decide) rfl (fun ls hl => ?_)
          refine lv_iinc (v := nI (i + 1)) (lv' := [(5, .int (nI (i + 1))), (4, .int (nI ((zct (fun s9 => decide (f s9 ≠ g s9)) i) + 1))), (0, .long (lN (zLn f n))), (2, .long (lN (zLn g n)))]) hx hb dL_unlike_40 hl (k := 3) rfl (z_inc1 _) (by decide) rfl (fun ls hl => ?_)
          refine lv_goto (tgt := 6) hx hb dL_unlike_43 (by decide) ?_
          have hl9 := lv_sub hl [2, 3, 1, 0] (l' := [(0, .long (lN (zLn f n))), (2, .long (lN (zLn g n))), (4, .int (nI ((zct (fun s9 => decide (f s9 ≠ g s9)) i) + 1))), (5, .int (nI (i + 1)))]) rfl
          have e9_4 : ((zct (fun s9 => decide (f s9 ≠ g s9)) i) + 1) = (zct (fun s9 => decide (f s9 ≠ g s9)) (i + 1)) := by first | exact zct_t (decide_eq_true c_2) | exact zct_f (decide_eq_false (fun q => q c_2))
          have e9_5 : (i + 1) = ((i + 1)) := by omega
          exact ih6 (i + 1) (by omega) (by omega) ls (by rw [← e9_4, ← e9_5]; exact hl9)
        · refine lv_iconst (v := nI (0)) hx hb dL_unlike_32 (by decide) ?_
          refine lv_goto (tgt := 37) hx hb dL_unlike_33 (by decide) ?_
          refine z_iadd hx hb dL_unlike_37 ?_
          refine lv_istore (lv' := [(4, .int (nI ((zct (fun s9 => decide (f s9 ≠ g s9)) i) + 0))), (0, .long (lN (zLn f n))), (2, .long (lN (zLn g n))), (5, .int (nI (i)))]) hx hb dL_unlike_38 hl (by decide) rfl (fun ls hl => ?_)
          refine lv_iinc (v := nI (i + 1)) (lv' := [(5, .int (nI (i + 1))), (4, .int (nI ((zct (fun s9 => decide (f s9 ≠ g s9)) i) + 0))), (0, .long (lN (zLn f n))), (2, .long (lN (zLn g n)))]) hx hb dL_unlike_40 hl (k := 3) rfl (z_inc1 _) (by decide) rfl (fun ls hl => ?_)
          refine lv_goto (tgt := 6) hx hb dL_unlike_43 (by decide) ?_
          have hl9 := lv_sub hl [2, 3, 1, 0] (l' := [(0, .long (lN (zLn f n))), (2, .long (lN (zLn g n))), (4, .int (nI ((zct (fun s9 => decide (f s9 ≠ g s9)) i) + 0))), (5, .int (nI (i + 1)))]) rfl
          have e9_4 : ((zct (fun s9 => decide (f s9 ≠ g s9)) i) + 0) = (zct (fun s9 => decide (f s9 ≠ g s9)) (i + 1)) := by first | exact zct_t (decide_eq_true c_2) | exact zct_f (decide_eq_false (fun q => q c_2))
          have e9_5 : (i + 1) = ((i + 1)) := by omega
          exact ih6 (i + 1) (by omega) (by omega) ls (by rw [← e9_4, ← e9_5]; exact hl9)
  exact L6 ((n - (0)) + 1) (0) (Nat.lt_succ_self _) (Nat.zero_le _) ls (lv_sub hl [2, 3, 1, 0] rfl)

set_option maxHeartbeats 4000000 in
set_option maxRecDepth 100000 in
theorem c_L_enough (E : zEnv) {a : Nat} {bb : Nat → Int32} {n : Nat} {f : Nat → Int32} (hn : zsz4 n) (hk : ∀ s, s < n → zk (f s)) : zRO E yL_enough wsL_enough 3 70 [.ref (a), .long (lN (zLn f n))] (fun H => zat E a (.inl (zI E, 10, .inl bb)) H) (some (.int (zb (zall (fun t9 => decide (nI (zcn f (nI (t9 + 1)) n) ≤ bb t9)) 5)))) := by
  refine zRO.ofZ (maxL := 5) rfl (Nat.le_of_ble_eq_true rfl) (fun p e s m args below meth c H Q hF hP hret ls hl => ?_)
  have S : CallFix p m c cL_enough 5 s args wsL_enough RL := hF.1
  have hG := hF.2
  obtain ⟨hx, hb, hml, hown, hts⟩ := id S
  have hb4 := hn.b
  have hL := zLn_62 hb4.2.1 hk
  have hL7 := zLn_pos (f := f) n
  have hl : lv_has ls 5 [(0, .ref (a)), (1, .long (lN (zLn f n)))] := hl
  refine lv_iconst (v := nI (1)) hx hb dL_enough_0 (by decide) ?_
  refine lv_istore_n (lv' := [(3, .int (nI (1))), (0, .ref (a)), (1, .long (lN (zLn f n)))]) hx hb dL_enough_1 rfl hl (by decide) rfl (fun ls hl => ?_)
  refine lv_iconst (v := nI (1)) hx hb dL_enough_2 (by decide) ?_
  refine lv_istore (lv' := [(4, .int (nI (1))), (3, .int (nI (1))), (0, .ref (a)), (1, .long (lN (zLn f n)))]) hx hb dL_enough_3 hl (by decide) rfl (fun ls hl => ?_)
  have L5 : ∀ (dd : Nat) (k : Nat), 5 - k < dd → (k ≤ 5) → ∀ (ls : Array Slot), lv_has ls 5 [(0, .ref (a)), (1, .long (lN (zLn f n))), (3, .int (zb (zall (fun t9 => decide (nI (zcn f (nI (t9 + 1)) n) ≤ bb t9)) k))), (4, .int (nI (k + 1)))] → W p (zl E) e (zRm 3 70) s m args below meth c H [] 0 0 Q (F0 m 5 ls []) := by
    intro dd
    induction dd with
    | zero => intro k hdd; exact absurd hdd (Nat.not_lt_zero _)
    | succ dd ih5 =>
      intro k hdd5 hk9 ls hl
      refine lv_iload hx hb dL_enough_5 (lv_at hl 3 rfl) ?_
      refine lv_iconst (v := nI (5)) hx hb dL_enough_7 (by decide) ?_
      refine z_cgt (tgt := 42) hx hb dL_enough_8 (by decide) ⟨by omega, by omega⟩ (fun c_1 => ?_) (fun c_1 => ?_)
      · refine lv_iload_n hx hb dL_enough_42 rfl (lv_at hl 2 rfl) ?_
        exact hret _ _ _ dL_enough_43 (zb01 _) (by rw [show k = 5 by omega])
      · refine lv_iload_n hx hb dL_enough_11 rfl (lv_at hl 2 rfl) ?_
        refine z_beq (tgt := 34) hx hb dL_enough_12 (by decide) (fun c_2 => ?_) (fun c_2 => ?_)
        · refine lv_iconst (v := nI (0)) hx hb dL_enough_34 (by decide) ?_
          refine lv_istore_n (lv' := [(3, .int (nI (0))), (0, .ref (a)), (1, .long (lN (zLn f n))), (4, .int (nI (k + 1)))]) hx hb dL_enough_35 rfl hl (by decide) rfl (fun ls hl => ?_)
          refine lv_iinc (v := nI (k + 1 + 1)) (lv' := [(4, .int (nI (k + 1 + 1))), (3, .int (nI (0))), (0, .ref (a)), (1, .long (lN (zLn f n)))]) hx hb dL_enough_36 hl (k := 3) rfl (z_inc1 _) (by decide) rfl (fun ls hl => ?_)
          refine lv_goto (tgt := 5) hx hb dL_enough_39 (by decide) ?_
          have hl9 := lv_sub hl [2, 3, 1, 0] (l' := [(0, .ref (a)), (1, .long (lN (zLn f n))), (3, .int (nI (0))), (4, .int (nI (k + 1 + 1)))]) rfl
          have e9_3 : (nI (0)) = (zb (zall (fun t9 => decide (nI (zcn f (nI (t9 + 1)) n) ≤ bb t9)) (k + 1))) := zb_f (by first | exact zall_s (by assumption) | exact zall_no (Nat.lt_succ_self k) (decide_eq_false (Int32.not_le.mpr c_2)))
          have e9_4 : (k + 1 + 1) = ((k + 1) + 1) := by omega
          exact ih5 (k + 1) (by omega) (by omega) ls (by rw [← e9_3, ← e9_4]; exact hl9)
        · refine lv_aload_n hx hb dL_enough_15 rfl (lv_at hl 0 rfl) ?_
          refine lv_iload hx hb dL_enough_16 (lv_at hl 3 rfl) ?_
          refine lv_iconst (v := nI (1)) hx hb dL_enough_18 (by decide) ?_
          refine z_isub hx hb dL_enough_19 (by omega) ?_
          refine z_top (y := nI (k)) (by rw [Nat.add_sub_cancel]) ?_
          refine z_iald (j := k) hx hb hG hP ⟨by omega, by omega⟩ dL_enough_20 ?_
          refine lv_lload_n hx hb dL_enough_21 rfl (lv_at hl 1 rfl) ?_
          refine lv_iload hx hb dL_enough_22 (lv_at hl 3 rfl) ?_
          refine z_roSX (As := [.long (lN (zLn f n)), .int (nI (k + 1))]) (rest := [.int (bb k)]) S hG (c_L_charms E (x := nI (k + 1)) hn hk) 2 gL_enough_L_charms rfl kL_charms.2 ⟨Nat.le_of_ble_eq_true rfl, Nat.le_of_ble_eq_true rfl⟩ ⟨Nat.zero_le _, Nat.zero_le _⟩ (trivial) rfl hl.1 rfl rfl (Nat.le_of_ble_eq_true rfl) dL_enough_24 ?_
          refine lv_icmp_lt (tgt := 34) hx hb dL_enough_27 (by decide) (fun c_3 => ?_) (fun c_3 => ?_)
          · refine lv_iconst (v := nI (0)) hx hb dL_enough_34 (by decide) ?_
            refine lv_istore_n (lv' := [(3, .int (nI (0))), (0, .ref (a)), (1, .long (lN (zLn f n))), (4, .int (nI (k + 1)))]) hx hb dL_enough_35 rfl hl (by decide) rfl (fun ls hl => ?_)
            refine lv_iinc (v := nI (k + 1 + 1)) (lv' := [(4, .int (nI (k + 1 + 1))), (3, .int (nI (0))), (0, .ref (a)), (1, .long (lN (zLn f n)))]) hx hb dL_enough_36 hl (k := 3) rfl (z_inc1 _) (by decide) rfl (fun ls hl => ?_)
            refine lv_goto (tgt := 5) hx hb dL_enough_39 (by decide) ?_
            have hl9 := lv_sub hl [2, 3, 1, 0] (l' := [(0, .ref (a)), (1, .long (lN (zLn f n))), (3, .int (nI (0))), (4, .int (nI (k + 1 + 1)))]) rfl
            have e9_3 : (nI (0)) = (zb (zall (fun t9 => decide (nI (zcn f (nI (t9 + 1)) n) ≤ bb t9)) (k + 1))) := zb_f (by first | exact zall_s (by assumption) | exact zall_no (Nat.lt_succ_self k) (decide_eq_false (Int32.not_le.mpr c_3)))
            have e9_4 : (k + 1 + 1) = ((k + 1) + 1) := by omega
            exact ih5 (k + 1) (by omega) (by omega) ls (by rw [← e9_3, ← e9_4]; exact hl9)
          · refine lv_iconst (v := nI (1)) hx hb dL_enough_30 (by decide) ?_
            refine lv_goto (tgt := 35) hx hb dL_enough_31 (by decide) ?_
            refine lv_istore_n (lv' := [(3, .int (nI (1))), (0, .ref (a)), (1, .long (lN (zLn f n))), (4, .int (nI (k + 1)))]) hx hb dL_enough_35 rfl hl (by decide) rfl (fun ls hl => ?_)
            refine lv_iinc (v := nI (k + 1 + 1)) (lv' := [(4, .int (nI (k + 1 + 1))), (3, .int (nI (1))), (0, .ref (a)), (1, .long (lN (zLn f n)))]) hx hb dL_enough_36 hl (k := 3) rfl (z_inc1 _) (by decide) rfl (fun ls hl => ?_)
            refine lv_goto (tgt := 5) hx hb dL_enough_39 (by decide) ?_
            have hl9 := lv_sub hl [2, 3, 1, 0] (l' := [(0, .ref (a)), (1, .long (lN (zLn f n))), (3, .int (nI (1))), (4, .int (nI (k + 1 + 1)))]) rfl
            have e9_3 : (nI (1)) = (zb (zall (fun t9 => decide (nI (zcn f (nI (t9 + 1)) n) ≤ bb t9)) (k + 1))) := zb_t (zall_t (by assumption) (decide_eq_true (Int32.not_lt.mp c_3)))
            have e9_4 : (k + 1 + 1) = ((k + 1) + 1) := by omega
            exact ih5 (k + 1) (by omega) (by omega) ls (by rw [← e9_3, ← e9_4]; exact hl9)
  have hl : lv_has ls 5 [(4, .int (nI (1))), (3, .int (zb (zall (fun t9 => decide (nI (zcn f (nI (t9 + 1)) n) ≤ bb t9)) 0))), (0, .ref (a)), (1, .long (lN (zLn f n)))] := hl
  exact L5 ((5 - (0)) + 1) (0) (Nat.lt_succ_self _) (Nat.zero_le _) ls (lv_sub hl [2, 3, 1, 0] rfl)

set_option maxHeartbeats 4000000 in
set_option maxRecDepth 100000 in
theorem c_L_room (E : zEnv) {a : Nat} {bb : Nat → Int32} {n : Nat} {f : Nat → Int32} (hn : zsz4 n) (hk : ∀ s, s < n → zk (f s)) : zRO E yL_room wsL_room 3 70 [.ref (a), .long (lN (zLn f n))] (fun H => zat E a (.inl (zI E, 10, .inl bb)) H) (some (.int (zb (zall (fun t9 => decide (bb t9 + nI (zcn f (nI (t9 + 1)) n) ≤ nI 99)) 5)))) := by
  refine zRO.ofZ (maxL := 5) rfl (Nat.le_of_ble_eq_true rfl) (fun p e s m args below meth c H Q hF hP hret ls hl => ?_)
  have S : CallFix p m c cL_room 5 s args wsL_room RL := hF.1
  have hG := hF.2
  obtain ⟨hx, hb, hml, hown, hts⟩ := id S
  have hb4 := hn.b
  have hL := zLn_62 hb4.2.1 hk
  have hL7 := zLn_pos (f := f) n
  have hl : lv_has ls 5 [(0, .ref (a)), (1, .long (lN (zLn f n)))] := hl
  refine lv_iconst (v := nI (1)) hx hb dL_room_0 (by decide) ?_
  refine lv_istore_n (lv' := [(3, .int (nI (1))), (0, .ref (a)), (1, .long (lN (zLn f n)))]) hx hb dL_room_1 rfl hl (by decide) rfl (fun ls hl => ?_)
  refine lv_iconst (v := nI (1)) hx hb dL_room_2 (by decide) ?_
  refine lv_istore (lv' := [(4, .int (nI (1))), (3, .int (nI (1))), (0, .ref (a)), (1, .long (lN (zLn f n)))]) hx hb dL_room_3 hl (by decide) rfl (fun ls hl => ?_)
  have L5 : ∀ (dd : Nat) (k : Nat), 5 - k < dd → (k ≤ 5) → ∀ (ls : Array Slot), lv_has ls 5 [(0, .ref (a)), (1, .long (lN (zLn f n))), (3, .int (zb (zall (fun t9 => decide (bb t9 + nI (zcn f (nI (t9 + 1)) n) ≤ nI 99)) k))), (4, .int (nI (k + 1)))] → W p (zl E) e (zRm 3 70) s m args below meth c H [] 0 0 Q (F0 m 5 ls []) := by
    intro dd
    induction dd with
    | zero => intro k hdd; exact absurd hdd (Nat.not_lt_zero _)
    | succ dd ih5 =>
      intro k hdd5 hk9 ls hl
      refine lv_iload hx hb dL_room_5 (lv_at hl 3 rfl) ?_
      refine lv_iconst (v := nI (5)) hx hb dL_room_7 (by decide) ?_
      refine z_cgt (tgt := 45) hx hb dL_room_8 (by decide) ⟨by omega, by omega⟩ (fun c_1 => ?_) (fun c_1 => ?_)
      · refine lv_iload_n hx hb dL_room_45 rfl (lv_at hl 2 rfl) ?_
        exact hret _ _ _ dL_room_46 (zb01 _) (by rw [show k = 5 by omega])
      · refine lv_iload_n hx hb dL_room_11 rfl (lv_at hl 2 rfl) ?_
        refine z_beq (tgt := 37) hx hb dL_room_12 (by decide) (fun c_2 => ?_) (fun c_2 => ?_)
        · refine lv_iconst (v := nI (0)) hx hb dL_room_37 (by decide) ?_
          refine lv_istore_n (lv' := [(3, .int (nI (0))), (0, .ref (a)), (1, .long (lN (zLn f n))), (4, .int (nI (k + 1)))]) hx hb dL_room_38 rfl hl (by decide) rfl (fun ls hl => ?_)
          refine lv_iinc (v := nI (k + 1 + 1)) (lv' := [(4, .int (nI (k + 1 + 1))), (3, .int (nI (0))), (0, .ref (a)), (1, .long (lN (zLn f n)))]) hx hb dL_room_39 hl (k := 3) rfl (z_inc1 _) (by decide) rfl (fun ls hl => ?_)
          refine lv_goto (tgt := 5) hx hb dL_room_42 (by decide) ?_
          have hl9 := lv_sub hl [2, 3, 1, 0] (l' := [(0, .ref (a)), (1, .long (lN (zLn f n))), (3, .int (nI (0))), (4, .int (nI (k + 1 + 1)))]) rfl
          have e9_3 : (nI (0)) = (zb (zall (fun t9 => decide (bb t9 + nI (zcn f (nI (t9 + 1)) n) ≤ nI 99)) (k + 1))) := zb_f (by first | exact zall_s (by assumption) | exact zall_no (Nat.lt_succ_self k) (decide_eq_false (Int32.not_le.mpr c_2)))
          have e9_4 : (k + 1 + 1) = ((k + 1) + 1) := by omega
          exact ih5 (k + 1) (by omega) (by omega) ls (by rw [← e9_3, ← e9_4]; exact hl9)
        · refine lv_aload_n hx hb dL_room_15 rfl (lv_at hl 0 rfl) ?_
          refine lv_iload hx hb dL_room_16 (lv_at hl 3 rfl) ?_
          refine lv_iconst (v := nI (1)) hx hb dL_room_18 (by decide) ?_
          refine z_isub hx hb dL_room_19 (by omega) ?_
          refine z_top (y := nI (k)) (by rw [Nat.add_sub_cancel]) ?_
          refine z_iald (j := k) hx hb hG hP ⟨by omega, by omega⟩ dL_room_20 ?_
          refine lv_lload_n hx hb dL_room_21 rfl (lv_at hl 1 rfl) ?_
          refine lv_iload hx hb dL_room_22 (lv_at hl 3 rfl) ?_
          refine z_roSX (As := [.long (lN (zLn f n)), .int (nI (k + 1))]) (rest := [.int (bb k)]) S hG (c_L_charms E (x := nI (k + 1)) hn hk) 2 gL_room_L_charms rfl kL_charms.2 ⟨Nat.le_of_ble_eq_true rfl, Nat.le_of_ble_eq_true rfl⟩ ⟨Nat.zero_le _, Nat.zero_le _⟩ (trivial) rfl hl.1 rfl rfl (Nat.le_of_ble_eq_true rfl) dL_room_24 ?_
          refine lv_iadd hx hb dL_room_27 ?_
          refine lv_bipush (v := nI (99)) hx hb dL_room_28 (by decide) ?_
          refine lv_icmp_gt (tgt := 37) hx hb dL_room_30 (by decide) (fun c_3 => ?_) (fun c_3 => ?_)
          · refine lv_iconst (v := nI (0)) hx hb dL_room_37 (by decide) ?_
            refine lv_istore_n (lv' := [(3, .int (nI (0))), (0, .ref (a)), (1, .long (lN (zLn f n))), (4, .int (nI (k + 1)))]) hx hb dL_room_38 rfl hl (by decide) rfl (fun ls hl => ?_)
            refine lv_iinc (v := nI (k + 1 + 1)) (lv' := [(4, .int (nI (k + 1 + 1))), (3, .int (nI (0))), (0, .ref (a)), (1, .long (lN (zLn f n)))]) hx hb dL_room_39 hl (k := 3) rfl (z_inc1 _) (by decide) rfl (fun ls hl => ?_)
            refine lv_goto (tgt := 5) hx hb dL_room_42 (by decide) ?_
            have hl9 := lv_sub hl [2, 3, 1, 0] (l' := [(0, .ref (a)), (1, .long (lN (zLn f n))), (3, .int (nI (0))), (4, .int (nI (k + 1 + 1)))]) rfl
            have e9_3 : (nI (0)) = (zb (zall (fun t9 => decide (bb t9 + nI (zcn f (nI (t9 + 1)) n) ≤ nI 99)) (k + 1))) := zb_f (by first | exact zall_s (by assumption) | exact zall_no (Nat.lt_succ_self k) (decide_eq_false (Int32.not_le.mpr c_3)))
            have e9_4 : (k + 1 + 1) = ((k + 1) + 1) := by omega
            exact ih5 (k + 1) (by omega) (by omega) ls (by rw [← e9_3, ← e9_4]; exact hl9)
          · refine lv_iconst (v := nI (1)) hx hb dL_room_33 (by decide) ?_
            refine lv_goto (tgt := 38) hx hb dL_room_34 (by decide) ?_
            refine lv_istore_n (lv' := [(3, .int (nI (1))), (0, .ref (a)), (1, .long (lN (zLn f n))), (4, .int (nI (k + 1)))]) hx hb dL_room_38 rfl hl (by decide) rfl (fun ls hl => ?_)
            refine lv_iinc (v := nI (k + 1 + 1)) (lv' := [(4, .int (nI (k + 1 + 1))), (3, .int (nI (1))), (0, .ref (a)), (1, .long (lN (zLn f n)))]) hx hb dL_room_39 hl (k := 3) rfl (z_inc1 _) (by decide) rfl (fun ls hl => ?_)
            refine lv_goto (tgt := 5) hx hb dL_room_42 (by decide) ?_
            have hl9 := lv_sub hl [2, 3, 1, 0] (l' := [(0, .ref (a)), (1, .long (lN (zLn f n))), (3, .int (nI (1))), (4, .int (nI (k + 1 + 1)))]) rfl
            have e9_3 : (nI (1)) = (zb (zall (fun t9 => decide (bb t9 + nI (zcn f (nI (t9 + 1)) n) ≤ nI 99)) (k + 1))) := zb_t (zall_t (by assumption) (decide_eq_true (Int32.not_lt.mp c_3)))
            have e9_4 : (k + 1 + 1) = ((k + 1) + 1) := by omega
            exact ih5 (k + 1) (by omega) (by omega) ls (by rw [← e9_3, ← e9_4]; exact hl9)
  have hl : lv_has ls 5 [(4, .int (nI (1))), (3, .int (zb (zall (fun t9 => decide (bb t9 + nI (zcn f (nI (t9 + 1)) n) ≤ nI 99)) 0))), (0, .ref (a)), (1, .long (lN (zLn f n)))] := hl
  exact L5 ((5 - (0)) + 1) (0) (Nat.lt_succ_self _) (Nat.zero_le _) ls (lv_sub hl [2, 3, 1, 0] rfl)
