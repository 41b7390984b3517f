set_option maxHeartbeats 4000000 in
set_option maxRecDepth 100000 in
theorem c_X3_find_0 (E : zEnv) {ad : Nat → Nat} {b : Nat} {v : zS} {x : Int32} (h16 : ∀ t, t < 6 → zSz v t ≤ 16) (hq : zfnd (zSz v) x = none) : zRO E yX3_find wsX3_find 0 0 [.ref (ad b), .int (x)] (fun H => zStA E ad b v H) (some .null) := by
  refine zRO.ofA (maxL := 2) rfl (Nat.le_of_ble_eq_true rfl) (fun p e s m args below meth c H Q hF hP hret ls hl => ?_)
  have S : CallFix p m c cX3_find 2 s args wsX3_find RX3 := hF.1
  have hG := hF.2
  obtain ⟨hx, hb, hml, hown, hts⟩ := id S
  obtain ⟨h0, h1, h2, h3, h4, h5, h6, h7, hR⟩ := id hP
  have hl : lv_has ls 2 [(0, .ref (ad b)), (1, .int (x))] := hl
  have hin2 : ∀ w ∈ u_ws RX2 TX2 2, w ∈ wsX3_find := by decide +kernel
  have hin3 : ∀ w ∈ u_ws RX3 TX3 5, w ∈ wsX3_find := by decide +kernel
  refine lv_iload_n hx hb dX3_find_0 rfl (lv_at hl 1 rfl) ?_
  refine lv_if_lt (tgt := 25) hx hb dX3_find_1 (by decide) (fun c_1 => ?_) (fun c_1 => ?_)
  · refine lv_null hx hb dX3_find_25 ?_
    exact hret _ _ _ dX3_find_26 (Or.inl rfl) (rfl)
  · refine lv_iload_n hx hb dX3_find_4 rfl (lv_at hl 1 rfl) ?_
    refine lv_aload_n hx hb dX3_find_5 rfl (lv_at hl 0 rfl) ?_
    refine z_get (ref := RX3) (C := RX3) (T := TX3) (N := 5) hx hb hts hin3 hown hG h0 rfl 2 (by decide) (by decide +kernel) rfl rfl dX3_find_6 ?_
    refine z_alenR hx hb hG h3 dX3_find_9 ?_
    refine lv_icmp_ge (tgt := 25) hx hb dX3_find_10 (by decide) (fun c_2 => ?_) (fun c_2 => ?_)
    · refine lv_null hx hb dX3_find_25 ?_
      exact hret _ _ _ dX3_find_26 (Or.inl rfl) (rfl)
    · obtain ⟨i, hi, rfl, hsi⟩ : ∃ i, i < 6 ∧ x = nI i ∧ zSz v i = 0 := (zfnd_none hq).elim (fun w => by rw [zix_t (by decide) (by decide) c_1 c_2] at w; cases w) id
      · refine lv_aload_n hx hb dX3_find_13 rfl (lv_at hl 0 rfl) ?_
        refine z_get (ref := RX3) (C := RX3) (T := TX3) (N := 5) hx hb hts hin3 hown hG h0 rfl 2 (by decide) (by decide +kernel) rfl rfl dX3_find_14 ?_
        refine lv_iload_n hx hb dX3_find_17 rfl (lv_at hl 1 rfl) ?_
        refine z_aaldR (j := i) (v := ad (b + 9 + 2 * i)) hx hb hG h3 ⟨by omega, by omega⟩ rfl dX3_find_18 ?_
        refine z_getN (own := RX3) (ref := RX2) (host := "CharmBracelets") (C := RX2) (T := TX2) (N := 2) hx hb hts hin2 hown hG (hR i (by omega)).1 rfl 0 (by decide) (List.mem_of_getElem? (i := 2) rfl) rfl rfl dX3_find_19 ?_
        refine z_fne (tgt := 27) hx hb dX3_find_22 (by decide) (by have h9 := h16 i hi; omega) (fun c_3 => by exfalso; omega) (fun c_3 => ?_)
        refine lv_null hx hb dX3_find_25 ?_
        exact hret _ _ _ dX3_find_26 (Or.inl rfl) (rfl)

set_option maxHeartbeats 4000000 in
set_option maxRecDepth 100000 in
theorem c_X3_find_1 (E : zEnv) {ad : Nat → Nat} {b : Nat} {v : zS} {i : Nat} (hi : i < 6) (hs : zSz v i ≠ 0 ∧ zSz v i ≤ 16) : zRO E yX3_find wsX3_find 0 0 [.ref (ad b), .int (nI (i))] (fun H => zStA E ad b v H) (some (.ref (ad (b + 9 + 2 * i)))) := by
  refine zRO.ofA (maxL := 2) rfl (Nat.le_of_ble_eq_true rfl) (fun p e s m args below meth c H Q hF hP hret ls hl => ?_)
  have S : CallFix p m c cX3_find 2 s args wsX3_find RX3 := hF.1
  have hG := hF.2
  obtain ⟨hx, hb, hml, hown, hts⟩ := id S
  obtain ⟨h0, h1, h2, h3, h4, h5, h6, h7, hR⟩ := id hP
  have hl : lv_has ls 2 [(0, .ref (ad b)), (1, .int (nI (i)))] := hl
  have hin2 : ∀ w ∈ u_ws RX2 TX2 2, w ∈ wsX3_find := by decide +kernel
  have hin3 : ∀ w ∈ u_ws RX3 TX3 5, w ∈ wsX3_find := by decide +kernel
  refine lv_iload_n hx hb dX3_find_0 rfl (lv_at hl 1 rfl) ?_
  refine z_flt (tgt := 25) hx hb dX3_find_1 (by decide) (by omega) ?_
  refine lv_iload_n hx hb dX3_find_4 rfl (lv_at hl 1 rfl) ?_
  refine lv_aload_n hx hb dX3_find_5 rfl (lv_at hl 0 rfl) ?_
  refine z_get (ref := RX3) (C := RX3) (T := TX3) (N := 5) hx hb hts hin3 hown hG h0 rfl 2 (by decide) (by decide +kernel) rfl rfl dX3_find_6 ?_
  refine z_alenR hx hb hG h3 dX3_find_9 ?_
  refine z_cge (tgt := 25) hx hb dX3_find_10 (by decide) ⟨by omega, by omega⟩ (fun c_2 => by exfalso; omega) (fun c_2 => ?_)
  refine lv_aload_n hx hb dX3_find_13 rfl (lv_at hl 0 rfl) ?_
  refine z_get (ref := RX3) (C := RX3) (T := TX3) (N := 5) hx hb hts hin3 hown hG h0 rfl 2 (by decide) (by decide +kernel) rfl rfl dX3_find_14 ?_
  refine lv_iload_n hx hb dX3_find_17 rfl (lv_at hl 1 rfl) ?_
  refine z_aaldR (j := i) (v := ad (b + 9 + 2 * i)) hx hb hG h3 ⟨by omega, by omega⟩ rfl dX3_find_18 ?_
  refine z_getN (own := RX3) (ref := RX2) (host := "CharmBracelets") (C := RX2) (T := TX2) (N := 2) hx hb hts hin2 hown hG (hR i (by omega)).1 rfl 0 (by decide) (List.mem_of_getElem? (i := 2) rfl) rfl rfl dX3_find_19 ?_
  refine z_fne (tgt := 27) hx hb dX3_find_22 (by decide) (by omega) (fun c_3 => ?_) (fun c_3 => by exfalso; omega)
  refine lv_aload_n hx hb dX3_find_27 rfl (lv_at hl 0 rfl) ?_
  refine z_get (ref := RX3) (C := RX3) (T := TX3) (N := 5) hx hb hts hin3 hown hG h0 rfl 2 (by decide) (by decide +kernel) rfl rfl dX3_find_28 ?_
  refine lv_iload_n hx hb dX3_find_31 rfl (lv_at hl 1 rfl) ?_
  refine z_aaldR (j := i) (v := ad (b + 9 + 2 * i)) hx hb hG h3 ⟨by omega, by omega⟩ rfl dX3_find_32 ?_
  exact hret _ _ _ dX3_find_33 (Or.inr ⟨_, rfl⟩) (rfl)

set_option maxHeartbeats 4000000 in
set_option maxRecDepth 100000 in
theorem c_X3_freeNumber (E : zEnv) {ad : Nat → Nat} {b : Nat} {v : zS}  (h16 : ∀ t, t < 6 → zSz v t ≤ 16) : zRO E yX3_freeNumber wsX3_freeNumber 0 0 [.ref (ad b)] (fun H => zStA E ad b v H) (some (.int (nI (zfd (zSz v) 6)))) := by
  refine zRO.ofI (maxL := 2) rfl (Nat.le_of_ble_eq_true rfl) (fun p e s m args below meth c H Q hF hP hret ls hl => ?_)
  have S : CallFix p m c cX3_freeNumber 2 s args wsX3_freeNumber RX3 := hF.1
  have hG := hF.2
  obtain ⟨hx, hb, hml, hown, hts⟩ := id S
  obtain ⟨h0, h1, h2, h3, h4, h5, h6, h7, hR⟩ := id hP
  have hl : lv_has ls 2 [(0, .ref (ad b))] := hl
  have hin2 : ∀ w ∈ u_ws RX2 TX2 2, w ∈ wsX3_freeNumber := by decide +kernel
  have hin3 : ∀ w ∈ u_ws RX3 TX3 5, w ∈ wsX3_freeNumber := by decide +kernel
  refine lv_iconst (v := nI (0)) hx hb dX3_freeNumber_0 (by decide) ?_
  refine lv_istore_n (lv' := [(1, .int (nI (0))), (0, .ref (ad b))]) hx hb dX3_freeNumber_1 rfl hl (by decide) rfl (fun ls hl => ?_)
  have L2 : ∀ (dd : Nat) (i : Nat), 6 - i < dd → (i ≤ 6) → (∀ t, t < i → zSz v t ≠ 0) → ∀ (ls : Array Slot), lv_has ls 2 [(0, .ref (ad b)), (1, .int (nI (i)))] → W p (zl E) e (zRm 0 0) s m args below meth c H [] 0 0 Q (F0 m 2 ls []) := by
    intro dd
    induction dd with
    | zero => intro i hdd; exact absurd hdd (Nat.not_lt_zero _)
    | succ dd ih2 =>
      intro i hdd2 hi hno ls hl
      refine lv_iload_n hx hb dX3_freeNumber_2 rfl (lv_at hl 1 rfl) ?_
      refine lv_aload_n hx hb dX3_freeNumber_3 rfl (lv_at hl 0 rfl) ?_
      refine z_get (ref := RX3) (C := RX3) (T := TX3) (N := 5) hx hb hts hin3 hown hG h0 rfl 2 (by decide) (by decide +kernel) rfl rfl dX3_freeNumber_4 ?_
      refine z_alenR hx hb hG h3 dX3_freeNumber_7 ?_
      refine z_cge (tgt := 31) hx hb dX3_freeNumber_8 (by decide) ⟨by omega, by omega⟩ (fun c_1 => ?_) (fun c_1 => ?_)
      · refine lv_aload_n hx hb dX3_freeNumber_31 rfl (lv_at hl 0 rfl) ?_
        refine z_get (ref := RX3) (C := RX3) (T := TX3) (N := 5) hx hb hts hin3 hown hG h0 rfl 2 (by decide) (by decide +kernel) rfl rfl dX3_freeNumber_32 ?_
        refine z_alenR hx hb hG h3 dX3_freeNumber_35 ?_
        exact hret _ _ _ dX3_freeNumber_36 (by rw [zfd_no (fun t ht => hno t (by omega))])
      · refine lv_aload_n hx hb dX3_freeNumber_11 rfl (lv_at hl 0 rfl) ?_
        refine z_get (ref := RX3) (C := RX3) (T := TX3) (N := 5) hx hb hts hin3 hown hG h0 rfl 2 (by decide) (by decide +kernel) rfl rfl dX3_freeNumber_12 ?_
        refine lv_iload_n hx hb dX3_freeNumber_15 rfl (lv_at hl 1 rfl) ?_
        refine z_aaldR (j := i) (v := ad (b + 9 + 2 * i)) hx hb hG h3 ⟨by omega, by omega⟩ rfl dX3_freeNumber_16 ?_
        refine z_getN (own := RX3) (ref := RX2) (host := "CharmBracelets") (C := RX2) (T := TX2) (N := 2) hx hb hts hin2 hown hG (hR i (by omega)).1 rfl 0 (by decide) (List.mem_of_getElem? (i := 2) rfl) rfl rfl dX3_freeNumber_17 ?_
        refine z_fne (tgt := 25) hx hb dX3_freeNumber_20 (by decide) (by have h9 := h16 i (by omega); omega) (fun c_2 => ?_) (fun c_2 => ?_)
        · refine lv_iinc (v := nI (i + 1)) (lv' := [(1, .int (nI (i + 1))), (0, .ref (ad b))]) hx hb dX3_freeNumber_25 hl (k := 1) rfl (z_inc1 _) (by decide) rfl (fun ls hl => ?_)
          refine lv_goto (tgt := 2) hx hb dX3_freeNumber_28 (by decide) ?_
          have hl9 := lv_sub hl [1, 0] (l' := [(0, .ref (ad b)), (1, .int (nI (i + 1)))]) rfl
          have e9_1 : (i + 1) = ((i + 1)) := by omega
          exact ih2 (i + 1) (by omega) (by omega) (fun t ht => by rcases Nat.lt_or_ge t i with q | q; exact hno t q; rw [show t = i by omega]; exact c_2) ls (by rw [← e9_1]; exact hl9)
        · refine lv_iload_n hx hb dX3_freeNumber_23 rfl (lv_at hl 1 rfl) ?_
          exact hret _ _ _ dX3_freeNumber_24 (by rw [zfd_is (by omega) hno c_2])
  exact L2 ((6 - (0)) + 1) (0) (Nat.lt_succ_self _) (by decide) (fun t ht => absurd ht (Nat.not_lt_zero t)) ls (lv_sub hl [1, 0] rfl)

set_option maxHeartbeats 4000000 in
set_option maxRecDepth 100000 in
theorem c_X3_ringSet (E : zEnv) {ad : Nat → Nat} {b : Nat} {v : zS}  (h16 : ∀ t, t < 6 → zSz v t ≤ 16) : zRO E yX3_ringSet wsX3_ringSet 0 0 [.ref (ad b)] (fun H => zStA E ad b v H) (some (.int (zset (fun t => decide (zSz v t ≠ 0)) 6))) := by
  refine zRO.ofI (maxL := 3) rfl (Nat.le_of_ble_eq_true rfl) (fun p e s m args below meth c H Q hF hP hret ls hl => ?_)
  have S : CallFix p m c cX3_ringSet 3 s args wsX3_ringSet RX3 := hF.1
  have hG := hF.2
  obtain ⟨hx, hb, hml, hown, hts⟩ := id S
  obtain ⟨h0, h1, h2, h3, h4, h5, h6, h7, hR⟩ := id hP
  have hl : lv_has ls 3 [(0, .ref (ad b))] := hl
  have hin2 : ∀ w ∈ u_ws RX2 TX2 2, w ∈ wsX3_ringSet := by decide +kernel
  have hin3 : ∀ w ∈ u_ws RX3 TX3 5, w ∈ wsX3_ringSet := by decide +kernel
  refine lv_iconst (v := nI (0)) hx hb dX3_ringSet_0 (by decide) ?_
  refine lv_istore_n (lv' := [(1, .int (nI (0))), (0, .ref (ad b))]) hx hb dX3_ringSet_1 rfl hl (by decide) rfl (fun ls hl => ?_)
  refine lv_iconst (v := nI (0)) hx hb dX3_ringSet_2 (by decide) ?_
  refine lv_istore_n (lv' := [(2, .int (nI (0))), (1, .int (nI (0))), (0, .ref (ad b))]) hx hb dX3_ringSet_3 rfl hl (by decide) rfl (fun ls hl => ?_)
  have L4 : ∀ (dd : Nat) (i : Nat), 6 - i < dd → (i ≤ 6) → ∀ (ls : Array Slot), lv_has ls 3 [(0, .ref (ad b)), (1, .int (zset (fun t => decide (zSz v t ≠ 0)) i)), (2, .int (nI (i)))] → W p (zl E) e (zRm 0 0) s m args below meth c H [] 0 0 Q (F0 m 4 ls []) := by
    intro dd
    induction dd with
    | zero => intro i hdd; exact absurd hdd (Nat.not_lt_zero _)
    | succ dd ih4 =>
      intro i hdd4 hi ls hl
      refine lv_iload_n hx hb dX3_ringSet_4 rfl (lv_at hl 2 rfl) ?_
      refine lv_aload_n hx hb dX3_ringSet_5 rfl (lv_at hl 0 rfl) ?_
      refine z_get (ref := RX3) (C := RX3) (T := TX3) (N := 5) hx hb hts hin3 hown hG h0 rfl 2 (by decide) (by decide +kernel) rfl rfl dX3_ringSet_6 ?_
      refine z_alenR hx hb hG h3 dX3_ringSet_9 ?_
      refine z_cge (tgt := 37) hx hb dX3_ringSet_10 (by decide) ⟨by omega, by omega⟩ (fun c_1 => ?_) (fun c_1 => ?_)
      · refine lv_iload_n hx hb dX3_ringSet_37 rfl (lv_at hl 1 rfl) ?_
        exact hret _ _ _ dX3_ringSet_38 (by rw [show i = 6 by omega])
      · refine lv_aload_n hx hb dX3_ringSet_13 rfl (lv_at hl 0 rfl) ?_
        refine z_get (ref := RX3) (C := RX3) (T := TX3) (N := 5) hx hb hts hin3 hown hG h0 rfl 2 (by decide) (by decide +kernel) rfl rfl dX3_ringSet_14 ?_
        refine lv_iload_n hx hb dX3_ringSet_17 rfl (lv_at hl 2 rfl) ?_
        refine z_aaldR (j := i) (v := ad (b + 9 + 2 * i)) hx hb hG h3 ⟨by omega, by omega⟩ rfl dX3_ringSet_18 ?_
        refine z_getN (own := RX3) (ref := RX2) (host := "CharmBracelets") (C := RX2) (T := TX2) (N := 2) hx hb hts hin2 hown hG (hR i (by omega)).1 rfl 0 (by decide) (List.mem_of_getElem? (i := 2) rfl) rfl rfl dX3_ringSet_19 ?_
        refine z_feq (tgt := 31) hx hb dX3_ringSet_22 (by decide) (by have h9 := h16 i (by omega); omega) (fun c_2 => ?_) (fun c_2 => ?_)
        · refine lv_iinc (v := nI (i + 1)) (lv' := [(2, .int (nI (i + 1))), (0, .ref (ad b)), (1, .int (zset (fun t => decide (zSz v t ≠ 0)) i))]) hx hb dX3_ringSet_31 hl (k := 2) rfl (z_inc1 _) (by decide) rfl (fun ls hl => ?_)
          refine lv_goto (tgt := 4) hx hb dX3_ringSet_34 (by decide) ?_
          have hl9 := lv_sub hl [1, 2, 0] (l' := [(0, .ref (ad b)), (1, .int (zset (fun t => decide (zSz v t ≠ 0)) i)), (2, .int (nI (i + 1)))]) rfl
          have e9_1 : (zset (fun t => decide (zSz v t ≠ 0)) i) = (zset (fun t => decide (zSz v t ≠ 0)) (i + 1)) := by first | exact zset_t (decide_eq_true c_2) | exact zset_f (decide_eq_false (fun q => q c_2))
          have e9_2 : (i + 1) = ((i + 1)) := by omega
          exact ih4 (i + 1) (by omega) (by omega) ls (by rw [← e9_1, ← e9_2]; exact hl9)
        · refine lv_iload_n hx hb dX3_ringSet_25 rfl (lv_at hl 1 rfl) ?_
          refine lv_iconst (v := nI (1)) hx hb dX3_ringSet_26 (by decide) ?_
          refine lv_iload_n hx hb dX3_ringSet_27 rfl (lv_at hl 2 rfl) ?_
          refine lv_ishl hx hb dX3_ringSet_28 ?_
          refine lv_ior hx hb dX3_ringSet_29 ?_
          refine lv_istore_n (lv' := [(1, .int ((zset (fun t => decide (zSz v t ≠ 0)) i) ||| (nI (1) <<< (nI (i) &&& 31)))), (0, .ref (ad b)), (2, .int (nI (i)))]) hx hb dX3_ringSet_30 rfl hl (by decide) rfl (fun ls hl => ?_)
          refine lv_iinc (v := nI (i + 1)) (lv' := [(2, .int (nI (i + 1))), (1, .int ((zset (fun t => decide (zSz v t ≠ 0)) i) ||| (nI (1) <<< (nI (i) &&& 31)))), (0, .ref (ad b))]) hx hb dX3_ringSet_31 hl (k := 2) rfl (z_inc1 _) (by decide) rfl (fun ls hl => ?_)
          refine lv_goto (tgt := 4) hx hb dX3_ringSet_34 (by decide) ?_
          have hl9 := lv_sub hl [2, 1, 0] (l' := [(0, .ref (ad b)), (1, .int ((zset (fun t => decide (zSz v t ≠ 0)) i) ||| (nI (1) <<< (nI (i) &&& 31)))), (2, .int (nI (i + 1)))]) rfl
          have e9_1 : ((zset (fun t => decide (zSz v t ≠ 0)) i) ||| (nI (1) <<< (nI (i) &&& 31))) = (zset (fun t => decide (zSz v t ≠ 0)) (i + 1)) := by first | exact zset_t (decide_eq_true c_2) | exact zset_f (decide_eq_false (fun q => q c_2))
          have e9_2 : (i + 1) = ((i + 1)) := by omega
          exact ih4 (i + 1) (by omega) (by omega) ls (by rw [← e9_1, ← e9_2]; exact hl9)
  exact L4 ((6 - (0)) + 1) (0) (Nat.lt_succ_self _) (by decide) ls (lv_sub hl [2, 1, 0] rfl)

set_option maxHeartbeats 4000000 in
set_option maxRecDepth 100000 in
theorem c_X3_ringsAlike (E : zEnv) {ad : Nat → Nat} {b : Nat} {v : zS} {a k n : Nat} {f : Nat → Int32} {lv : Nat} (h16 : ∀ t, t < 6 → zSz v t ≤ 16) (hn : 0 < n ∧ n ≤ 16) (hlv : lv ≤ 2) : zRO E yX3_ringsAlike wsX3_ringsAlike 5 115 [.ref (ad b), .ref (a), .int (nI (lv))] (fun H => zStA E ad b v H ∧ zRing E a k n f H) (some (.int (nI (zct (fun t => zal (zSz v t) (zKd v t) n f lv) 6)))) := by
  refine zRO.ofI (maxL := 5) rfl (Nat.le_of_ble_eq_true rfl) (fun p e s m args below meth c H Q hF hP hret ls hl => ?_)
  have S : CallFix p m c cX3_ringsAlike 5 s args wsX3_ringsAlike RX3 := hF.1
  have hG := hF.2
  obtain ⟨hx, hb, hml, hown, hts⟩ := id S
  obtain ⟨⟨h0, h1, h2, h3, h4, h5, h6, h7, hR⟩, g1, g2⟩ := id hP
  have hl : lv_has ls 5 [(0, .ref (ad b)), (1, .ref (a)), (2, .int (nI (lv)))] := hl
  have hin3 : ∀ w ∈ u_ws RX3 TX3 5, w ∈ wsX3_ringsAlike := by decide +kernel
  refine lv_iconst (v := nI (0)) hx hb dX3_ringsAlike_0 (by decide) ?_
  refine lv_istore_n (lv' := [(3, .int (nI (0))), (0, .ref (ad b)), (1, .ref (a)), (2, .int (nI (lv)))]) hx hb dX3_ringsAlike_1 rfl hl (by decide) rfl (fun ls hl => ?_)
  refine lv_iconst (v := nI (0)) hx hb dX3_ringsAlike_2 (by decide) ?_
  refine lv_istore (lv' := [(4, .int (nI (0))), (3, .int (nI (0))), (0, .ref (ad b)), (1, .ref (a)), (2, .int (nI (lv)))]) hx hb dX3_ringsAlike_3 hl (by decide) rfl (fun ls hl => ?_)
  have L5 : ∀ (dd : Nat) (i : Nat), 6 - i < dd → (i ≤ 6) → ∀ (ls : Array Slot), lv_has ls 5 [(0, .ref (ad b)), (1, .ref (a)), (2, .int (nI (lv))), (3, .int (nI (zct (fun t => zal (zSz v t) (zKd v t) n f lv) i))), (4, .int (nI (i)))] → W p (zl E) e (zRm 5 115) s m args below meth c H [] 0 0 Q (F0 m 5 ls []) := by
    intro dd
    induction dd with
    | zero => intro i hdd; exact absurd hdd (Nat.not_lt_zero _)
    | succ dd ih5 =>
      intro i hdd5 hi ls hl
      refine lv_iload hx hb dX3_ringsAlike_5 (lv_at hl 4 rfl) ?_
      refine lv_aload_n hx hb dX3_ringsAlike_7 rfl (lv_at hl 0 rfl) ?_
      refine z_get (ref := RX3) (C := RX3) (T := TX3) (N := 5) hx hb hts hin3 hown hG h0 rfl 2 (by decide) (by decide +kernel) rfl rfl dX3_ringsAlike_8 ?_
      refine z_alenR hx hb hG h3 dX3_ringsAlike_11 ?_
      refine z_cge (tgt := 39) hx hb dX3_ringsAlike_12 (by decide) ⟨by omega, by omega⟩ (fun c_1 => ?_) (fun c_1 => ?_)
      · refine lv_iload_n hx hb dX3_ringsAlike_39 rfl (lv_at hl 3 rfl) ?_
        exact hret _ _ _ dX3_ringsAlike_40 (by rw [show i = 6 by omega])
      · refine lv_aload_n hx hb dX3_ringsAlike_15 rfl (lv_at hl 0 rfl) ?_
        refine z_get (ref := RX3) (C := RX3) (T := TX3) (N := 5) hx hb hts hin3 hown hG h0 rfl 2 (by decide) (by decide +kernel) rfl rfl dX3_ringsAlike_16 ?_
        refine lv_iload hx hb dX3_ringsAlike_19 (lv_at hl 4 rfl) ?_
        refine z_aaldR (j := i) (v := ad (b + 9 + 2 * i)) hx hb hG h3 ⟨by omega, by omega⟩ rfl dX3_ringsAlike_21 ?_
        refine lv_aload_n hx hb dX3_ringsAlike_22 rfl (lv_at hl 1 rfl) ?_
        refine lv_iload_n hx hb dX3_ringsAlike_23 rfl (lv_at hl 2 rfl) ?_
        by_cases hz0 : zSz v i = 0
        · refine z_roVN (As := [.ref (a), .int (nI (lv))]) (rest := []) (host := "CharmBracelets") (q := (RX2, TX2, 2)) S hG (c_X2_isAlike_0 E hn) 2 gX3_ringsAlike_X2_isAlike_n59 (List.mem_of_getElem? (i := 46) rfl) (by decide +kernel) rfl kX2_isAlike.2 ⟨Nat.le_of_ble_eq_true rfl, Nat.le_of_ble_eq_true rfl⟩ ⟨Nat.zero_le _, Nat.zero_le _⟩ (⟨by have h9 := hR i (by omega); rw [hz0] at h9; exact h9, g1, g2⟩) rfl (hR i (by omega)).1 rfl hl.1 rfl rfl (Nat.le_of_ble_eq_true rfl) dX3_ringsAlike_24 ?_
          refine z_top (y := zb (zal (zSz v i) (zKd v i) n f lv)) (zb_f' (by rw [hz0]; exact zal_0 hn.1)) ?_
          refine z_beq (tgt := 33) hx hb dX3_ringsAlike_27 (by decide) (fun c_2 => ?_) (fun c_2 => ?_)
          · refine lv_iinc (v := nI (i + 1)) (lv' := [(4, .int (nI (i + 1))), (0, .ref (ad b)), (1, .ref (a)), (2, .int (nI (lv))), (3, .int (nI (zct (fun t => zal (zSz v t) (zKd v t) n f lv) i)))]) hx hb dX3_ringsAlike_33 hl (k := 4) rfl (z_inc1 _) (by decide) rfl (fun ls hl => ?_)
            refine lv_goto (tgt := 5) hx hb dX3_ringsAlike_36 (by decide) ?_
            have hl9 := lv_sub hl [1, 2, 3, 4, 0] (l' := [(0, .ref (ad b)), (1, .ref (a)), (2, .int (nI (lv))), (3, .int (nI (zct (fun t => zal (zSz v t) (zKd v t) n f lv) i))), (4, .int (nI (i + 1)))]) rfl
            have e9_3 : (zct (fun t => zal (zSz v t) (zKd v t) n f lv) i) = (zct (fun t => zal (zSz v t) (zKd v t) n f lv) (i + 1)) := by first | exact zct_t c_2 | exact zct_f c_2
            have e9_4 : (i + 1) = ((i + 1)) := by omega
            exact ih5 (i + 1) (by omega) (by omega) ls (by rw [← e9_3, ← e9_4]; exact hl9)
          · refine lv_iinc (v := nI (zct (fun t => zal (zSz v t) (zKd v t) n f lv) i + 1)) (lv' := [(3, .int (nI (zct (fun t => zal (zSz v t) (zKd v t) n f lv) i + 1))), (0, .ref (ad b)), (1, .ref (a)), (2, .int (nI (lv))), (4, .int (nI (i)))]) hx hb dX3_ringsAlike_30 hl (k := 3) rfl (z_inc1 _) (by decide) rfl (fun ls hl => ?_)
            refine lv_iinc (v := nI (i + 1)) (lv' := [(4, .int (nI (i + 1))), (3, .int (nI (zct (fun t => zal (zSz v t) (zKd v t) n f lv) i + 1))), (0, .ref (ad b)), (1, .ref (a)), (2, .int (nI (lv)))]) hx hb dX3_ringsAlike_33 hl (k := 4) rfl (z_inc1 _) (by decide) rfl (fun ls hl => ?_)
            refine lv_goto (tgt := 5) hx hb dX3_ringsAlike_36 (by decide) ?_
            have hl9 := lv_sub hl [2, 3, 4, 1, 0] (l' := [(0, .ref (ad b)), (1, .ref (a)), (2, .int (nI (lv))), (3, .int (nI (zct (fun t => zal (zSz v t) (zKd v t) n f lv) i + 1))), (4, .int (nI (i + 1)))]) rfl
            have e9_3 : (zct (fun t => zal (zSz v t) (zKd v t) n f lv) i + 1) = (zct (fun t => zal (zSz v t) (zKd v t) n f lv) (i + 1)) := by first | exact zct_t c_2 | exact zct_f c_2
            have e9_4 : (i + 1) = ((i + 1)) := by omega
            exact ih5 (i + 1) (by omega) (by omega) ls (by rw [← e9_3, ← e9_4]; exact hl9)
        · refine z_roVN (As := [.ref (a), .int (nI (lv))]) (rest := []) (host := "CharmBracelets") (q := (RX2, TX2, 2)) S hG (c_X2_isAlike E (n := zSz v i) ⟨Nat.pos_of_ne_zero hz0, h16 i (by omega)⟩ hn.2 hlv) 2 gX3_ringsAlike_X2_isAlike_n59 (List.mem_of_getElem? (i := 46) rfl) (by decide +kernel) rfl kX2_isAlike.2 ⟨Nat.le_of_ble_eq_true rfl, Nat.le_of_ble_eq_true rfl⟩ ⟨Nat.zero_le _, Nat.zero_le _⟩ (⟨hR i (by omega), g1, g2⟩) rfl (hR i (by omega)).1 rfl hl.1 rfl rfl (Nat.le_of_ble_eq_true rfl) dX3_ringsAlike_24 ?_
          refine z_top (y := zb (zal (zSz v i) (zKd v i) n f lv)) (by rw [zan_md (Nat.pos_of_ne_zero hz0)]; rfl) ?_
          refine z_beq (tgt := 33) hx hb dX3_ringsAlike_27 (by decide) (fun c_3 => ?_) (fun c_3 => ?_)
          · refine lv_iinc (v := nI (i + 1)) (lv' := [(4, .int (nI (i + 1))), (0, .ref (ad b)), (1, .ref (a)), (2, .int (nI (lv))), (3, .int (nI (zct (fun t => zal (zSz v t) (zKd v t) n f lv) i)))]) hx hb dX3_ringsAlike_33 hl (k := 4) rfl (z_inc1 _) (by decide) rfl (fun ls hl => ?_)
            refine lv_goto (tgt := 5) hx hb dX3_ringsAlike_36 (by decide) ?_
            have hl9 := lv_sub hl [1, 2, 3, 4, 0] (l' := [(0, .ref (ad b)), (1, .ref (a)), (2, .int (nI (lv))), (3, .int (nI (zct (fun t => zal (zSz v t) (zKd v t) n f lv) i))), (4, .int (nI (i + 1)))]) rfl
            have e9_3 : (zct (fun t => zal (zSz v t) (zKd v t) n f lv) i) = (zct (fun t => zal (zSz v t) (zKd v t) n f lv) (i + 1)) := by first | exact zct_t c_3 | exact zct_f c_3
            have e9_4 : (i + 1) = ((i + 1)) := by omega
            exact ih5 (i + 1) (by omega) (by omega) ls (by rw [← e9_3, ← e9_4]; exact hl9)
          · refine lv_iinc (v := nI (zct (fun t => zal (zSz v t) (zKd v t) n f lv) i + 1)) (lv' := [(3, .int (nI (zct (fun t => zal (zSz v t) (zKd v t) n f lv) i + 1))), (0, .ref (ad b)), (1, .ref (a)), (2, .int (nI (lv))), (4, .int (nI (i)))]) hx hb dX3_ringsAlike_30 hl (k := 3) rfl (z_inc1 _) (by decide) rfl (fun ls hl => ?_)
            refine lv_iinc (v := nI (i + 1)) (lv' := [(4, .int (nI (i + 1))), (3, .int (nI (zct (fun t => zal (zSz v t) (zKd v t) n f lv) i + 1))), (0, .ref (ad b)), (1, .ref (a)), (2, .int (nI (lv)))]) hx hb dX3_ringsAlike_33 hl (k := 4) rfl (z_inc1 _) (by decide) rfl (fun ls hl => ?_)
            refine lv_goto (tgt := 5) hx hb dX3_ringsAlike_36 (by decide) ?_
            have hl9 := lv_sub hl [2, 3, 4, 1, 0] (l' := [(0, .ref (ad b)), (1, .ref (a)), (2, .int (nI (lv))), (3, .int (nI (zct (fun t => zal (zSz v t) (zKd v t) n f lv) i + 1))), (4, .int (nI (i + 1)))]) rfl
            have e9_3 : (zct (fun t => zal (zSz v t) (zKd v t) n f lv) i + 1) = (zct (fun t => zal (zSz v t) (zKd v t) n f lv) (i + 1)) := by first | exact zct_t c_3 | exact zct_f c_3
            have e9_4 : (i + 1) = ((i + 1)) := by omega
            exact ih5 (i + 1) (by omega) (by omega) ls (by rw [← e9_3, ← e9_4]; exact hl9)
  exact L5 ((6 - (0)) + 1) (0) (Nat.lt_succ_self _) (by decide) ls (lv_sub hl [2, 3, 4, 1, 0] rfl)

set_option maxHeartbeats 4000000 in
set_option maxRecDepth 100000 in
theorem c_X3_charmsHung (E : zEnv) {ad : Nat → Nat} {b : Nat} {v : zS} {x : Int32} (h16 : ∀ t, t < 6 → zSz v t ≤ 16) : zRO E yX3_charmsHung wsX3_charmsHung 2 44 [.ref (ad b), .int (x)] (fun H => zStA E ad b v H) (some (.int (nI (zns (fun t => zcn (zKd v t) x (zSz v t)) 6)))) := by
  refine zRO.ofI (maxL := 4) rfl (Nat.le_of_ble_eq_true rfl) (fun p e s m args below meth c H Q hF hP hret ls hl => ?_)
  have S : CallFix p m c cX3_charmsHung 4 s args wsX3_charmsHung RX3 := hF.1
  have hG := hF.2
  obtain ⟨hx, hb, hml, hown, hts⟩ := id S
  obtain ⟨h0, h1, h2, h3, h4, h5, h6, h7, hR⟩ := id hP
  have hl : lv_has ls 4 [(0, .ref (ad b)), (1, .int (x))] := hl
  have hin3 : ∀ w ∈ u_ws RX3 TX3 5, w ∈ wsX3_charmsHung := by decide +kernel
  refine lv_iconst (v := nI (0)) hx hb dX3_charmsHung_0 (by decide) ?_
  refine lv_istore_n (lv' := [(2, .int (nI (0))), (0, .ref (ad b)), (1, .int (x))]) hx hb dX3_charmsHung_1 rfl hl (by decide) rfl (fun ls hl => ?_)
  refine lv_iconst (v := nI (0)) hx hb dX3_charmsHung_2 (by decide) ?_
  refine lv_istore_n (lv' := [(3, .int (nI (0))), (2, .int (nI (0))), (0, .ref (ad b)), (1, .int (x))]) hx hb dX3_charmsHung_3 rfl hl (by decide) rfl (fun ls hl => ?_)
  have L4 : ∀ (dd : Nat) (i : Nat), 6 - i < dd → (i ≤ 6) → ∀ (ls : Array Slot), lv_has ls 4 [(0, .ref (ad b)), (1, .int (x)), (2, .int (nI (zns (fun t => zcn (zKd v t) x (zSz v t)) i))), (3, .int (nI (i)))] → W p (zl E) e (zRm 2 44) s m args below meth c H [] 0 0 Q (F0 m 4 ls []) := by
    intro dd
    induction dd with
    | zero => intro i hdd; exact absurd hdd (Nat.not_lt_zero _)
    | succ dd ih4 =>
      intro i hdd4 hi ls hl
      refine lv_iload_n hx hb dX3_charmsHung_4 rfl (lv_at hl 3 rfl) ?_
      refine lv_aload_n hx hb dX3_charmsHung_5 rfl (lv_at hl 0 rfl) ?_
      refine z_get (ref := RX3) (C := RX3) (T := TX3) (N := 5) hx hb hts hin3 hown hG h0 rfl 2 (by decide) (by decide +kernel) rfl rfl dX3_charmsHung_6 ?_
      refine z_alenR hx hb hG h3 dX3_charmsHung_9 ?_
      refine z_cge (tgt := 32) hx hb dX3_charmsHung_10 (by decide) ⟨by omega, by omega⟩ (fun c_1 => ?_) (fun c_1 => ?_)
      · refine lv_iload_n hx hb dX3_charmsHung_32 rfl (lv_at hl 2 rfl) ?_
        exact hret _ _ _ dX3_charmsHung_33 (by rw [show i = 6 by omega])
      · refine lv_iload_n hx hb dX3_charmsHung_13 rfl (lv_at hl 2 rfl) ?_
        refine lv_aload_n hx hb dX3_charmsHung_14 rfl (lv_at hl 0 rfl) ?_
        refine z_get (ref := RX3) (C := RX3) (T := TX3) (N := 5) hx hb hts hin3 hown hG h0 rfl 2 (by decide) (by decide +kernel) rfl rfl dX3_charmsHung_15 ?_
        refine lv_iload_n hx hb dX3_charmsHung_18 rfl (lv_at hl 3 rfl) ?_
        refine z_aaldR (j := i) (v := ad (b + 9 + 2 * i)) hx hb hG h3 ⟨by omega, by omega⟩ rfl dX3_charmsHung_19 ?_
        refine lv_iload_n hx hb dX3_charmsHung_20 rfl (lv_at hl 1 rfl) ?_
        refine z_roVN (As := [.int (x)]) (rest := [.int (nI (zns (fun t => zcn (zKd v t) x (zSz v t)) i))]) (host := "CharmBracelets") (q := (RX2, TX2, 2)) S hG (c_X2_charmsOf E (h16 i (by omega))) 1 gX3_charmsHung_X2_charmsOf_n63 (List.mem_of_getElem? (i := 14) rfl) (by decide +kernel) rfl kX2_charmsOf.2 ⟨Nat.le_of_ble_eq_true rfl, Nat.le_of_ble_eq_true rfl⟩ ⟨Nat.zero_le _, Nat.zero_le _⟩ (hR i (by omega)) rfl (hR i (by omega)).1 rfl hl.1 rfl rfl (Nat.le_of_ble_eq_true rfl) dX3_charmsHung_21 ?_
        refine z_iadd hx hb dX3_charmsHung_24 ?_
        refine lv_istore_n (lv' := [(2, .int (nI ((zns (fun t => zcn (zKd v t) x (zSz v t)) i) + (zcn (zKd v i) x (zSz v i))))), (0, .ref (ad b)), (1, .int (x)), (3, .int (nI (i)))]) hx hb dX3_charmsHung_25 rfl hl (by decide) rfl (fun ls hl => ?_)
        refine lv_iinc (v := nI (i + 1)) (lv' := [(3, .int (nI (i + 1))), (2, .int (nI ((zns (fun t => zcn (zKd v t) x (zSz v t)) i) + (zcn (zKd v i) x (zSz v i))))), (0, .ref (ad b)), (1, .int (x))]) hx hb dX3_charmsHung_26 hl (k := 3) rfl (z_inc1 _) (by decide) rfl (fun ls hl => ?_)
        refine lv_goto (tgt := 4) hx hb dX3_charmsHung_29 (by decide) ?_
        have hl9 := lv_sub hl [2, 3, 1, 0] (l' := [(0, .ref (ad b)), (1, .int (x)), (2, .int (nI ((zns (fun t => zcn (zKd v t) x (zSz v t)) i) + (zcn (zKd v i) x (zSz v i))))), (3, .int (nI (i + 1)))]) rfl
        have e9_2 : ((zns (fun t => zcn (zKd v t) x (zSz v t)) i) + (zcn (zKd v i) x (zSz v i))) = (zns (fun t => zcn (zKd v t) x (zSz v t)) (i + 1)) := rfl
        have e9_3 : (i + 1) = ((i + 1)) := by omega
        exact ih4 (i + 1) (by omega) (by omega) ls (by rw [← e9_2, ← e9_3]; exact hl9)
  exact L4 ((6 - (0)) + 1) (0) (Nat.lt_succ_self _) (by decide) ls (lv_sub hl [2, 3, 1, 0] rfl)

set_option maxHeartbeats 4000000 in
set_option maxRecDepth 100000 in
theorem c_X3_boxHasCharmsFor (E : zEnv) {ad : Nat → Nat} {b : Nat} {v : zS} {a k n : Nat} {f : Nat → Int32}  (hn : n ≤ 16) : zRO E yX3_boxHasCharmsFor wsX3_boxHasCharmsFor 2 44 [.ref (ad b), .ref (a)] (fun H => zStA E ad b v H ∧ zRing E a k n f H) (some (.int (zb (zall (fun t => decide (nI (zcn f (nI (t + 1)) n) ≤ zBx v (t + 1))) 5)))) := by
  refine zRO.ofZ (maxL := 3) rfl (Nat.le_of_ble_eq_true rfl) (fun p e s m args below meth c H Q hF hP hret ls hl => ?_)
  have S : CallFix p m c cX3_boxHasCharmsFor 3 s args wsX3_boxHasCharmsFor RX3 := hF.1
  have hG := hF.2
  obtain ⟨hx, hb, hml, hown, hts⟩ := id S
  obtain ⟨⟨h0, h1, h2, h3, h4, h5, h6, h7, hR⟩, g1, g2⟩ := id hP
  have hl : lv_has ls 3 [(0, .ref (ad b)), (1, .ref (a))] := hl
  have hin3 : ∀ w ∈ u_ws RX3 TX3 5, w ∈ wsX3_boxHasCharmsFor := by decide +kernel
  refine lv_iconst (v := nI (1)) hx hb dX3_boxHasCharmsFor_0 (by decide) ?_
  refine lv_istore_n (lv' := [(2, .int (nI (1))), (0, .ref (ad b)), (1, .ref (a))]) hx hb dX3_boxHasCharmsFor_1 rfl hl (by decide) rfl (fun ls hl => ?_)
  have L2 : ∀ (dd : Nat) (t : Nat), 5 - t < dd → (t ≤ 5) → (zall (fun t => decide (nI (zcn f (nI (t + 1)) n) ≤ zBx v (t + 1))) t = true) → ∀ (ls : Array Slot), lv_has ls 3 [(0, .ref (ad b)), (1, .ref (a)), (2, .int (nI (t + 1)))] → W p (zl E) e (zRm 2 44) s m args below meth c H [] 0 0 Q (F0 m 2 ls []) := by
    intro dd
    induction dd with
    | zero => intro t hdd; exact absurd hdd (Nat.not_lt_zero _)
    | succ dd ih2 =>
      intro t hdd2 ht hal ls hl
      refine lv_iload_n hx hb dX3_boxHasCharmsFor_2 rfl (lv_at hl 2 rfl) ?_
      refine lv_iconst (v := nI (5)) hx hb dX3_boxHasCharmsFor_3 (by decide) ?_
      refine z_cgt (tgt := 29) hx hb dX3_boxHasCharmsFor_4 (by decide) ⟨by omega, by omega⟩ (fun c_1 => ?_) (fun c_1 => ?_)
      · refine lv_iconst (v := nI (1)) hx hb dX3_boxHasCharmsFor_29 (by decide) ?_
        exact hret _ _ _ dX3_boxHasCharmsFor_30 (by first | exact Or.inl rfl | exact Or.inr rfl) (by have e9 : t = 5 := (by omega); rw [e9] at hal; exact zrt hal)
      · refine lv_aload_n hx hb dX3_boxHasCharmsFor_7 rfl (lv_at hl 1 rfl) ?_
        refine lv_iload_n hx hb dX3_boxHasCharmsFor_8 rfl (lv_at hl 2 rfl) ?_
        refine z_roVN (As := [.int (nI (t + 1))]) (rest := []) (host := "CharmBracelets") (q := (RX2, TX2, 2)) S hG (c_X2_charmsOf E (x := nI (t + 1)) hn) 1 gX3_boxHasCharmsFor_X2_charmsOf_n63 (List.mem_of_getElem? (i := 14) rfl) (by decide +kernel) rfl kX2_charmsOf.2 ⟨Nat.le_of_ble_eq_true rfl, Nat.le_of_ble_eq_true rfl⟩ ⟨Nat.zero_le _, Nat.zero_le _⟩ (⟨g1, g2⟩) rfl g1 rfl hl.1 rfl rfl (Nat.le_of_ble_eq_true rfl) dX3_boxHasCharmsFor_9 ?_
        refine lv_aload_n hx hb dX3_boxHasCharmsFor_12 rfl (lv_at hl 0 rfl) ?_
        refine z_get (ref := RX3) (C := RX3) (T := TX3) (N := 5) hx hb hts hin3 hown hG h0 rfl 0 (by decide) (by decide +kernel) rfl rfl dX3_boxHasCharmsFor_13 ?_
        refine lv_iload_n hx hb dX3_boxHasCharmsFor_16 rfl (lv_at hl 2 rfl) ?_
        refine z_iald (j := t + 1) hx hb hG h1 ⟨by omega, by omega⟩ dX3_boxHasCharmsFor_17 ?_
        refine lv_icmp_le (tgt := 23) hx hb dX3_boxHasCharmsFor_18 (by decide) (fun c_2 => ?_) (fun c_2 => ?_)
        · refine lv_iinc (v := nI (t + 1 + 1)) (lv' := [(2, .int (nI (t + 1 + 1))), (0, .ref (ad b)), (1, .ref (a))]) hx hb dX3_boxHasCharmsFor_23 hl (k := 2) rfl (z_inc1 _) (by decide) rfl (fun ls hl => ?_)
          refine lv_goto (tgt := 2) hx hb dX3_boxHasCharmsFor_26 (by decide) ?_
          have hl9 := lv_sub hl [1, 2, 0] (l' := [(0, .ref (ad b)), (1, .ref (a)), (2, .int (nI (t + 1 + 1)))]) rfl
          have e9_2 : (t + 1 + 1) = ((t + 1) + 1) := by omega
          exact ih2 (t + 1) (by omega) (by omega) (zall_t hal (decide_eq_true c_2)) ls (by rw [← e9_2]; exact hl9)
        · refine lv_iconst (v := nI (0)) hx hb dX3_boxHasCharmsFor_21 (by decide) ?_
          exact hret _ _ _ dX3_boxHasCharmsFor_22 (by first | exact Or.inl rfl | exact Or.inr rfl) (zrf (zall_no (i := t) (by omega) (decide_eq_false c_2)))
  exact L2 ((5 - (0)) + 1) (0) (Nat.lt_succ_self _) (by decide) (rfl) ls (lv_sub hl [1, 2, 0] rfl)

set_option maxHeartbeats 4000000 in
set_option maxRecDepth 100000 in
theorem c_X3_boxHasRoomFor (E : zEnv) {ad : Nat → Nat} {b : Nat} {v : zS} {a k n : Nat} {f : Nat → Int32}  (hn : n ≤ 16) : zRO E yX3_boxHasRoomFor wsX3_boxHasRoomFor 2 44 [.ref (ad b), .ref (a)] (fun H => zStA E ad b v H ∧ zRing E a k n f H) (some (.int (zb (zall (fun t => decide (zBx v (t + 1) + nI (zcn f (nI (t + 1)) n) ≤ nI 99)) 5)))) := by
  refine zRO.ofZ (maxL := 3) rfl (Nat.le_of_ble_eq_true rfl) (fun p e s m args below meth c H Q hF hP hret ls hl => ?_)
  have S : CallFix p m c cX3_boxHasRoomFor 3 s args wsX3_boxHasRoomFor RX3 := hF.1
  have hG := hF.2
  obtain ⟨hx, hb, hml, hown, hts⟩ := id S
  obtain ⟨⟨h0, h1, h2, h3, h4, h5, h6, h7, hR⟩, g1, g2⟩ := id hP
  have hl : lv_has ls 3 [(0, .ref (ad b)), (1, .ref (a))] := hl
  have hin3 : ∀ w ∈ u_ws RX3 TX3 5, w ∈ wsX3_boxHasRoomFor := by decide +kernel
  refine lv_iconst (v := nI (1)) hx hb dX3_boxHasRoomFor_0 (by decide) ?_
  refine lv_istore_n (lv' := [(2, .int (nI (1))), (0, .ref (ad b)), (1, .ref (a))]) hx hb dX3_boxHasRoomFor_1 rfl hl (by decide) rfl (fun ls hl => ?_)
  have L2 : ∀ (dd : Nat) (t : Nat), 5 - t < dd → (t ≤ 5) → (zall (fun t => decide (zBx v (t + 1) + nI (zcn f (nI (t + 1)) n) ≤ nI 99)) t = true) → ∀ (ls : Array Slot), lv_has ls 3 [(0, .ref (ad b)), (1, .ref (a)), (2, .int (nI (t + 1)))] → W p (zl E) e (zRm 2 44) s m args below meth c H [] 0 0 Q (F0 m 2 ls []) := by
    intro dd
    induction dd with
    | zero => intro t hdd; exact absurd hdd (Nat.not_lt_zero _)
    | succ dd ih2 =>
      intro t hdd2 ht hal ls hl
      refine lv_iload_n hx hb dX3_boxHasRoomFor_2 rfl (lv_at hl 2 rfl) ?_
      refine lv_iconst (v := nI (5)) hx hb dX3_boxHasRoomFor_3 (by decide) ?_
      refine z_cgt (tgt := 32) hx hb dX3_boxHasRoomFor_4 (by decide) ⟨by omega, by omega⟩ (fun c_1 => ?_) (fun c_1 => ?_)
      · refine lv_iconst (v := nI (1)) hx hb dX3_boxHasRoomFor_32 (by decide) ?_
        exact hret _ _ _ dX3_boxHasRoomFor_33 (by first | exact Or.inl rfl | exact Or.inr rfl) (by have e9 : t = 5 := (by omega); rw [e9] at hal; exact zrt hal)
      · refine lv_aload_n hx hb dX3_boxHasRoomFor_7 rfl (lv_at hl 0 rfl) ?_
        refine z_get (ref := RX3) (C := RX3) (T := TX3) (N := 5) hx hb hts hin3 hown hG h0 rfl 0 (by decide) (by decide +kernel) rfl rfl dX3_boxHasRoomFor_8 ?_
        refine lv_iload_n hx hb dX3_boxHasRoomFor_11 rfl (lv_at hl 2 rfl) ?_
        refine z_iald (j := t + 1) hx hb hG h1 ⟨by omega, by omega⟩ dX3_boxHasRoomFor_12 ?_
        refine lv_aload_n hx hb dX3_boxHasRoomFor_13 rfl (lv_at hl 1 rfl) ?_
        refine lv_iload_n hx hb dX3_boxHasRoomFor_14 rfl (lv_at hl 2 rfl) ?_
        refine z_roVN (As := [.int (nI (t + 1))]) (rest := [.int ((zBx v) (t + 1))]) (host := "CharmBracelets") (q := (RX2, TX2, 2)) S hG (c_X2_charmsOf E (x := nI (t + 1)) hn) 1 gX3_boxHasRoomFor_X2_charmsOf_n63 (List.mem_of_getElem? (i := 14) rfl) (by decide +kernel) rfl kX2_charmsOf.2 ⟨Nat.le_of_ble_eq_true rfl, Nat.le_of_ble_eq_true rfl⟩ ⟨Nat.zero_le _, Nat.zero_le _⟩ (⟨g1, g2⟩) rfl g1 rfl hl.1 rfl rfl (Nat.le_of_ble_eq_true rfl) dX3_boxHasRoomFor_15 ?_
        refine lv_iadd hx hb dX3_boxHasRoomFor_18 ?_
        refine lv_bipush (v := nI (99)) hx hb dX3_boxHasRoomFor_19 (by decide) ?_
        refine lv_icmp_le (tgt := 26) hx hb dX3_boxHasRoomFor_21 (by decide) (fun c_2 => ?_) (fun c_2 => ?_)
        · refine lv_iinc (v := nI (t + 1 + 1)) (lv' := [(2, .int (nI (t + 1 + 1))), (0, .ref (ad b)), (1, .ref (a))]) hx hb dX3_boxHasRoomFor_26 hl (k := 2) rfl (z_inc1 _) (by decide) rfl (fun ls hl => ?_)
          refine lv_goto (tgt := 2) hx hb dX3_boxHasRoomFor_29 (by decide) ?_
          have hl9 := lv_sub hl [1, 2, 0] (l' := [(0, .ref (ad b)), (1, .ref (a)), (2, .int (nI (t + 1 + 1)))]) rfl
          have e9_2 : (t + 1 + 1) = ((t + 1) + 1) := by omega
          exact ih2 (t + 1) (by omega) (by omega) (zall_t hal (decide_eq_true c_2)) ls (by rw [← e9_2]; exact hl9)
        · refine lv_iconst (v := nI (0)) hx hb dX3_boxHasRoomFor_24 (by decide) ?_
          exact hret _ _ _ dX3_boxHasRoomFor_25 (by first | exact Or.inl rfl | exact Or.inr rfl) (zrf (zall_no (i := t) (by omega) (decide_eq_false c_2)))
  exact L2 ((5 - (0)) + 1) (0) (Nat.lt_succ_self _) (by decide) (rfl) ls (lv_sub hl [1, 2, 0] rfl)

set_option maxHeartbeats 4000000 in
set_option maxRecDepth 100000 in
theorem c_X3_weight (E : zEnv) {ad : Nat → Nat} {b : Nat} {v : zS} {a k n : Nat} {f : Nat → Int32} {a0 e0 : Nat} (hae : a0 ≤ e0 ∧ e0 ≤ 16) (hk : ∀ s, s < e0 → zk (f s)) : zRO E yX3_weight wsX3_weight 1 21 [.ref (ad b), .ref (a), .int (nI (a0)), .int (nI (e0))] (fun H => zStA E ad b v H ∧ zRing E a k n f H) (some (.int (zqs (zWt v) f a0 (e0 - a0)))) := by
  refine zRO.ofI (maxL := 7) rfl (Nat.le_of_ble_eq_true rfl) (fun p e s m args below meth c H Q hF hP hret ls hl => ?_)
  have S : CallFix p m c cX3_weight 7 s args wsX3_weight RX3 := hF.1
  have hG := hF.2
  obtain ⟨hx, hb, hml, hown, hts⟩ := id S
  obtain ⟨⟨h0, h1, h2, h3, h4, h5, h6, h7, hR⟩, g1, g2⟩ := id hP
  have hl : lv_has ls 7 [(0, .ref (ad b)), (1, .ref (a)), (2, .int (nI (a0))), (3, .int (nI (e0)))] := hl
  have hin3 : ∀ w ∈ u_ws RX3 TX3 5, w ∈ wsX3_weight := by decide +kernel
  refine lv_iconst (v := nI (0)) hx hb dX3_weight_0 (by decide) ?_
  refine lv_istore (lv' := [(4, .int (nI (0))), (0, .ref (ad b)), (1, .ref (a)), (2, .int (nI (a0))), (3, .int (nI (e0)))]) hx hb dX3_weight_1 hl (by decide) rfl (fun ls hl => ?_)
  refine lv_iload_n hx hb dX3_weight_3 rfl (lv_at hl 3 rfl) ?_
  refine lv_istore (lv' := [(5, .int (nI (a0))), (4, .int (nI (0))), (0, .ref (ad b)), (1, .ref (a)), (2, .int (nI (a0))), (3, .int (nI (e0)))]) hx hb dX3_weight_4 hl (by decide) rfl (fun ls hl => ?_)
  have L6 : ∀ (dd : Nat) (j : Nat), e0 - a0 - j < dd → (j ≤ e0 - a0) → ∀ (ls : Array Slot), lv_has ls 7 [(0, .ref (ad b)), (1, .ref (a)), (2, .int (nI (a0))), (3, .int (nI (e0))), (4, .int (zqs (zWt v) f a0 j)), (5, .int (nI (a0 + j)))] → W p (zl E) e (zRm 1 21) s m args below meth c H [] 0 0 Q (F0 m 6 ls []) := by
    intro dd
    induction dd with
    | zero => intro j hdd; exact absurd hdd (Nat.not_lt_zero _)
    | succ dd ih6 =>
      intro j hdd6 hj ls hl
      refine lv_iload hx hb dX3_weight_6 (lv_at hl 5 rfl) ?_
      refine lv_iload_n hx hb dX3_weight_8 rfl (lv_at hl 3 rfl) ?_
      refine z_cge (tgt := 46) hx hb dX3_weight_9 (by decide) ⟨by omega, by omega⟩ (fun c_1 => ?_) (fun c_1 => ?_)
      · refine lv_iload hx hb dX3_weight_46 (lv_at hl 4 rfl) ?_
        exact hret _ _ _ dX3_weight_48 (by rw [show j = e0 - a0 by omega])
      · refine lv_aload_n hx hb dX3_weight_12 rfl (lv_at hl 1 rfl) ?_
        refine lv_iload hx hb dX3_weight_13 (lv_at hl 5 rfl) ?_
        refine z_roVN (As := [.int (nI (a0 + j))]) (rest := []) (host := "CharmBracelets") (q := (RX2, TX2, 2)) S hG (c_X2_at E (j := a0 + j) (by omega)) 1 gX3_weight_X2_at_n71 (List.mem_of_getElem? (i := 28) rfl) (by decide +kernel) rfl kX2_at.2 ⟨Nat.le_of_ble_eq_true rfl, Nat.le_of_ble_eq_true rfl⟩ ⟨Nat.zero_le _, Nat.zero_le _⟩ (⟨g1, g2⟩) rfl g1 rfl hl.1 rfl rfl (Nat.le_of_ble_eq_true rfl) dX3_weight_15 ?_
        obtain ⟨x, hx5, hxe⟩ := hk (a0 + j) (by omega)
        · refine z_top hxe ?_
          refine lv_istore (lv' := [(6, .int (nI (x))), (0, .ref (ad b)), (1, .ref (a)), (2, .int (nI (a0))), (3, .int (nI (e0))), (4, .int (zqs (zWt v) f a0 j)), (5, .int (nI (a0 + j)))]) hx hb dX3_weight_18 hl (by decide) rfl (fun ls hl => ?_)
          refine lv_iload hx hb dX3_weight_20 (lv_at hl 0 rfl) ?_
          refine z_roSN (As := [.int (nI (x))]) (rest := []) (host := "CharmBracelets") S hG (c_X5_isCharm E) 1 gX3_weight_X5_isCharm_n74 (List.mem_of_getElem? (i := 29) rfl) (by decide +kernel) rfl kX5_isCharm.2 ⟨Nat.le_of_ble_eq_true rfl, Nat.le_of_ble_eq_true rfl⟩ ⟨Nat.zero_le _, Nat.zero_le _⟩ (trivial) rfl hl.1 rfl rfl (Nat.le_of_ble_eq_true rfl) dX3_weight_22 ?_
          refine z_beq (tgt := 40) hx hb dX3_weight_25 (by decide) (fun c_2 => ?_) (fun c_2 => ?_)
          · have hx0 : x = 0 := by rcases Nat.eq_zero_or_pos x with w | w; exact w; rw [zin_y (by omega) hx5 (by decide)] at c_2; cases c_2
            refine lv_iinc (v := nI (a0 + j + 1)) (lv' := [(5, .int (nI (a0 + j + 1))), (6, .int (nI (x))), (0, .ref (ad b)), (1, .ref (a)), (2, .int (nI (a0))), (3, .int (nI (e0))), (4, .int (zqs (zWt v) f a0 j))]) hx hb dX3_weight_40 hl (k := 6) rfl (z_inc1 _) (by decide) rfl (fun ls hl => ?_)
            refine lv_goto (tgt := 6) hx hb dX3_weight_43 (by decide) ?_
            have hl9 := lv_sub hl [2, 3, 4, 5, 6, 0] (l' := [(0, .ref (ad b)), (1, .ref (a)), (2, .int (nI (a0))), (3, .int (nI (e0))), (4, .int (zqs (zWt v) f a0 j)), (5, .int (nI (a0 + j + 1)))]) rfl
            have e9_4 : (zqs (zWt v) f a0 j) = (zqs (zWt v) f a0 (j + 1)) := by show _ = zqs (zWt v) f a0 j + zw (zWt v) f (a0 + j); rw [zw_x hx5 hxe]; rw [if_pos hx0, Int32.add_zero]
            have e9_5 : (a0 + j + 1) = (a0 + (j + 1)) := Nat.add_assoc _ _ _
            exact ih6 (j + 1) (by omega) (by omega) ls (by rw [← e9_4, ← e9_5]; exact hl9)
          · have hx1 : x ≠ 0 := fun w => by rw [w] at c_2; exact absurd c_2 (by decide)
            refine lv_iload hx hb dX3_weight_28 (lv_at hl 5 rfl) ?_
            refine lv_aload_n hx hb dX3_weight_30 rfl (lv_at hl 1 rfl) ?_
            refine z_get (ref := RX3) (C := RX3) (T := TX3) (N := 5) hx hb hts hin3 hown hG h0 rfl 1 (by decide) (by decide +kernel) rfl rfl dX3_weight_31 ?_
            refine lv_iload hx hb dX3_weight_34 (lv_at hl 0 rfl) ?_
            refine z_iald (j := x) hx hb hG h2 ⟨by omega, by omega⟩ dX3_weight_36 ?_
            refine lv_iadd hx hb dX3_weight_37 ?_
            refine lv_istore (lv' := [(4, .int ((zqs (zWt v) f a0 j) + ((zWt v) x))), (6, .int (nI (x))), (0, .ref (ad b)), (1, .ref (a)), (2, .int (nI (a0))), (3, .int (nI (e0))), (5, .int (nI (a0 + j)))]) hx hb dX3_weight_38 hl (by decide) rfl (fun ls hl => ?_)
            refine lv_iinc (v := nI (a0 + j + 1)) (lv' := [(5, .int (nI (a0 + j + 1))), (4, .int ((zqs (zWt v) f a0 j) + ((zWt v) x))), (6, .int (nI (x))), (0, .ref (ad b)), (1, .ref (a)), (2, .int (nI (a0))), (3, .int (nI (e0)))]) hx hb dX3_weight_40 hl (k := 6) rfl (z_inc1 _) (by decide) rfl (fun ls hl => ?_)
            refine lv_goto (tgt := 6) hx hb dX3_weight_43 (by decide) ?_
            have hl9 := lv_sub hl [3, 4, 5, 6, 1, 0] (l' := [(0, .ref (ad b)), (1, .ref (a)), (2, .int (nI (a0))), (3, .int (nI (e0))), (4, .int ((zqs (zWt v) f a0 j) + ((zWt v) x))), (5, .int (nI (a0 + j + 1)))]) rfl
            have e9_4 : ((zqs (zWt v) f a0 j) + ((zWt v) x)) = (zqs (zWt v) f a0 (j + 1)) := by show _ = zqs (zWt v) f a0 j + zw (zWt v) f (a0 + j); rw [zw_x hx5 hxe]; rw [if_neg hx1]
            have e9_5 : (a0 + j + 1) = (a0 + (j + 1)) := Nat.add_assoc _ _ _
            exact ih6 (j + 1) (by omega) (by omega) ls (by rw [← e9_4, ← e9_5]; exact hl9)
  exact L6 ((e0 - a0 - (0)) + 1) (0) (Nat.lt_succ_self _) (Nat.zero_le _) ls (lv_sub hl [2, 3, 4, 5, 1, 0] rfl)

set_option maxHeartbeats 4000000 in
set_option maxRecDepth 100000 in
theorem c_X3_quarterWeight (E : zEnv) {ad : Nat → Nat} {b : Nat} {v : zS} {a k n : Nat} {f : Nat → Int32} {q : Nat} (hn : n ≤ 16) (hq : q < 4) (hk : ∀ s, s < n → zk (f s)) : zRO E yX3_quarterWeight wsX3_quarterWeight 2 47 [.ref (ad b), .ref (a), .int (nI (q))] (fun H => zStA E ad b v H ∧ zRing E a k n f H) (some (.int (zqw (zWt v) n f q))) := by
  refine zRO.ofI (maxL := 3) rfl (Nat.le_of_ble_eq_true rfl) (fun p e s m args below meth c H Q hF hP hret ls hl => ?_)
  have S : CallFix p m c cX3_quarterWeight 3 s args wsX3_quarterWeight RX3 := hF.1
  have hG := hF.2
  obtain ⟨hx, hb, hml, hown, hts⟩ := id S
  obtain ⟨⟨h0, h1, h2, h3, h4, h5, h6, h7, hR⟩, g1, g2⟩ := id hP
  have hm1 : q * n ≤ 3 * n := Nat.mul_le_mul_right n (by omega)
  have hm2 : (q + 1) * n ≤ 4 * n := Nat.mul_le_mul_right n (by omega)
  have hm3 : (q + 1) * n = q * n + n := Nat.succ_mul q n
  have hl : lv_has ls 3 [(0, .ref (ad b)), (1, .ref (a)), (2, .int (nI (q)))] := hl
  have hin2 : ∀ w ∈ u_ws RX2 TX2 2, w ∈ wsX3_quarterWeight := by decide +kernel
  refine lv_aload_n hx hb dX3_quarterWeight_0 rfl (lv_at hl 0 rfl) ?_
  refine lv_aload_n hx hb dX3_quarterWeight_1 rfl (lv_at hl 1 rfl) ?_
  refine lv_iload_n hx hb dX3_quarterWeight_2 rfl (lv_at hl 2 rfl) ?_
  refine lv_aload_n hx hb dX3_quarterWeight_3 rfl (lv_at hl 1 rfl) ?_
  refine z_getN (own := RX3) (ref := RX2) (host := "CharmBracelets") (C := RX2) (T := TX2) (N := 2) hx hb hts hin2 hown hG g1 rfl 0 (by decide) (List.mem_of_getElem? (i := 2) rfl) rfl rfl dX3_quarterWeight_4 ?_
  refine z_imul hx hb dX3_quarterWeight_7 ?_
  refine lv_iconst (v := nI (4)) hx hb dX3_quarterWeight_8 (by decide) ?_
  refine z_idiv hx hb dX3_quarterWeight_9 ⟨by omega, by omega, by omega⟩ ?_
  refine lv_iload_n hx hb dX3_quarterWeight_10 rfl (lv_at hl 2 rfl) ?_
  refine lv_iconst (v := nI (1)) hx hb dX3_quarterWeight_11 (by decide) ?_
  refine z_iadd hx hb dX3_quarterWeight_12 ?_
  refine lv_aload_n hx hb dX3_quarterWeight_13 rfl (lv_at hl 1 rfl) ?_
  refine z_getN (own := RX3) (ref := RX2) (host := "CharmBracelets") (C := RX2) (T := TX2) (N := 2) hx hb hts hin2 hown hG g1 rfl 0 (by decide) (List.mem_of_getElem? (i := 2) rfl) rfl rfl dX3_quarterWeight_14 ?_
  refine z_imul hx hb dX3_quarterWeight_17 ?_
  refine lv_iconst (v := nI (4)) hx hb dX3_quarterWeight_18 (by decide) ?_
  refine z_idiv hx hb dX3_quarterWeight_19 ⟨by omega, by omega, by omega⟩ ?_
  refine z_roV (As := [.ref (a), .int (nI ((q * n) / 4)), .int (nI (((q + 1) * n) / 4))]) (rest := []) (q := (RX3, TX3, 5)) S hG (c_X3_weight E (a0 := q * n / 4) (e0 := (q + 1) * n / 4) ⟨by omega, by omega⟩ (fun s hs => hk s (by omega))) 3 gX3_quarterWeight_X3_weight rfl kX3_weight ⟨Nat.le_of_ble_eq_true rfl, Nat.le_of_ble_eq_true rfl⟩ ⟨Nat.zero_le _, Nat.zero_le _⟩ (hP) rfl h0 rfl hl.1 rfl rfl (Nat.le_of_ble_eq_true rfl) dX3_quarterWeight_20 ?_
  exact hret _ _ _ dX3_quarterWeight_23 (rfl)

set_option maxHeartbeats 4000000 in
set_option maxRecDepth 100000 in
theorem c_X3_lean (E : zEnv) {ad : Nat → Nat} {b : Nat} {v : zS} {a k n : Nat} {f : Nat → Int32}  (hn : n ≤ 16) (hk : ∀ s, s < n → zk (f s)) : zRO E yX3_lean wsX3_lean 3 69 [.ref (ad b), .ref (a)] (fun H => zStA E ad b v H ∧ zRing E a k n f H) (some (.int (zlean (zWt v) n f))) := by
  refine zRO.ofI (maxL := 2) rfl (Nat.le_of_ble_eq_true rfl) (fun p e s m args below meth c H Q hF hP hret ls hl => ?_)
  have S : CallFix p m c cX3_lean 2 s args wsX3_lean RX3 := hF.1
  have hG := hF.2
  obtain ⟨hx, hb, hml, hown, hts⟩ := id S
  obtain ⟨⟨h0, h1, h2, h3, h4, h5, h6, h7, hR⟩, g1, g2⟩ := id hP
  have hl : lv_has ls 2 [(0, .ref (ad b)), (1, .ref (a))] := hl
  refine lv_aload_n hx hb dX3_lean_0 rfl (lv_at hl 0 rfl) ?_
  refine lv_aload_n hx hb dX3_lean_1 rfl (lv_at hl 1 rfl) ?_
  refine lv_iconst (v := nI (0)) hx hb dX3_lean_2 (by decide) ?_
  refine z_roV (As := [.ref (a), .int (nI (0))]) (rest := []) (q := (RX3, TX3, 5)) S hG (c_X3_quarterWeight E (q := 0) hn (by decide) hk) 2 gX3_lean_X3_quarterWeight rfl kX3_quarterWeight ⟨Nat.le_of_ble_eq_true rfl, Nat.le_of_ble_eq_true rfl⟩ ⟨Nat.zero_le _, Nat.zero_le _⟩ (hP) rfl h0 rfl hl.1 rfl rfl (Nat.le_of_ble_eq_true rfl) dX3_lean_3 ?_
  refine lv_aload_n hx hb dX3_lean_6 rfl (lv_at hl 0 rfl) ?_
  refine lv_aload_n hx hb dX3_lean_7 rfl (lv_at hl 1 rfl) ?_
  refine lv_iconst (v := nI (2)) hx hb dX3_lean_8 (by decide) ?_
  refine z_roV (As := [.ref (a), .int (nI (2))]) (rest := [.int (zqw (zWt v) n f 0)]) (q := (RX3, TX3, 5)) S hG (c_X3_quarterWeight E (q := 2) hn (by decide) hk) 2 gX3_lean_X3_quarterWeight rfl kX3_quarterWeight ⟨Nat.le_of_ble_eq_true rfl, Nat.le_of_ble_eq_true rfl⟩ ⟨Nat.zero_le _, Nat.zero_le _⟩ (hP) rfl h0 rfl hl.1 rfl rfl (Nat.le_of_ble_eq_true rfl) dX3_lean_9 ?_
  refine lv_isub hx hb dX3_lean_12 ?_
  refine z_abs (own := RX3) (index := 86) hx hb (hml.trans hl.1.symm) hts hown (by decide +kernel) (Nat.le_of_ble_eq_true rfl) (Nat.le_of_ble_eq_true rfl) (Nat.zero_le _) (Nat.zero_le _) dX3_lean_13 ?_
  refine lv_aload_n hx hb dX3_lean_16 rfl (lv_at hl 0 rfl) ?_
  refine lv_aload_n hx hb dX3_lean_17 rfl (lv_at hl 1 rfl) ?_
  refine lv_iconst (v := nI (1)) hx hb dX3_lean_18 (by decide) ?_
  refine z_roV (As := [.ref (a), .int (nI (1))]) (rest := [.int (if 0 ≤ ((zqw (zWt v) n f 0) - (zqw (zWt v) n f 2)) then ((zqw (zWt v) n f 0) - (zqw (zWt v) n f 2)) else 0 - ((zqw (zWt v) n f 0) - (zqw (zWt v) n f 2)))]) (q := (RX3, TX3, 5)) S hG (c_X3_quarterWeight E (q := 1) hn (by decide) hk) 2 gX3_lean_X3_quarterWeight rfl kX3_quarterWeight ⟨Nat.le_of_ble_eq_true rfl, Nat.le_of_ble_eq_true rfl⟩ ⟨Nat.zero_le _, Nat.zero_le _⟩ (hP) rfl h0 rfl hl.1 rfl rfl (Nat.le_of_ble_eq_true rfl) dX3_lean_19 ?_
  refine lv_aload_n hx hb dX3_lean_22 rfl (lv_at hl 0 rfl) ?_
  refine lv_aload_n hx hb dX3_lean_23 rfl (lv_at hl 1 rfl) ?_
  refine lv_iconst (v := nI (3)) hx hb dX3_lean_24 (by decide) ?_
  refine z_roV (As := [.ref (a), .int (nI (3))]) (rest := [.int (zqw (zWt v) n f 1), .int (if 0 ≤ ((zqw (zWt v) n f 0) - (zqw (zWt v) n f 2)) then ((zqw (zWt v) n f 0) - (zqw (zWt v) n f 2)) else 0 - ((zqw (zWt v) n f 0) - (zqw (zWt v) n f 2)))]) (q := (RX3, TX3, 5)) S hG (c_X3_quarterWeight E (q := 3) hn (by decide) hk) 2 gX3_lean_X3_quarterWeight rfl kX3_quarterWeight ⟨Nat.le_of_ble_eq_true rfl, Nat.le_of_ble_eq_true rfl⟩ ⟨Nat.zero_le _, Nat.zero_le _⟩ (hP) rfl h0 rfl hl.1 rfl rfl (Nat.le_of_ble_eq_true rfl) dX3_lean_25 ?_
  refine lv_isub hx hb dX3_lean_28 ?_
  refine z_abs (own := RX3) (index := 86) hx hb (hml.trans hl.1.symm) hts hown (by decide +kernel) (Nat.le_of_ble_eq_true rfl) (Nat.le_of_ble_eq_true rfl) (Nat.zero_le _) (Nat.zero_le _) dX3_lean_29 ?_
  refine lv_iadd hx hb dX3_lean_32 ?_
  exact hret _ _ _ dX3_lean_33 (rfl)

set_option maxHeartbeats 4000000 in
set_option maxRecDepth 100000 in
theorem c_X0_isAt (E : zEnv) {mo mk ml : Nat} {sg : Nat → Int32} {a k n : Nat} {f : Nat → Int32} {j : Nat} (hn : 0 < n ∧ n ≤ 16) (hl6 : ml ≤ 6) (hj : j < n) : zRO E yX0_isAt wsX0_isAt 1 21 [.ref (mo), .ref (a), .int (nI (j))] (fun H => zMo E mo mk ml sg H ∧ zRing E a k n f H) (some (.int (zb (zmt ml sg n f j)))) := by
  refine zRO.ofZ (maxL := 4) rfl (Nat.le_of_ble_eq_true rfl) (fun p e s m args below meth c H Q hF hP hret ls hl => ?_)
  have S : CallFix p m c cX0_isAt 4 s args wsX0_isAt RX0 := hF.1
  have hG := hF.2
  obtain ⟨hx, hb, hml, hown, hts⟩ := id S
  obtain ⟨⟨h1, h2⟩, g1, g2⟩ := id hP
  have hl : lv_has ls 4 [(0, .ref (mo)), (1, .ref (a)), (2, .int (nI (j)))] := hl
  have hin0 : ∀ w ∈ u_ws RX0 TX0 2, w ∈ wsX0_isAt := by decide +kernel
  have hin2 : ∀ w ∈ u_ws RX2 TX2 2, w ∈ wsX0_isAt := by decide +kernel
  refine lv_aload_n hx hb dX0_isAt_0 rfl (lv_at hl 0 rfl) ?_
  refine z_get (ref := RX0) (C := RX0) (T := TX0) (N := 2) hx hb hts hin0 hown hG h1 rfl 0 (by decide) (by decide +kernel) rfl rfl dX0_isAt_1 ?_
  refine lv_iconst (v := nI (1)) hx hb dX0_isAt_4 (by decide) ?_
  refine z_clt (tgt := 19) hx hb dX0_isAt_5 (by decide) ⟨by omega, by omega⟩ (fun c_1 => ?_) (fun c_1 => ?_)
  · refine lv_iconst (v := nI (0)) hx hb dX0_isAt_19 (by decide) ?_
    exact hret _ _ _ dX0_isAt_20 (by first | exact Or.inl rfl | exact Or.inr rfl) (zrf (zmt_o (by omega)))
  · refine lv_aload_n hx hb dX0_isAt_8 rfl (lv_at hl 0 rfl) ?_
    refine z_get (ref := RX0) (C := RX0) (T := TX0) (N := 2) hx hb hts hin0 hown hG h1 rfl 0 (by decide) (by decide +kernel) rfl rfl dX0_isAt_9 ?_
    refine lv_aload_n hx hb dX0_isAt_12 rfl (lv_at hl 1 rfl) ?_
    refine z_getN (own := RX0) (ref := RX2) (host := "CharmBracelets") (C := RX2) (T := TX2) (N := 2) hx hb hts hin2 hown hG g1 rfl 0 (by decide) (List.mem_of_getElem? (i := 3) rfl) rfl rfl dX0_isAt_13 ?_
    refine z_cle (tgt := 21) hx hb dX0_isAt_16 (by decide) ⟨by omega, by omega⟩ (fun c_2 => ?_) (fun c_2 => ?_)
    · refine lv_iconst (v := nI (0)) hx hb dX0_isAt_21 (by decide) ?_
      refine lv_istore_n (lv' := [(3, .int (nI (0))), (0, .ref (mo)), (1, .ref (a)), (2, .int (nI (j)))]) hx hb dX0_isAt_22 rfl hl (by decide) rfl (fun ls hl => ?_)
      have L23 : ∀ (dd : Nat) (t : Nat), ml - t < dd → (t ≤ ml) → (zmp ml sg n f j t = true) → ∀ (ls : Array Slot), lv_has ls 4 [(0, .ref (mo)), (1, .ref (a)), (2, .int (nI (j))), (3, .int (nI (t)))] → W p (zl E) e (zRm 1 21) s m args below meth c H [] 0 0 Q (F0 m 23 ls []) := by
        intro dd
        induction dd with
        | zero => intro t hdd; exact absurd hdd (Nat.not_lt_zero _)
        | succ dd ih23 =>
          intro t hdd23 ht hzm ls hl
          refine lv_iload_n hx hb dX0_isAt_23 rfl (lv_at hl 3 rfl) ?_
          refine lv_aload_n hx hb dX0_isAt_24 rfl (lv_at hl 0 rfl) ?_
          refine z_get (ref := RX0) (C := RX0) (T := TX0) (N := 2) hx hb hts hin0 hown hG h1 rfl 0 (by decide) (by decide +kernel) rfl rfl dX0_isAt_25 ?_
          refine z_cge (tgt := 79) hx hb dX0_isAt_28 (by decide) ⟨by omega, by omega⟩ (fun c_3 => ?_) (fun c_3 => ?_)
          · refine lv_iconst (v := nI (1)) hx hb dX0_isAt_79 (by decide) ?_
            exact hret _ _ _ dX0_isAt_80 (by first | exact Or.inl rfl | exact Or.inr rfl) (by have e9 : t = ml := (by omega); rw [e9] at hzm; exact zrt hzm)
          · refine lv_iload_n hx hb dX0_isAt_31 rfl (lv_at hl 3 rfl) ?_
            refine lv_aload_n hx hb dX0_isAt_32 rfl (lv_at hl 0 rfl) ?_
            refine z_get (ref := RX0) (C := RX0) (T := TX0) (N := 2) hx hb hts hin0 hown hG h1 rfl 1 (by decide) (by decide +kernel) rfl rfl dX0_isAt_33 ?_
            refine z_alenI hx hb hG h2 dX0_isAt_36 ?_
            refine z_cge (tgt := 79) hx hb dX0_isAt_37 (by decide) ⟨by omega, by omega⟩ (fun c_4 => by exfalso; omega) (fun c_4 => ?_)
            refine lv_aload_n hx hb dX0_isAt_40 rfl (lv_at hl 0 rfl) ?_
            refine z_get (ref := RX0) (C := RX0) (T := TX0) (N := 2) hx hb hts hin0 hown hG h1 rfl 1 (by decide) (by decide +kernel) rfl rfl dX0_isAt_41 ?_
            refine lv_iload_n hx hb dX0_isAt_44 rfl (lv_at hl 3 rfl) ?_
            refine z_iald (j := t) hx hb hG h2 ⟨by omega, by omega⟩ dX0_isAt_45 ?_
            refine lv_bipush (v := nI (9)) hx hb dX0_isAt_46 (by decide) ?_
            refine lv_icmp_eq (tgt := 73) hx hb dX0_isAt_48 (by decide) (fun c_5 => ?_) (fun c_5 => ?_)
            · refine lv_iinc (v := nI (t + 1)) (lv' := [(3, .int (nI (t + 1))), (0, .ref (mo)), (1, .ref (a)), (2, .int (nI (j)))]) hx hb dX0_isAt_73 hl (k := 3) rfl (z_inc1 _) (by decide) rfl (fun ls hl => ?_)
              refine lv_goto (tgt := 23) hx hb dX0_isAt_76 (by decide) ?_
              have hl9 := lv_sub hl [1, 2, 3, 0] (l' := [(0, .ref (mo)), (1, .ref (a)), (2, .int (nI (j))), (3, .int (nI (t + 1)))]) rfl
              have e9_3 : (t + 1) = ((t + 1)) := by omega
              exact ih23 (t + 1) (by omega) (by omega) (by first | exact zmp_t hzm (Or.inl c_5) | exact zmp_t hzm (Or.inr c_5)) ls (by rw [← e9_3]; exact hl9)
            · refine lv_aload_n hx hb dX0_isAt_51 rfl (lv_at hl 0 rfl) ?_
              refine z_get (ref := RX0) (C := RX0) (T := TX0) (N := 2) hx hb hts hin0 hown hG h1 rfl 1 (by decide) (by decide +kernel) rfl rfl dX0_isAt_52 ?_
              refine lv_iload_n hx hb dX0_isAt_55 rfl (lv_at hl 3 rfl) ?_
              refine z_iald (j := t) hx hb hG h2 ⟨by omega, by omega⟩ dX0_isAt_56 ?_
              refine lv_aload_n hx hb dX0_isAt_57 rfl (lv_at hl 1 rfl) ?_
              refine lv_aload_n hx hb dX0_isAt_58 rfl (lv_at hl 1 rfl) ?_
              refine lv_iload_n hx hb dX0_isAt_59 rfl (lv_at hl 2 rfl) ?_
              refine lv_iload_n hx hb dX0_isAt_60 rfl (lv_at hl 3 rfl) ?_
              refine z_iadd hx hb dX0_isAt_61 ?_
              refine z_roVN (As := [.int (nI (j + t))]) (rest := [.ref (a), .int (sg t)]) (host := "CharmBracelets") (q := (RX2, TX2, 2)) S hG (c_X2_around_n E (j := j + t) (by omega)) 1 gX0_isAt_X2_around_n34 (List.mem_of_getElem? (i := 39) rfl) (by decide +kernel) rfl kX2_around.2 ⟨Nat.le_of_ble_eq_true rfl, Nat.le_of_ble_eq_true rfl⟩ ⟨Nat.zero_le _, Nat.zero_le _⟩ (⟨g1, g2⟩) rfl g1 rfl hl.1 rfl rfl (Nat.le_of_ble_eq_true rfl) dX0_isAt_62 ?_
              refine z_top (y := nI ((j + t) % n)) (by split; rw [Nat.mod_eq_of_lt ‹_›]; rw [zmod_1 (by omega) (by omega)]) ?_
              refine z_roVN (As := [.int (nI ((j + t) % n))]) (rest := [.int (sg t)]) (host := "CharmBracelets") (q := (RX2, TX2, 2)) S hG (c_X2_at E (j := (j + t) % n) (by have h9 := Nat.mod_lt (j + t) hn.1; omega)) 1 gX0_isAt_X2_at_n38 (List.mem_of_getElem? (i := 40) rfl) (by decide +kernel) rfl kX2_at.2 ⟨Nat.le_of_ble_eq_true rfl, Nat.le_of_ble_eq_true rfl⟩ ⟨Nat.zero_le _, Nat.zero_le _⟩ (⟨g1, g2⟩) rfl g1 rfl hl.1 rfl rfl (Nat.le_of_ble_eq_true rfl) dX0_isAt_65 ?_
              refine lv_icmp_eq (tgt := 73) hx hb dX0_isAt_68 (by decide) (fun c_6 => ?_) (fun c_6 => ?_)
              · refine lv_iinc (v := nI (t + 1)) (lv' := [(3, .int (nI (t + 1))), (0, .ref (mo)), (1, .ref (a)), (2, .int (nI (j)))]) hx hb dX0_isAt_73 hl (k := 3) rfl (z_inc1 _) (by decide) rfl (fun ls hl => ?_)
                refine lv_goto (tgt := 23) hx hb dX0_isAt_76 (by decide) ?_
                have hl9 := lv_sub hl [1, 2, 3, 0] (l' := [(0, .ref (mo)), (1, .ref (a)), (2, .int (nI (j))), (3, .int (nI (t + 1)))]) rfl
                have e9_3 : (t + 1) = ((t + 1)) := by omega
                exact ih23 (t + 1) (by omega) (by omega) (by first | exact zmp_t hzm (Or.inl c_6) | exact zmp_t hzm (Or.inr c_6)) ls (by rw [← e9_3]; exact hl9)
              · refine lv_iconst (v := nI (0)) hx hb dX0_isAt_71 (by decide) ?_
                exact hret _ _ _ dX0_isAt_72 (by first | exact Or.inl rfl | exact Or.inr rfl) (zrf (zmt_n (by omega) c_5 c_6))
      exact L23 ((ml - (0)) + 1) (0) (Nat.lt_succ_self _) (Nat.zero_le _) (decide_eq_true (by omega)) ls (lv_sub hl [1, 2, 3, 0] rfl)
    · refine lv_iconst (v := nI (0)) hx hb dX0_isAt_19 (by decide) ?_
      exact hret _ _ _ dX0_isAt_20 (by first | exact Or.inl rfl | exact Or.inr rfl) (zrf (zmt_o (by omega)))

set_option maxHeartbeats 4000000 in
set_option maxRecDepth 100000 in
theorem c_X0_slotSet (E : zEnv) {mo mk ml : Nat} {sg : Nat → Int32} {a k n : Nat} {f : Nat → Int32} (hn : 0 < n ∧ n ≤ 16) (hl6 : ml ≤ 6) : zRO E yX0_slotSet wsX0_slotSet 2 44 [.ref (mo), .ref (a)] (fun H => zMo E mo mk ml sg H ∧ zRing E a k n f H) (some (.int (zset (zmt ml sg n f) n))) := by
  refine zRO.ofI (maxL := 4) rfl (Nat.le_of_ble_eq_true rfl) (fun p e s m args below meth c H Q hF hP hret ls hl => ?_)
  have S : CallFix p m c cX0_slotSet 4 s args wsX0_slotSet RX0 := hF.1
  have hG := hF.2
  obtain ⟨hx, hb, hml, hown, hts⟩ := id S
  obtain ⟨⟨h1, h2⟩, g1, g2⟩ := id hP
  have hl : lv_has ls 4 [(0, .ref (mo)), (1, .ref (a))] := hl
  have hin2 : ∀ w ∈ u_ws RX2 TX2 2, w ∈ wsX0_slotSet := by decide +kernel
  refine lv_iconst (v := nI (0)) hx hb dX0_slotSet_0 (by decide) ?_
  refine lv_istore_n (lv' := [(2, .int (nI (0))), (0, .ref (mo)), (1, .ref (a))]) hx hb dX0_slotSet_1 rfl hl (by decide) rfl (fun ls hl => ?_)
  refine lv_iconst (v := nI (0)) hx hb dX0_slotSet_2 (by decide) ?_
  refine lv_istore_n (lv' := [(3, .int (nI (0))), (2, .int (nI (0))), (0, .ref (mo)), (1, .ref (a))]) hx hb dX0_slotSet_3 rfl hl (by decide) rfl (fun ls hl => ?_)
  have L4 : ∀ (dd : Nat) (j : Nat), n - j < dd → (j ≤ n) → ∀ (ls : Array Slot), lv_has ls 4 [(0, .ref (mo)), (1, .ref (a)), (2, .int (zset (zmt ml sg n f) j)), (3, .int (nI (j)))] → W p (zl E) e (zRm 2 44) s m args below meth c H [] 0 0 Q (F0 m 4 ls []) := by
    intro dd
    induction dd with
    | zero => intro j hdd; exact absurd hdd (Nat.not_lt_zero _)
    | succ dd ih4 =>
      intro j hdd4 hj ls hl
      refine lv_iload_n hx hb dX0_slotSet_4 rfl (lv_at hl 3 rfl) ?_
      refine lv_aload_n hx hb dX0_slotSet_5 rfl (lv_at hl 1 rfl) ?_
      refine z_getN (own := RX0) (ref := RX2) (host := "CharmBracelets") (C := RX2) (T := TX2) (N := 2) hx hb hts hin2 hown hG g1 rfl 0 (by decide) (List.mem_of_getElem? (i := 3) rfl) rfl rfl dX0_slotSet_6 ?_
      refine z_cge (tgt := 33) hx hb dX0_slotSet_9 (by decide) ⟨by omega, by omega⟩ (fun c_1 => ?_) (fun c_1 => ?_)
      · refine lv_iload_n hx hb dX0_slotSet_33 rfl (lv_at hl 2 rfl) ?_
        exact hret _ _ _ dX0_slotSet_34 (by rw [show j = n by omega])
      · refine lv_aload_n hx hb dX0_slotSet_12 rfl (lv_at hl 0 rfl) ?_
        refine lv_aload_n hx hb dX0_slotSet_13 rfl (lv_at hl 1 rfl) ?_
        refine lv_iload_n hx hb dX0_slotSet_14 rfl (lv_at hl 3 rfl) ?_
        refine z_roV (As := [.ref (a), .int (nI (j))]) (rest := []) (q := (RX0, TX0, 2)) S hG (c_X0_isAt E hn hl6 (j := j) (by omega)) 2 gX0_slotSet_X0_isAt rfl kX0_isAt ⟨Nat.le_of_ble_eq_true rfl, Nat.le_of_ble_eq_true rfl⟩ ⟨Nat.zero_le _, Nat.zero_le _⟩ (hP) rfl h1 rfl hl.1 rfl rfl (Nat.le_of_ble_eq_true rfl) dX0_slotSet_15 ?_
        refine z_beq (tgt := 27) hx hb dX0_slotSet_18 (by decide) (fun c_2 => ?_) (fun c_2 => ?_)
        · refine lv_iinc (v := nI (j + 1)) (lv' := [(3, .int (nI (j + 1))), (0, .ref (mo)), (1, .ref (a)), (2, .int (zset (zmt ml sg n f) j))]) hx hb dX0_slotSet_27 hl (k := 3) rfl (z_inc1 _) (by decide) rfl (fun ls hl => ?_)
          refine lv_goto (tgt := 4) hx hb dX0_slotSet_30 (by decide) ?_
          have hl9 := lv_sub hl [1, 2, 3, 0] (l' := [(0, .ref (mo)), (1, .ref (a)), (2, .int (zset (zmt ml sg n f) j)), (3, .int (nI (j + 1)))]) rfl
          have e9_2 : (zset (zmt ml sg n f) j) = (zset (zmt ml sg n f) (j + 1)) := by first | exact zset_t c_2 | exact zset_f c_2
          have e9_3 : (j + 1) = ((j + 1)) := by omega
          exact ih4 (j + 1) (by omega) (by omega) ls (by rw [← e9_2, ← e9_3]; exact hl9)
        · refine lv_iload_n hx hb dX0_slotSet_21 rfl (lv_at hl 2 rfl) ?_
          refine lv_iconst (v := nI (1)) hx hb dX0_slotSet_22 (by decide) ?_
          refine lv_iload_n hx hb dX0_slotSet_23 rfl (lv_at hl 3 rfl) ?_
          refine lv_ishl hx hb dX0_slotSet_24 ?_
          refine lv_ior hx hb dX0_slotSet_25 ?_
          refine lv_istore_n (lv' := [(2, .int ((zset (zmt ml sg n f) j) ||| (nI (1) <<< (nI (j) &&& 31)))), (0, .ref (mo)), (1, .ref (a)), (3, .int (nI (j)))]) hx hb dX0_slotSet_26 rfl hl (by decide) rfl (fun ls hl => ?_)
          refine lv_iinc (v := nI (j + 1)) (lv' := [(3, .int (nI (j + 1))), (2, .int ((zset (zmt ml sg n f) j) ||| (nI (1) <<< (nI (j) &&& 31)))), (0, .ref (mo)), (1, .ref (a))]) hx hb dX0_slotSet_27 hl (k := 3) rfl (z_inc1 _) (by decide) rfl (fun ls hl => ?_)
          refine lv_goto (tgt := 4) hx hb dX0_slotSet_30 (by decide) ?_
          have hl9 := lv_sub hl [2, 3, 1, 0] (l' := [(0, .ref (mo)), (1, .ref (a)), (2, .int ((zset (zmt ml sg n f) j) ||| (nI (1) <<< (nI (j) &&& 31)))), (3, .int (nI (j + 1)))]) rfl
          have e9_2 : ((zset (zmt ml sg n f) j) ||| (nI (1) <<< (nI (j) &&& 31))) = (zset (zmt ml sg n f) (j + 1)) := by first | exact zset_t c_2 | exact zset_f c_2
          have e9_3 : (j + 1) = ((j + 1)) := by omega
          exact ih4 (j + 1) (by omega) (by omega) ls (by rw [← e9_2, ← e9_3]; exact hl9)
  exact L4 ((n - (0)) + 1) (0) (Nat.lt_succ_self _) (Nat.zero_le _) ls (lv_sub hl [2, 3, 1, 0] rfl)

set_option maxHeartbeats 4000000 in
set_option maxRecDepth 100000 in
theorem c_X2_slotsTurnedInto (E : zEnv) {a k n : Nat} {f : Nat → Int32} {w : Int32} {q : Nat} (hn : 0 < n ∧ n ≤ 16) (hq : q < 4) : zRO E yX2_slotsTurnedInto wsX2_slotsTurnedInto 1 22 [.ref (a), .int (w), .int (nI (q))] (fun H => zRing E a k n f H) (some (.int (zset (fun s => decide (¬ (w >>> (nI ((s + q * n / 4) % n) &&& 31)) &&& 1 = 0)) n))) := by
  refine zRO.ofI (maxL := 6) rfl (Nat.le_of_ble_eq_true rfl) (fun p e s m args below meth c H Q hF hP hret ls hl => ?_)
  have S : CallFix p m c cX2_slotsTurnedInto 6 s args wsX2_slotsTurnedInto RX2 := hF.1
  have hG := hF.2
  obtain ⟨hx, hb, hml, hown, hts⟩ := id S
  obtain ⟨g1, g2⟩ := id hP
  have hm1 : q * n ≤ 3 * n := Nat.mul_le_mul_right n (by omega)
  have hl : lv_has ls 6 [(0, .ref (a)), (1, .int (w)), (2, .int (nI (q)))] := hl
  have hin2 : ∀ w ∈ u_ws RX2 TX2 2, w ∈ wsX2_slotsTurnedInto := by decide +kernel
  refine lv_iconst (v := nI (0)) hx hb dX2_slotsTurnedInto_0 (by decide) ?_
  refine lv_istore_n (lv' := [(3, .int (nI (0))), (0, .ref (a)), (1, .int (w)), (2, .int (nI (q)))]) hx hb dX2_slotsTurnedInto_1 rfl hl (by decide) rfl (fun ls hl => ?_)
  refine lv_iconst (v := nI (0)) hx hb dX2_slotsTurnedInto_2 (by decide) ?_
  refine lv_istore (lv' := [(4, .int (nI (0))), (3, .int (nI (0))), (0, .ref (a)), (1, .int (w)), (2, .int (nI (q)))]) hx hb dX2_slotsTurnedInto_3 hl (by decide) rfl (fun ls hl => ?_)
  have L5 : ∀ (dd : Nat) (j : Nat), n - j < dd → (j ≤ n) → ∀ (ls : Array Slot), lv_has ls 6 [(0, .ref (a)), (1, .int (w)), (2, .int (nI (q))), (3, .int (zset (fun s => decide (¬ (w >>> (nI ((s + q * n / 4) % n) &&& 31)) &&& 1 = 0)) j)), (4, .int (nI (j)))] → W p (zl E) e (zRm 1 22) s m args below meth c H [] 0 0 Q (F0 m 5 ls []) := by
    intro dd
    induction dd with
    | zero => intro j hdd; exact absurd hdd (Nat.not_lt_zero _)
    | succ dd ih5 =>
      intro j hdd5 hj ls hl
      refine lv_iload hx hb dX2_slotsTurnedInto_5 (lv_at hl 4 rfl) ?_
      refine lv_aload_n hx hb dX2_slotsTurnedInto_7 rfl (lv_at hl 0 rfl) ?_
      refine z_get (ref := RX2) (C := RX2) (T := TX2) (N := 2) hx hb hts hin2 hown hG g1 rfl 0 (by decide) (by decide +kernel) rfl rfl dX2_slotsTurnedInto_8 ?_
      refine z_cge (tgt := 54) hx hb dX2_slotsTurnedInto_11 (by decide) ⟨by omega, by omega⟩ (fun c_1 => ?_) (fun c_1 => ?_)
      · refine lv_iload_n hx hb dX2_slotsTurnedInto_54 rfl (lv_at hl 3 rfl) ?_
        exact hret _ _ _ dX2_slotsTurnedInto_55 (by rw [show j = n by omega])
      · refine lv_aload_n hx hb dX2_slotsTurnedInto_14 rfl (lv_at hl 0 rfl) ?_
        refine lv_iload hx hb dX2_slotsTurnedInto_15 (lv_at hl 4 rfl) ?_
        refine lv_iconst (v := nI (0)) hx hb dX2_slotsTurnedInto_17 (by decide) ?_
        refine lv_iload_n hx hb dX2_slotsTurnedInto_18 rfl (lv_at hl 2 rfl) ?_
        refine lv_aload_n hx hb dX2_slotsTurnedInto_19 rfl (lv_at hl 0 rfl) ?_
        refine z_get (ref := RX2) (C := RX2) (T := TX2) (N := 2) hx hb hts hin2 hown hG g1 rfl 0 (by decide) (by decide +kernel) rfl rfl dX2_slotsTurnedInto_20 ?_
        refine z_roSN (As := [.int (nI (0)), .int (nI (q)), .int (nI (n))]) (rest := [.int (nI (j)), .ref (a)]) (host := "CharmBracelets") S hG (c_X5_changeAt E (lv := 0) (by decide) (i := q) (by omega) hn.2) 3 gX2_slotsTurnedInto_X5_changeAt_n46 (List.mem_of_getElem? (i := 34) rfl) (by decide +kernel) rfl kX5_changeAt.2 ⟨Nat.le_of_ble_eq_true rfl, Nat.le_of_ble_eq_true rfl⟩ ⟨Nat.zero_le _, Nat.zero_le _⟩ (trivial) rfl hl.1 rfl rfl (Nat.le_of_ble_eq_true rfl) dX2_slotsTurnedInto_23 ?_
        refine z_iadd hx hb dX2_slotsTurnedInto_26 ?_
        refine z_roV (As := [.int (nI (j + (q * n / 4)))]) (rest := []) (q := (RX2, TX2, 2)) S hG (c_X2_around_n E (j := j + q * n / 4) (by omega)) 1 gX2_slotsTurnedInto_X2_around rfl kX2_around ⟨Nat.le_of_ble_eq_true rfl, Nat.le_of_ble_eq_true rfl⟩ ⟨Nat.zero_le _, Nat.zero_le _⟩ (hP) rfl g1 rfl hl.1 rfl rfl (Nat.le_of_ble_eq_true rfl) dX2_slotsTurnedInto_27 ?_
        refine z_top (y := nI ((j + q * n / 4) % n)) (by split; rw [Nat.mod_eq_of_lt ‹_›]; rw [zmod_1 (by omega) (by omega)]) ?_
        refine lv_istore (lv' := [(5, .int (nI ((j + q * n / 4) % n))), (0, .ref (a)), (1, .int (w)), (2, .int (nI (q))), (3, .int (zset (fun s => decide (¬ (w >>> (nI ((s + q * n / 4) % n) &&& 31)) &&& 1 = 0)) j)), (4, .int (nI (j)))]) hx hb dX2_slotsTurnedInto_30 hl (by decide) rfl (fun ls hl => ?_)
        refine lv_iload_n hx hb dX2_slotsTurnedInto_32 rfl (lv_at hl 2 rfl) ?_
        refine lv_iload hx hb dX2_slotsTurnedInto_33 (lv_at hl 0 rfl) ?_
        refine lv_ishr hx hb dX2_slotsTurnedInto_35 ?_
        refine lv_iconst (v := nI (1)) hx hb dX2_slotsTurnedInto_36 (by decide) ?_
        refine lv_iand hx hb dX2_slotsTurnedInto_37 ?_
        refine lv_if_eq (tgt := 48) hx hb dX2_slotsTurnedInto_38 (by decide) (fun c_2 => ?_) (fun c_2 => ?_)
        · refine lv_iinc (v := nI (j + 1)) (lv' := [(4, .int (nI (j + 1))), (5, .int (nI ((j + q * n / 4) % n))), (0, .ref (a)), (1, .int (w)), (2, .int (nI (q))), (3, .int (zset (fun s => decide (¬ (w >>> (nI ((s + q * n / 4) % n) &&& 31)) &&& 1 = 0)) j))]) hx hb dX2_slotsTurnedInto_48 hl (k := 5) rfl (z_inc1 _) (by decide) rfl (fun ls hl => ?_)
          refine lv_goto (tgt := 5) hx hb dX2_slotsTurnedInto_51 (by decide) ?_
          have hl9 := lv_sub hl [2, 3, 4, 5, 0] (l' := [(0, .ref (a)), (1, .int (w)), (2, .int (nI (q))), (3, .int (zset (fun s => decide (¬ (w >>> (nI ((s + q * n / 4) % n) &&& 31)) &&& 1 = 0)) j)), (4, .int (nI (j + 1)))]) rfl
          have e9_3 : (zset (fun s => decide (¬ (w >>> (nI ((s + q * n / 4) % n) &&& 31)) &&& 1 = 0)) j) = (zset (fun s => decide (¬ (w >>> (nI ((s + q * n / 4) % n) &&& 31)) &&& 1 = 0)) (j + 1)) := by first | exact zset_t (decide_eq_true c_2) | exact zset_f (decide_eq_false (fun z => z c_2))
          have e9_4 : (j + 1) = ((j + 1)) := by omega
          exact ih5 (j + 1) (by omega) (by omega) ls (by rw [← e9_3, ← e9_4]; exact hl9)
        · refine lv_iload_n hx hb dX2_slotsTurnedInto_41 rfl (lv_at hl 4 rfl) ?_
          refine lv_iconst (v := nI (1)) hx hb dX2_slotsTurnedInto_42 (by decide) ?_
          refine lv_iload hx hb dX2_slotsTurnedInto_43 (lv_at hl 5 rfl) ?_
          refine lv_ishl hx hb dX2_slotsTurnedInto_45 ?_
          refine lv_ior hx hb dX2_slotsTurnedInto_46 ?_
          refine lv_istore_n (lv' := [(3, .int ((zset (fun s => decide (¬ (w >>> (nI ((s + q * n / 4) % n) &&& 31)) &&& 1 = 0)) j) ||| (nI (1) <<< (nI (j) &&& 31)))), (5, .int (nI ((j + q * n / 4) % n))), (0, .ref (a)), (1, .int (w)), (2, .int (nI (q))), (4, .int (nI (j)))]) hx hb dX2_slotsTurnedInto_47 rfl hl (by decide) rfl (fun ls hl => ?_)
          refine lv_iinc (v := nI (j + 1)) (lv' := [(4, .int (nI (j + 1))), (3, .int ((zset (fun s => decide (¬ (w >>> (nI ((s + q * n / 4) % n) &&& 31)) &&& 1 = 0)) j) ||| (nI (1) <<< (nI (j) &&& 31)))), (5, .int (nI ((j + q * n / 4) % n))), (0, .ref (a)), (1, .int (w)), (2, .int (nI (q)))]) hx hb dX2_slotsTurnedInto_48 hl (k := 5) rfl (z_inc1 _) (by decide) rfl (fun ls hl => ?_)
          refine lv_goto (tgt := 5) hx hb dX2_slotsTurnedInto_51 (by decide) ?_
          have hl9 := lv_sub hl [3, 4, 5, 1, 0] (l' := [(0, .ref (a)), (1, .int (w)), (2, .int (nI (q))), (3, .int ((zset (fun s => decide (¬ (w >>> (nI ((s + q * n / 4) % n) &&& 31)) &&& 1 = 0)) j) ||| (nI (1) <<< (nI (j) &&& 31)))), (4, .int (nI (j + 1)))]) rfl
          have e9_3 : ((zset (fun s => decide (¬ (w >>> (nI ((s + q * n / 4) % n) &&& 31)) &&& 1 = 0)) j) ||| (nI (1) <<< (nI (j) &&& 31))) = (zset (fun s => decide (¬ (w >>> (nI ((s + q * n / 4) % n) &&& 31)) &&& 1 = 0)) (j + 1)) := by first | exact zset_t (decide_eq_true c_2) | exact zset_f (decide_eq_false (fun z => z c_2))
          have e9_4 : (j + 1) = ((j + 1)) := by omega
          exact ih5 (j + 1) (by omega) (by omega) ls (by rw [← e9_3, ← e9_4]; exact hl9)
  exact L5 ((n - (0)) + 1) (0) (Nat.lt_succ_self _) (Nat.zero_le _) ls (lv_sub hl [2, 3, 4, 1, 0] rfl)

set_option maxHeartbeats 4000000 in
set_option maxRecDepth 100000 in
theorem c_X1_entryOf (E : zEnv) {ad : Nat → Nat} {b : Nat} {v : zS} {a k n : Nat} {f : Nat → Int32}  (hn : 0 < n ∧ n ≤ 16) (hnl : zNl v ≤ 10) (hf : ∀ t, t < zNl v → 0 < zSz v (6 + t) ∧ zSz v (6 + t) ≤ 16) : zRO E yX1_entryOf wsX1_entryOf 5 115 [.ref (ad (b + 6)), .ref (a)] (fun H => zStA E ad b v H ∧ zRing E a k n f H) (some (.int (nI (zff (fun t => zal (zSz v (6 + t)) (zKd v (6 + t)) n f 1) (zNl v))))) := by
  refine zRO.ofI (maxL := 3) rfl (Nat.le_of_ble_eq_true rfl) (fun p e s m args below meth c H Q hF hP hret ls hl => ?_)
  have S : CallFix p m c cX1_entryOf 3 s args wsX1_entryOf RX1 := hF.1
  have hG := hF.2
  obtain ⟨hx, hb, hml, hown, hts⟩ := id S
  obtain ⟨⟨h0, h1, h2, h3, h4, h5, h6, h7, hR⟩, g1, g2⟩ := id hP
  have hl : lv_has ls 3 [(0, .ref (ad (b + 6))), (1, .ref (a))] := hl
  have hin1 : ∀ w ∈ u_ws RX1 TX1 3, w ∈ wsX1_entryOf := by decide +kernel
  refine lv_iconst (v := nI (0)) hx hb dX1_entryOf_0 (by decide) ?_
  refine lv_istore_n (lv' := [(2, .int (nI (0))), (0, .ref (ad (b + 6))), (1, .ref (a))]) hx hb dX1_entryOf_1 rfl hl (by decide) rfl (fun ls hl => ?_)
  have L2 : ∀ (dd : Nat) (t : Nat), zNl v - t < dd → (t ≤ zNl v) → (∀ u, u < t → zal (zSz v (6 + u)) (zKd v (6 + u)) n f 1 = false) → ∀ (ls : Array Slot), lv_has ls 3 [(0, .ref (ad (b + 6))), (1, .ref (a)), (2, .int (nI (t)))] → W p (zl E) e (zRm 5 115) s m args below meth c H [] 0 0 Q (F0 m 2 ls []) := by
    intro dd
    induction dd with
    | zero => intro t hdd; exact absurd hdd (Nat.not_lt_zero _)
    | succ dd ih2 =>
      intro t hdd2 ht hno ls hl
      refine lv_iload_n hx hb dX1_entryOf_2 rfl (lv_at hl 2 rfl) ?_
      refine lv_aload_n hx hb dX1_entryOf_3 rfl (lv_at hl 0 rfl) ?_
      refine z_get (ref := RX1) (C := RX1) (T := TX1) (N := 3) hx hb hts hin1 hown hG h5 rfl 0 (by decide) (by decide +kernel) rfl rfl dX1_entryOf_4 ?_
      refine z_cge (tgt := 41) hx hb dX1_entryOf_7 (by decide) ⟨by omega, by omega⟩ (fun c_1 => ?_) (fun c_1 => ?_)
      · refine lv_aload_n hx hb dX1_entryOf_41 rfl (lv_at hl 0 rfl) ?_
        refine z_get (ref := RX1) (C := RX1) (T := TX1) (N := 3) hx hb hts hin1 hown hG h5 rfl 0 (by decide) (by decide +kernel) rfl rfl dX1_entryOf_42 ?_
        exact hret _ _ _ dX1_entryOf_45 (by rw [zff_no (fun u hu => hno u (by omega))])
      · refine lv_iload_n hx hb dX1_entryOf_10 rfl (lv_at hl 2 rfl) ?_
        refine lv_aload_n hx hb dX1_entryOf_11 rfl (lv_at hl 0 rfl) ?_
        refine z_get (ref := RX1) (C := RX1) (T := TX1) (N := 3) hx hb hts hin1 hown hG h5 rfl 1 (by decide) (by decide +kernel) rfl rfl dX1_entryOf_12 ?_
        refine z_alenR hx hb hG h6 dX1_entryOf_15 ?_
        refine z_cge (tgt := 41) hx hb dX1_entryOf_16 (by decide) ⟨by omega, by omega⟩ (fun c_2 => by exfalso; omega) (fun c_2 => ?_)
        refine lv_aload_n hx hb dX1_entryOf_19 rfl (lv_at hl 0 rfl) ?_
        refine z_get (ref := RX1) (C := RX1) (T := TX1) (N := 3) hx hb hts hin1 hown hG h5 rfl 1 (by decide) (by decide +kernel) rfl rfl dX1_entryOf_20 ?_
        refine lv_iload_n hx hb dX1_entryOf_23 rfl (lv_at hl 2 rfl) ?_
        refine z_aaldR (j := t) (v := ad (b + 21 + 2 * t)) hx hb hG h6 ⟨by omega, by omega⟩ rfl dX1_entryOf_24 ?_
        refine lv_aload_n hx hb dX1_entryOf_25 rfl (lv_at hl 1 rfl) ?_
        refine lv_iconst (v := nI (1)) hx hb dX1_entryOf_26 (by decide) ?_
        refine z_roVN (As := [.ref (a), .int (nI (1))]) (rest := []) (host := "CharmBracelets") (q := (RX2, TX2, 2)) S hG (c_X2_isAlike E (n := zSz v (6 + t)) (lv := 1) (hf t (by omega)) hn.2 (by decide)) 2 gX1_entryOf_X2_isAlike_n36 (List.mem_of_getElem? (i := 42) rfl) (by decide +kernel) rfl kX2_isAlike.2 ⟨Nat.le_of_ble_eq_true rfl, Nat.le_of_ble_eq_true rfl⟩ ⟨Nat.zero_le _, Nat.zero_le _⟩ (⟨zfr (hR (6 + t) (by omega)), g1, g2⟩) rfl (zfr_1 (hR (6 + t) (by omega))) rfl hl.1 rfl rfl (Nat.le_of_ble_eq_true rfl) dX1_entryOf_27 ?_
        refine z_top (y := zb (zal (zSz v (6 + t)) (zKd v (6 + t)) n f 1)) (by rw [zan_md (hf t (by omega)).1]; rfl) ?_
        refine z_beq (tgt := 35) hx hb dX1_entryOf_30 (by decide) (fun c_3 => ?_) (fun c_3 => ?_)
        · refine lv_iinc (v := nI (t + 1)) (lv' := [(2, .int (nI (t + 1))), (0, .ref (ad (b + 6))), (1, .ref (a))]) hx hb dX1_entryOf_35 hl (k := 2) rfl (z_inc1 _) (by decide) rfl (fun ls hl => ?_)
          refine lv_goto (tgt := 2) hx hb dX1_entryOf_38 (by decide) ?_
          have hl9 := lv_sub hl [1, 2, 0] (l' := [(0, .ref (ad (b + 6))), (1, .ref (a)), (2, .int (nI (t + 1)))]) rfl
          have e9_2 : (t + 1) = ((t + 1)) := by omega
          exact ih2 (t + 1) (by omega) (by omega) (zft hno c_3) ls (by rw [← e9_2]; exact hl9)
        · refine lv_iload_n hx hb dX1_entryOf_33 rfl (lv_at hl 2 rfl) ?_
          exact hret _ _ _ dX1_entryOf_34 (by rw [zff_is (by omega) hno c_3])
  exact L2 ((zNl v - (0)) + 1) (0) (Nat.lt_succ_self _) (Nat.zero_le _) (fun t ht => absurd ht (Nat.not_lt_zero t)) ls (lv_sub hl [1, 2, 0] rfl)
