set_option maxHeartbeats 4000000 in
set_option maxRecDepth 100000 in
theorem c_X2_put (E : zEnv) {a k n : Nat} {f : Nat → Int32} {j : Nat} {x : Int32} (hak : a ≠ k) (hj : j < 16) : zWR E yX2_put wsX2_put 0 0 [.ref (a), .int (nI (j)), .int (x)] (fun H => zRing E a k n f H) (none) (fun H => zRing E a k n (upd f j x) H) (fun q => q = a ∨ q = k) := by
  refine zWR.ofV (maxL := 3) rfl (Nat.le_of_ble_eq_true rfl) (fun p e s m args below meth c H Q hF hP hret ls hl => ?_)
  have S : CallFix p m c cX2_put 3 s args wsX2_put RX2 := hF.1
  have hG := hF.2
  obtain ⟨hx, hb, hml, hown, hts⟩ := id S
  have hS : va_S (fun q => q = a ∨ q = k) H H [] := va_S.rf
  obtain ⟨locs, hlocs⟩ : ∃ x : List Loc, x = [] := ⟨_, rfl⟩
  rw [← hlocs] at hS ⊢
  have hz : H.size = H.size := rfl
  obtain ⟨h1, h2⟩ := hP
  have hl : lv_has ls 3 [(0, .ref (a)), (1, .int (nI (j))), (2, .int (x))] := hl
  have hin2 : ∀ w ∈ u_ws RX2 TX2 2, w ∈ wsX2_put := by decide +kernel
  refine lv_iload_n hx hb dX2_put_0 rfl (lv_at hl 1 rfl) ?_
  refine z_flt (tgt := 20) hx hb dX2_put_1 (by decide) (by omega) ?_
  refine lv_iload_n hx hb dX2_put_4 rfl (lv_at hl 1 rfl) ?_
  refine lv_aload_n hx hb dX2_put_5 rfl (lv_at hl 0 rfl) ?_
  refine z_get (ref := RX2) (C := RX2) (T := TX2) (N := 2) hx hb hts hin2 hown hG h1 rfl 1 (by decide) (by decide +kernel) rfl rfl dX2_put_6 ?_
  refine z_alenI hx hb hG h2 dX2_put_9 ?_
  refine z_cge (tgt := 20) hx hb dX2_put_10 (by decide) ⟨by omega, by omega⟩ (fun c_2 => by exfalso; omega) (fun c_2 => ?_)
  refine lv_aload_n hx hb dX2_put_13 rfl (lv_at hl 0 rfl) ?_
  refine z_get (ref := RX2) (C := RX2) (T := TX2) (N := 2) hx hb hts hin2 hown hG h1 rfl 1 (by decide) (by decide +kernel) rfl rfl dX2_put_14 ?_
  refine lv_iload_n hx hb dX2_put_17 rfl (lv_at hl 1 rfl) ?_
  refine lv_iload_n hx hb dX2_put_18 rfl (lv_at hl 2 rfl) ?_
  refine z_iast (j := j) hx hb hG h2 ⟨by omega, by omega⟩ hS (Or.inr rfl) dX2_put_19 (fun Hn locs h_3 o_4 hS => ?_)
  have k_5 := va_at.kept h1 (o_4.2 _ (hak))
  have hz : Hn.size = H.size := o_4.1.trans hz
  exact hret _ _ _ _ hS (hz) dX2_put_20 (⟨k_5, h_3⟩)

set_option maxHeartbeats 4000000 in
set_option maxRecDepth 100000 in
theorem c_X2_exchange (E : zEnv) {a k n : Nat} {f : Nat → Int32} {i j : Nat} (hak : a ≠ k) (hi : i < 16) (hj : j < 16) : zWR E yX2_exchange wsX2_exchange 1 22 [.ref (a), .int (nI (i)), .int (nI (j))] (fun H => zRing E a k n f H) (none) (fun H => zRing E a k n (upd (upd f i (f j)) j (f i)) H) (fun q => q = a ∨ q = k) := by
  refine zWR.ofV (maxL := 4) rfl (Nat.le_of_ble_eq_true rfl) (fun p e s m args below meth c H Q hF hP hret ls hl => ?_)
  have S : CallFix p m c cX2_exchange 4 s args wsX2_exchange RX2 := hF.1
  have hG := hF.2
  obtain ⟨hx, hb, hml, hown, hts⟩ := id S
  have hS : va_S (fun q => q = a ∨ q = k) H H [] := va_S.rf
  obtain ⟨locs, hlocs⟩ : ∃ x : List Loc, x = [] := ⟨_, rfl⟩
  rw [← hlocs] at hS ⊢
  have hz : H.size = H.size := rfl
  obtain ⟨h1, h2⟩ := hP
  have hl : lv_has ls 4 [(0, .ref (a)), (1, .int (nI (i))), (2, .int (nI (j)))] := hl
  refine lv_aload_n hx hb dX2_exchange_0 rfl (lv_at hl 0 rfl) ?_
  refine lv_iload_n hx hb dX2_exchange_1 rfl (lv_at hl 1 rfl) ?_
  refine z_roV (As := [.int (nI (i))]) (rest := []) (q := (RX2, TX2, 2)) S hG (c_X2_at E hi) 1 gX2_exchange_X2_at rfl kX2_at ⟨Nat.le_of_ble_eq_true rfl, Nat.le_of_ble_eq_true rfl⟩ ⟨Nat.zero_le _, Nat.zero_le _⟩ (⟨h1, h2⟩) rfl h1 rfl hl.1 rfl rfl (Nat.le_of_ble_eq_true rfl) dX2_exchange_2 ?_
  refine lv_istore_n (lv' := [(3, .int (f i)), (0, .ref (a)), (1, .int (nI (i))), (2, .int (nI (j)))]) hx hb dX2_exchange_5 rfl hl (by decide) rfl (fun ls hl => ?_)
  refine lv_aload_n hx hb dX2_exchange_6 rfl (lv_at hl 1 rfl) ?_
  refine lv_iload_n hx hb dX2_exchange_7 rfl (lv_at hl 2 rfl) ?_
  refine lv_aload_n hx hb dX2_exchange_8 rfl (lv_at hl 1 rfl) ?_
  refine lv_iload_n hx hb dX2_exchange_9 rfl (lv_at hl 3 rfl) ?_
  refine z_roV (As := [.int (nI (j))]) (rest := [.int (nI (i)), .ref (a)]) (q := (RX2, TX2, 2)) S hG (c_X2_at E hj) 1 gX2_exchange_X2_at rfl kX2_at ⟨Nat.le_of_ble_eq_true rfl, Nat.le_of_ble_eq_true rfl⟩ ⟨Nat.zero_le _, Nat.zero_le _⟩ (⟨h1, h2⟩) rfl h1 rfl hl.1 rfl rfl (Nat.le_of_ble_eq_true rfl) dX2_exchange_10 ?_
  refine z_wrV (As := [.int (nI (i)), .int (f j)]) (rest := []) (q := (RX2, TX2, 2)) S hG (c_X2_put E (x := f j) hak hi) 2 gX2_exchange_X2_put rfl kX2_put ⟨Nat.le_of_ble_eq_true rfl, Nat.le_of_ble_eq_true rfl⟩ ⟨Nat.zero_le _, Nat.zero_le _⟩ (⟨h1, h2⟩) rfl h1 rfl hl.1 rfl rfl (Nat.le_of_ble_eq_true rfl) dX2_exchange_13 hS (fun _ h => h) (fun Hn locs h_2 q_1 o_3 hS => ?_)
  have hz : Hn.size = H.size := q_1.trans hz
  refine lv_aload_n hx hb dX2_exchange_16 rfl (lv_at hl 1 rfl) ?_
  refine lv_iload_n hx hb dX2_exchange_17 rfl (lv_at hl 3 rfl) ?_
  refine lv_iload_n hx hb dX2_exchange_18 rfl (lv_at hl 0 rfl) ?_
  refine z_wrV (As := [.int (nI (j)), .int (f i)]) (rest := []) (q := (RX2, TX2, 2)) S hG (c_X2_put E (x := f i) hak hj) 2 gX2_exchange_X2_put rfl kX2_put ⟨Nat.le_of_ble_eq_true rfl, Nat.le_of_ble_eq_true rfl⟩ ⟨Nat.zero_le _, Nat.zero_le _⟩ (⟨h_2.1, h_2.2⟩) rfl h_2.1 rfl hl.1 rfl rfl (Nat.le_of_ble_eq_true rfl) dX2_exchange_19 hS (fun _ h => h) (fun Hn locs h_5 q_4 o_6 hS => ?_)
  have hz : Hn.size = H.size := q_4.trans hz
  exact hret _ _ _ _ hS (hz) dX2_exchange_22 (⟨h_5.1, h_5.2⟩)

set_option maxHeartbeats 4000000 in
set_option maxRecDepth 100000 in
theorem c_X2_becomeEmpty (E : zEnv) {a k n : Nat} {f : Nat → Int32} {n2 : Nat} (hak : a ≠ k) : zWR E yX2_becomeEmpty wsX2_becomeEmpty 0 0 [.ref (a), .int (nI (n2))] (fun H => zRing E a k n f H) (none) (fun H => zRing E a k n2 (fun _ => 0) H) (fun q => q = a ∨ q = k) := by
  refine zWR.ofV (maxL := 3) rfl (Nat.le_of_ble_eq_true rfl) (fun p e s m args below meth c H Q hF hP hret ls hl => ?_)
  have S : CallFix p m c cX2_becomeEmpty 3 s args wsX2_becomeEmpty RX2 := hF.1
  have hG := hF.2
  obtain ⟨hx, hb, hml, hown, hts⟩ := id S
  have hS : va_S (fun q => q = a ∨ q = k) H H [] := va_S.rf
  obtain ⟨locs, hlocs⟩ : ∃ x : List Loc, x = [] := ⟨_, rfl⟩
  rw [← hlocs] at hS ⊢
  have hz : H.size = H.size := rfl
  obtain ⟨h1, h2⟩ := hP
  have hl : lv_has ls 3 [(0, .ref (a)), (1, .int (nI (n2)))] := hl
  have hin2 : ∀ w ∈ u_ws RX2 TX2 2, w ∈ wsX2_becomeEmpty := by decide +kernel
  refine lv_aload_n hx hb dX2_becomeEmpty_0 rfl (lv_at hl 0 rfl) ?_
  refine lv_iload_n hx hb dX2_becomeEmpty_1 rfl (lv_at hl 1 rfl) ?_
  refine z_put (ref := RX2) (C := RX2) (T := TX2) (N := 2) hx hb hts hin2 tyX2_ok nmX2 hown hG h1 rfl 0 (by decide) (by decide +kernel) rfl rfl rfl rfl (Nat.le_of_ble_eq_true rfl) hS (Or.inl rfl) dX2_becomeEmpty_2 (fun Hn locs h_1 o_2 hS => ?_)
  have k_3 := va_at.kept h2 (o_2.2 _ (Ne.symm hak))
  have hz : Hn.size = H.size := o_2.1.trans hz
  refine lv_iconst (v := nI (0)) hx hb dX2_becomeEmpty_5 (by decide) ?_
  refine lv_istore_n (lv' := [(2, .int (nI (0))), (0, .ref (a)), (1, .int (nI (n2)))]) hx hb dX2_becomeEmpty_6 rfl hl (by decide) rfl (fun ls hl => ?_)
  have L7 : ∀ (dd : Nat) (i : Nat), 16 - i < dd → (i ≤ 16) → ∀ (Hn : Heap) (locs : List Loc) (hS : va_S (fun q => q = a ∨ q = k) H Hn locs) (hz : Hn.size = H.size) (hr1 : zat E a (.inr (2, [.int (nI n2), .ref k])) Hn) (hr2 : zat E k (.inl (zI E, 16, .inl (zfil f i))) Hn) (ls : Array Slot), lv_has ls 3 [(0, .ref (a)), (1, .int (nI (n2))), (2, .int (nI (i)))] → W p (zl E) e (zRm 0 0) s m args below meth c Hn locs 0 0 Q (F0 m 7 ls []) := by
    intro dd
    induction dd with
    | zero => intro i hdd; exact absurd hdd (Nat.not_lt_zero _)
    | succ dd ih7 =>
      intro i hdd7 hi Hn locs hS hz hr1 hr2 ls hl
      refine lv_iload_n hx hb dX2_becomeEmpty_7 rfl (lv_at hl 2 rfl) ?_
      refine lv_aload_n hx hb dX2_becomeEmpty_8 rfl (lv_at hl 0 rfl) ?_
      refine z_get (ref := RX2) (C := RX2) (T := TX2) (N := 2) hx hb hts hin2 hown hG hr1 rfl 1 (by decide) (by decide +kernel) rfl rfl dX2_becomeEmpty_9 ?_
      refine z_alenI hx hb hG hr2 dX2_becomeEmpty_12 ?_
      refine z_cge (tgt := 29) hx hb dX2_becomeEmpty_13 (by decide) ⟨by omega, by omega⟩ (fun c_4 => ?_) (fun c_4 => ?_)
      · exact hret _ _ _ _ hS (hz) dX2_becomeEmpty_29 (⟨hr1, zat_cong hr2 (fun j hj => zfil_e (by omega))⟩)
      · refine lv_aload_n hx hb dX2_becomeEmpty_16 rfl (lv_at hl 0 rfl) ?_
        refine z_get (ref := RX2) (C := RX2) (T := TX2) (N := 2) hx hb hts hin2 hown hG hr1 rfl 1 (by decide) (by decide +kernel) rfl rfl dX2_becomeEmpty_17 ?_
        refine lv_iload_n hx hb dX2_becomeEmpty_20 rfl (lv_at hl 2 rfl) ?_
        refine lv_iconst (v := nI (0)) hx hb dX2_becomeEmpty_21 (by decide) ?_
        refine z_iast (j := i) hx hb hG hr2 ⟨by omega, by omega⟩ hS (Or.inr rfl) dX2_becomeEmpty_22 (fun Hn locs h_5 o_6 hS => ?_)
        have k_7 := va_at.kept hr1 (o_6.2 _ (hak))
        have hz : Hn.size = H.size := o_6.1.trans hz
        refine lv_iinc (v := nI (i + 1)) (lv' := [(2, .int (nI (i + 1))), (0, .ref (a)), (1, .int (nI (n2)))]) hx hb dX2_becomeEmpty_23 hl (k := 2) rfl (z_inc1 _) (by decide) rfl (fun ls hl => ?_)
        refine lv_goto (tgt := 7) hx hb dX2_becomeEmpty_26 (by decide) ?_
        have hl9 := lv_sub hl [1, 2, 0] (l' := [(0, .ref (a)), (1, .int (nI (n2))), (2, .int (nI (i + 1)))]) rfl
        have e9_2 : (i + 1) = ((i + 1)) := by omega
        exact ih7 (i + 1) (by omega) (by omega) _ _ hS hz (k_7) (by rw [← zfil_s]; exact h_5) ls (by rw [← e9_2]; exact hl9)
  exact L7 ((16 - (0)) + 1) (0) (Nat.lt_succ_self _) (by decide) _ _ hS hz (h_1) (by rw [zfil_0]; exact k_3) ls (lv_sub hl [1, 2, 0] rfl)

set_option maxHeartbeats 4000000 in
set_option maxRecDepth 100000 in
theorem c_X2_becomeLike (E : zEnv) {a k n : Nat} {f : Nat → Int32} {b kb n2 : Nat} {g : Nat → Int32} (hak : a ≠ k) (hne : b ≠ a ∧ kb ≠ a ∧ b ≠ k ∧ kb ≠ k) : zWR E yX2_becomeLike wsX2_becomeLike 1 60 [.ref (a), .ref (b)] (fun H => zRing E a k n f H ∧ zRing E b kb n2 g H) (none) (fun H => zRing E a k n2 g H) (fun q => q = a ∨ q = k) := by
  refine zWR.ofV (maxL := 2) rfl (Nat.le_of_ble_eq_true rfl) (fun p e s m args below meth c H Q hF hP hret ls hl => ?_)
  have S : CallFix p m c cX2_becomeLike 2 s args wsX2_becomeLike RX2 := hF.1
  have hG := hF.2
  obtain ⟨hx, hb, hml, hown, hts⟩ := id S
  have hS : va_S (fun q => q = a ∨ q = k) H H [] := va_S.rf
  obtain ⟨locs, hlocs⟩ : ∃ x : List Loc, x = [] := ⟨_, rfl⟩
  rw [← hlocs] at hS ⊢
  have hz : H.size = H.size := rfl
  obtain ⟨⟨h1, h2⟩, h3, h4⟩ := hP
  have hl : lv_has ls 2 [(0, .ref (a)), (1, .ref (b))] := hl
  have hin2 : ∀ w ∈ u_ws RX2 TX2 2, w ∈ wsX2_becomeLike := by decide +kernel
  refine lv_aload_n hx hb dX2_becomeLike_0 rfl (lv_at hl 0 rfl) ?_
  refine lv_aload_n hx hb dX2_becomeLike_1 rfl (lv_at hl 1 rfl) ?_
  refine z_get (ref := RX2) (C := RX2) (T := TX2) (N := 2) hx hb hts hin2 hown hG h3 rfl 0 (by decide) (by decide +kernel) rfl rfl dX2_becomeLike_2 ?_
  refine z_put (ref := RX2) (C := RX2) (T := TX2) (N := 2) hx hb hts hin2 tyX2_ok nmX2 hown hG h1 rfl 0 (by decide) (by decide +kernel) rfl rfl rfl rfl (Nat.le_of_ble_eq_true rfl) hS (Or.inl rfl) dX2_becomeLike_5 (fun Hn locs h_1 o_2 hS => ?_)
  have k_3 := va_at.kept h2 (o_2.2 _ (Ne.symm hak))
  have k_4 := va_at.kept h3 (o_2.2 _ (hne.1))
  have k_5 := va_at.kept h4 (o_2.2 _ (hne.2.1))
  have hz : Hn.size = H.size := o_2.1.trans hz
  refine lv_aload_n hx hb dX2_becomeLike_8 rfl (lv_at hl 1 rfl) ?_
  refine z_get (ref := RX2) (C := RX2) (T := TX2) (N := 2) hx hb hts hin2 hown hG k_4 rfl 1 (by decide) (by decide +kernel) rfl rfl dX2_becomeLike_9 ?_
  refine lv_iconst (v := nI (0)) hx hb dX2_becomeLike_12 (by decide) ?_
  refine lv_aload_n hx hb dX2_becomeLike_13 rfl (lv_at hl 0 rfl) ?_
  refine z_get (ref := RX2) (C := RX2) (T := TX2) (N := 2) hx hb hts hin2 hown hG h_1 rfl 1 (by decide) (by decide +kernel) rfl rfl dX2_becomeLike_14 ?_
  refine lv_iconst (v := nI (0)) hx hb dX2_becomeLike_17 (by decide) ?_
  refine lv_bipush (v := nI (16)) hx hb dX2_becomeLike_18 (by decide) ?_
  refine z_copy (own := RX2) (index := 19) (n := 16) hx hb (hml.trans hl.1.symm) hts hown hG (by decide +kernel) k_5 k_3 (by decide) hS (Or.inr rfl) (Nat.le_of_ble_eq_true rfl) (Nat.le_of_ble_eq_true rfl) dX2_becomeLike_20 (fun Hn locs h_6 o_7 hS => ?_)
  have k_8 := va_at.kept h_1 (o_7.2 _ (hak))
  have k_9 := va_at.kept k_4 (o_7.2 _ (hne.2.2.1))
  have k_10 := va_at.kept k_5 (o_7.2 _ (hne.2.2.2))
  have hz : Hn.size = H.size := o_7.1.trans hz
  exact hret _ _ _ _ hS (hz) dX2_becomeLike_23 (⟨k_8, zat_cong h_6 (fun j hj => zcpy_e hj)⟩)

set_option maxHeartbeats 4000000 in
set_option maxRecDepth 100000 in
theorem c_X0_becomeNone (E : zEnv) {mo mk ml : Nat} {sg : Nat → Int32} (hak : mo ≠ mk) : zWR E yX0_becomeNone wsX0_becomeNone 0 0 [.ref (mo)] (fun H => zMo E mo mk ml sg H) (none) (fun H => zMo E mo mk 0 sg H) (fun q => q = mo ∨ q = mk) := by
  refine zWR.ofV (maxL := 1) rfl (Nat.le_of_ble_eq_true rfl) (fun p e s m args below meth c H Q hF hP hret ls hl => ?_)
  have S : CallFix p m c cX0_becomeNone 1 s args wsX0_becomeNone RX0 := hF.1
  have hG := hF.2
  obtain ⟨hx, hb, hml, hown, hts⟩ := id S
  have hS : va_S (fun q => q = mo ∨ q = mk) H H [] := va_S.rf
  obtain ⟨locs, hlocs⟩ : ∃ x : List Loc, x = [] := ⟨_, rfl⟩
  rw [← hlocs] at hS ⊢
  have hz : H.size = H.size := rfl
  obtain ⟨h1, h2⟩ := hP
  have hl : lv_has ls 1 [(0, .ref (mo))] := hl
  have hin0 : ∀ w ∈ u_ws RX0 TX0 2, w ∈ wsX0_becomeNone := by decide +kernel
  refine lv_aload_n hx hb dX0_becomeNone_0 rfl (lv_at hl 0 rfl) ?_
  refine lv_iconst (v := nI (0)) hx hb dX0_becomeNone_1 (by decide) ?_
  refine z_put (ref := RX0) (C := RX0) (T := TX0) (N := 2) hx hb hts hin0 tyX0_ok nmX0 hown hG h1 rfl 0 (by decide) (by decide +kernel) rfl rfl rfl rfl (Nat.le_of_ble_eq_true rfl) hS (Or.inl rfl) dX0_becomeNone_2 (fun Hn locs h_1 o_2 hS => ?_)
  have k_3 := va_at.kept h2 (o_2.2 _ (Ne.symm hak))
  have hz : Hn.size = H.size := o_2.1.trans hz
  exact hret _ _ _ _ hS (hz) dX0_becomeNone_5 (⟨h_1, k_3⟩)

set_option maxHeartbeats 4000000 in
set_option maxRecDepth 100000 in
theorem c_X0_addSign (E : zEnv) {mo mk ml : Nat} {sg : Nat → Int32} {x : Int32} (hak : mo ≠ mk) (hl6 : ml < 6) : zWR E yX0_addSign wsX0_addSign 0 0 [.ref (mo), .int (x)] (fun H => zMo E mo mk ml sg H) (none) (fun H => zMo E mo mk (ml + 1) (upd sg ml x) H) (fun q => q = mo ∨ q = mk) := by
  refine zWR.ofV (maxL := 2) rfl (Nat.le_of_ble_eq_true rfl) (fun p e s m args below meth c H Q hF hP hret ls hl => ?_)
  have S : CallFix p m c cX0_addSign 2 s args wsX0_addSign RX0 := hF.1
  have hG := hF.2
  obtain ⟨hx, hb, hml, hown, hts⟩ := id S
  have hS : va_S (fun q => q = mo ∨ q = mk) H H [] := va_S.rf
  obtain ⟨locs, hlocs⟩ : ∃ x : List Loc, x = [] := ⟨_, rfl⟩
  rw [← hlocs] at hS ⊢
  have hz : H.size = H.size := rfl
  obtain ⟨h1, h2⟩ := hP
  have hl : lv_has ls 2 [(0, .ref (mo)), (1, .int (x))] := hl
  have hin0 : ∀ w ∈ u_ws RX0 TX0 2, w ∈ wsX0_addSign := by decide +kernel
  refine lv_aload_n hx hb dX0_addSign_0 rfl (lv_at hl 0 rfl) ?_
  refine z_get (ref := RX0) (C := RX0) (T := TX0) (N := 2) hx hb hts hin0 hown hG h1 rfl 0 (by decide) (by decide +kernel) rfl rfl dX0_addSign_1 ?_
  refine lv_aload_n hx hb dX0_addSign_4 rfl (lv_at hl 0 rfl) ?_
  refine z_get (ref := RX0) (C := RX0) (T := TX0) (N := 2) hx hb hts hin0 hown hG h1 rfl 1 (by decide) (by decide +kernel) rfl rfl dX0_addSign_5 ?_
  refine z_alenI hx hb hG h2 dX0_addSign_8 ?_
  refine z_cge (tgt := 32) hx hb dX0_addSign_9 (by decide) ⟨by omega, by omega⟩ (fun c_1 => by exfalso; omega) (fun c_1 => ?_)
  refine lv_aload_n hx hb dX0_addSign_12 rfl (lv_at hl 0 rfl) ?_
  refine z_get (ref := RX0) (C := RX0) (T := TX0) (N := 2) hx hb hts hin0 hown hG h1 rfl 1 (by decide) (by decide +kernel) rfl rfl dX0_addSign_13 ?_
  refine lv_aload_n hx hb dX0_addSign_16 rfl (lv_at hl 0 rfl) ?_
  refine z_get (ref := RX0) (C := RX0) (T := TX0) (N := 2) hx hb hts hin0 hown hG h1 rfl 0 (by decide) (by decide +kernel) rfl rfl dX0_addSign_17 ?_
  refine lv_iload_n hx hb dX0_addSign_20 rfl (lv_at hl 1 rfl) ?_
  refine z_iast (j := ml) hx hb hG h2 ⟨by omega, by omega⟩ hS (Or.inr rfl) dX0_addSign_21 (fun Hn locs h_2 o_3 hS => ?_)
  have k_4 := va_at.kept h1 (o_3.2 _ (hak))
  have hz : Hn.size = H.size := o_3.1.trans hz
  refine lv_aload_n hx hb dX0_addSign_22 rfl (lv_at hl 0 rfl) ?_
  refine lv_dup hx hb dX0_addSign_23 rfl ?_
  refine z_get (ref := RX0) (C := RX0) (T := TX0) (N := 2) hx hb hts hin0 hown hG k_4 rfl 0 (by decide) (by decide +kernel) rfl rfl dX0_addSign_24 ?_
  refine lv_iconst (v := nI (1)) hx hb dX0_addSign_27 (by decide) ?_
  refine z_iadd hx hb dX0_addSign_28 ?_
  refine z_put (ref := RX0) (C := RX0) (T := TX0) (N := 2) hx hb hts hin0 tyX0_ok nmX0 hown hG k_4 rfl 0 (by decide) (by decide +kernel) rfl rfl rfl rfl (Nat.le_of_ble_eq_true rfl) hS (Or.inl rfl) dX0_addSign_29 (fun Hn locs h_5 o_6 hS => ?_)
  have k_7 := va_at.kept h_2 (o_6.2 _ (Ne.symm hak))
  have hz : Hn.size = H.size := o_6.1.trans hz
  exact hret _ _ _ _ hS (hz) dX0_addSign_32 (⟨h_5, k_7⟩)

set_option maxHeartbeats 4000000 in
set_option maxRecDepth 100000 in
theorem c_X0_becomeLike (E : zEnv) {mo mk ml : Nat} {sg : Nat → Int32} {b kb n2 : Nat} {g : Nat → Int32} (hak : mo ≠ mk) (hne : b ≠ mo ∧ kb ≠ mo ∧ b ≠ mk ∧ kb ≠ mk) : zWR E yX0_becomeLike wsX0_becomeLike 1 60 [.ref (mo), .ref (b)] (fun H => zMo E mo mk ml sg H ∧ zMo E b kb n2 g H) (none) (fun H => zMo E mo mk n2 g H) (fun q => q = mo ∨ q = mk) := by
  refine zWR.ofV (maxL := 2) rfl (Nat.le_of_ble_eq_true rfl) (fun p e s m args below meth c H Q hF hP hret ls hl => ?_)
  have S : CallFix p m c cX0_becomeLike 2 s args wsX0_becomeLike RX0 := hF.1
  have hG := hF.2
  obtain ⟨hx, hb, hml, hown, hts⟩ := id S
  have hS : va_S (fun q => q = mo ∨ q = mk) H H [] := va_S.rf
  obtain ⟨locs, hlocs⟩ : ∃ x : List Loc, x = [] := ⟨_, rfl⟩
  rw [← hlocs] at hS ⊢
  have hz : H.size = H.size := rfl
  obtain ⟨⟨h1, h2⟩, h3, h4⟩ := hP
  have hl : lv_has ls 2 [(0, .ref (mo)), (1, .ref (b))] := hl
  have hin0 : ∀ w ∈ u_ws RX0 TX0 2, w ∈ wsX0_becomeLike := by decide +kernel
  refine lv_aload_n hx hb dX0_becomeLike_0 rfl (lv_at hl 0 rfl) ?_
  refine lv_aload_n hx hb dX0_becomeLike_1 rfl (lv_at hl 1 rfl) ?_
  refine z_get (ref := RX0) (C := RX0) (T := TX0) (N := 2) hx hb hts hin0 hown hG h3 rfl 0 (by decide) (by decide +kernel) rfl rfl dX0_becomeLike_2 ?_
  refine z_put (ref := RX0) (C := RX0) (T := TX0) (N := 2) hx hb hts hin0 tyX0_ok nmX0 hown hG h1 rfl 0 (by decide) (by decide +kernel) rfl rfl rfl rfl (Nat.le_of_ble_eq_true rfl) hS (Or.inl rfl) dX0_becomeLike_5 (fun Hn locs h_1 o_2 hS => ?_)
  have k_3 := va_at.kept h2 (o_2.2 _ (Ne.symm hak))
  have k_4 := va_at.kept h3 (o_2.2 _ (hne.1))
  have k_5 := va_at.kept h4 (o_2.2 _ (hne.2.1))
  have hz : Hn.size = H.size := o_2.1.trans hz
  refine lv_aload_n hx hb dX0_becomeLike_8 rfl (lv_at hl 1 rfl) ?_
  refine z_get (ref := RX0) (C := RX0) (T := TX0) (N := 2) hx hb hts hin0 hown hG k_4 rfl 1 (by decide) (by decide +kernel) rfl rfl dX0_becomeLike_9 ?_
  refine lv_iconst (v := nI (0)) hx hb dX0_becomeLike_12 (by decide) ?_
  refine lv_aload_n hx hb dX0_becomeLike_13 rfl (lv_at hl 0 rfl) ?_
  refine z_get (ref := RX0) (C := RX0) (T := TX0) (N := 2) hx hb hts hin0 hown hG h_1 rfl 1 (by decide) (by decide +kernel) rfl rfl dX0_becomeLike_14 ?_
  refine lv_iconst (v := nI (0)) hx hb dX0_becomeLike_17 (by decide) ?_
  refine lv_bipush (v := nI (6)) hx hb dX0_becomeLike_18 (by decide) ?_
  refine z_copy (own := RX0) (index := 19) (n := 6) hx hb (hml.trans hl.1.symm) hts hown hG (by decide +kernel) k_5 k_3 (by decide) hS (Or.inr rfl) (Nat.le_of_ble_eq_true rfl) (Nat.le_of_ble_eq_true rfl) dX0_becomeLike_20 (fun Hn locs h_6 o_7 hS => ?_)
  have k_8 := va_at.kept h_1 (o_7.2 _ (hak))
  have k_9 := va_at.kept k_4 (o_7.2 _ (hne.2.2.1))
  have k_10 := va_at.kept k_5 (o_7.2 _ (hne.2.2.2))
  have hz : Hn.size = H.size := o_7.1.trans hz
  exact hret _ _ _ _ hS (hz) dX0_becomeLike_23 (⟨k_8, zat_cong h_6 (fun j hj => zcpy_e hj)⟩)
