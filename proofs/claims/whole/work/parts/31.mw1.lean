set_option maxHeartbeats 4000000 in
set_option maxRecDepth 100000 in
theorem c_X6_record (E : zEnv) {am : Nat → Nat} {z past kept buf rg td : Nat → Int32} {an : Bool} {ct ln tm nb : Nat} {nw : zS} {hs : Nat → zS} (hinj : zInM am) (hct : ct ≤ 5) (hok : zOk nw) (hr : zRep z nw) (hpa : zPast past ct hs) : zWR E yX6_record wsX6_record 0 0 [.ref (am 0)] (fun H => zMX E am z past ct kept an buf ln rg td tm nb H) (none) (fun H => ∃ past : Nat → Int32, zMX E am z past (zrC ct) kept an buf ln rg td tm nb H ∧ zPast past (zrC ct) (zrH hs ct nw)) (zAM am) := by
  refine zWR.ofV (maxL := 2) rfl (Nat.le_of_ble_eq_true rfl) (fun p e s m args below meth c H Q hF hP hret ls hl => ?_)
  have S : CallFix p m c cX6_record 2 s args wsX6_record RX6 := hF.1
  have hG := hF.2
  obtain ⟨hx, hb, hml, hown, hts⟩ := id S
  have hS : va_S (zAM am) H H [] := va_S.rf
  obtain ⟨locs, hlocs⟩ : ∃ x : List Loc, x = [] := ⟨_, rfl⟩
  rw [← hlocs] at hS ⊢
  have hz : H.size = H.size := rfl
  obtain ⟨h0, h1, h2, h3, h4, h5, h6⟩ := hP
  have hl : lv_has ls 2 [(0, .ref (am 0))] := hl
  have hin6 : ∀ w ∈ u_ws RX6 TX6 11, w ∈ wsX6_record := by decide +kernel
  rcases Nat.lt_or_ge ct 5 with hc5 | hc5
  · refine lv_aload_n hx hb dX6_record_0 rfl (lv_at hl 0 rfl) ?_
    refine z_get (ref := RX6) (C := RX6) (T := TX6) (N := 11) hx hb hts hin6 hown hG h0 rfl 2 (by decide) (by decide +kernel) rfl rfl dX6_record_1 ?_
    refine lv_iconst (v := nI (5)) hx hb dX6_record_4 (by decide) ?_
    refine z_cne (tgt := 49) hx hb dX6_record_5 (by decide) ⟨by omega, by omega⟩ (fun c_1 => ?_) (fun c_1 => by exfalso; omega)
    refine lv_iconst (v := nI (0)) hx hb dX6_record_49 (by decide) ?_
    refine lv_istore_n (lv' := [(1, .int (nI (0))), (0, .ref (am 0))]) hx hb dX6_record_50 rfl hl (by decide) rfl (fun ls hl => ?_)
    have L51 : ∀ (dd : Nat) (i : Nat), 300 - i < dd → (i ≤ 300) → ∀ (Hn : Heap) (locs : List Loc) (hS : va_S (zAM am) H Hn locs) (hz : Hn.size = H.size) (hX : zMX E am z (zpb past z (ct * 300) i) ct kept an buf ln rg td tm nb Hn) (ls : Array Slot), lv_has ls 2 [(0, .ref (am 0)), (1, .int (nI (i)))] → W p (zl E) e (zRm 0 0) s m args below meth c Hn locs 0 0 Q (F0 m 51 ls []) := by
      intro dd
      induction dd with
      | zero => intro i hdd; exact absurd hdd (Nat.not_lt_zero _)
      | succ dd ih51 =>
        intro i hdd51 hi Hn locs hS hz hX ls hl
        obtain ⟨h0, h1, h2, h3, h4, h5, h6⟩ := hX
        refine lv_iload_n hx hb dX6_record_51 rfl (lv_at hl 1 rfl) ?_
        refine lv_sipush (v := nI (300)) hx hb dX6_record_52 (by decide) ?_
        refine z_cge (tgt := 85) hx hb dX6_record_55 (by decide) ⟨by omega, by omega⟩ (fun c_2 => ?_) (fun c_2 => ?_)
        · obtain rfl : i = 300 := by omega
          refine lv_aload_n hx hb dX6_record_85 rfl (lv_at hl 0 rfl) ?_
          refine lv_dup hx hb dX6_record_86 rfl ?_
          refine z_get (ref := RX6) (C := RX6) (T := TX6) (N := 11) hx hb hts hin6 hown hG h0 rfl 2 (by decide) (by decide +kernel) rfl rfl dX6_record_87 ?_
          refine lv_iconst (v := nI (1)) hx hb dX6_record_90 (by decide) ?_
          refine z_iadd hx hb dX6_record_91 ?_
          refine z_put (ref := RX6) (C := RX6) (T := TX6) (N := 11) hx hb hts hin6 tyX6_ok nmX6 hown hG h0 rfl 2 (by decide) (by decide +kernel) rfl rfl rfl rfl (Nat.le_of_ble_eq_true rfl) hS (⟨0, by decide, rfl⟩) dX6_record_92 (fun Hn locs h_3 o_4 hS => ?_)
          have k_5 := va_at.kept h1 (o_4.2 _ (hinj.ne (by decide) (by decide) (by decide)))
          have k_6 := va_at.kept h2 (o_4.2 _ (hinj.ne (by decide) (by decide) (by decide)))
          have k_7 := va_at.kept h3 (o_4.2 _ (hinj.ne (by decide) (by decide) (by decide)))
          have k_8 := va_at.kept h4 (o_4.2 _ (hinj.ne (by decide) (by decide) (by decide)))
          have k_9 := va_at.kept h5 (o_4.2 _ (hinj.ne (by decide) (by decide) (by decide)))
          have k_10 := va_at.kept h6 (o_4.2 _ (hinj.ne (by decide) (by decide) (by decide)))
          have hz : Hn.size = H.size := o_4.1.trans hz
          exact hret _ _ _ _ hS (hz) dX6_record_95 (⟨zpb past z (ct * 300) 300, by rw [show zrC ct = ct + 1 from if_pos hc5]; exact ⟨h_3, k_5, k_6, k_7, k_8, k_9, k_10⟩, zPast_a hc5 hok hr hpa⟩)
        · refine lv_aload_n hx hb dX6_record_58 rfl (lv_at hl 0 rfl) ?_
          refine z_get (ref := RX6) (C := RX6) (T := TX6) (N := 11) hx hb hts hin6 hown hG h0 rfl 1 (by decide) (by decide +kernel) rfl rfl dX6_record_59 ?_
          refine lv_aload_n hx hb dX6_record_62 rfl (lv_at hl 0 rfl) ?_
          refine z_get (ref := RX6) (C := RX6) (T := TX6) (N := 11) hx hb hts hin6 hown hG h0 rfl 2 (by decide) (by decide +kernel) rfl rfl dX6_record_63 ?_
          refine lv_sipush (v := nI (300)) hx hb dX6_record_66 (by decide) ?_
          refine z_imul hx hb dX6_record_69 ?_
          refine lv_iload_n hx hb dX6_record_70 rfl (lv_at hl 1 rfl) ?_
          refine z_iadd hx hb dX6_record_71 ?_
          refine lv_aload_n hx hb dX6_record_72 rfl (lv_at hl 0 rfl) ?_
          refine z_get (ref := RX6) (C := RX6) (T := TX6) (N := 11) hx hb hts hin6 hown hG h0 rfl 0 (by decide) (by decide +kernel) rfl rfl dX6_record_73 ?_
          refine lv_iload_n hx hb dX6_record_76 rfl (lv_at hl 1 rfl) ?_
          refine z_iald (j := i) hx hb hG h1 ⟨by omega, by omega⟩ dX6_record_77 ?_
          refine z_iast (j := (ct * 300) + i) hx hb hG h2 ⟨by omega, by omega⟩ hS (⟨2, by decide, rfl⟩) dX6_record_78 (fun Hn locs h_11 o_12 hS => ?_)
          have k_13 := va_at.kept h0 (o_12.2 _ (hinj.ne (by decide) (by decide) (by decide)))
          have k_14 := va_at.kept h1 (o_12.2 _ (hinj.ne (by decide) (by decide) (by decide)))
          have k_15 := va_at.kept h3 (o_12.2 _ (hinj.ne (by decide) (by decide) (by decide)))
          have k_16 := va_at.kept h4 (o_12.2 _ (hinj.ne (by decide) (by decide) (by decide)))
          have k_17 := va_at.kept h5 (o_12.2 _ (hinj.ne (by decide) (by decide) (by decide)))
          have k_18 := va_at.kept h6 (o_12.2 _ (hinj.ne (by decide) (by decide) (by decide)))
          have hz : Hn.size = H.size := o_12.1.trans hz
          refine lv_iinc (v := nI (i + 1)) (lv' := [(1, .int (nI (i + 1))), (0, .ref (am 0))]) hx hb dX6_record_79 hl (k := 1) rfl (z_inc1 _) (by decide) rfl (fun ls hl => ?_)
          refine lv_goto (tgt := 51) hx hb dX6_record_82 (by decide) ?_
          have hl9 := lv_sub hl [1, 0] (l' := [(0, .ref (am 0)), (1, .int (nI (i + 1)))]) rfl
          have e9_1 : (i + 1) = ((i + 1)) := by omega
          exact ih51 (i + 1) (by omega) (by omega) _ _ hS hz (by rw [← zpb_s]; exact ⟨k_13, k_14, h_11, k_15, k_16, k_17, k_18⟩) ls (by rw [← e9_1]; exact hl9)
    exact L51 ((300 - (0)) + 1) (0) (Nat.lt_succ_self _) (by decide) _ _ hS hz (by rw [zpb_0]; exact ⟨h0, h1, h2, h3, h4, h5, h6⟩) ls (lv_sub hl [1, 0] rfl)
  · obtain rfl : ct = 5 := by omega
    refine lv_aload_n hx hb dX6_record_0 rfl (lv_at hl 0 rfl) ?_
    refine z_get (ref := RX6) (C := RX6) (T := TX6) (N := 11) hx hb hts hin6 hown hG h0 rfl 2 (by decide) (by decide +kernel) rfl rfl dX6_record_1 ?_
    refine lv_iconst (v := nI (5)) hx hb dX6_record_4 (by decide) ?_
    refine z_cne (tgt := 49) hx hb dX6_record_5 (by decide) ⟨by omega, by omega⟩ (fun c_19 => by exfalso; omega) (fun c_19 => ?_)
    refine lv_iconst (v := nI (0)) hx hb dX6_record_8 (by decide) ?_
    refine lv_istore_n (lv' := [(1, .int (nI (0))), (0, .ref (am 0))]) hx hb dX6_record_9 rfl hl (by decide) rfl (fun ls hl => ?_)
    have L10 : ∀ (dd : Nat) (i : Nat), 1200 - i < dd → (i ≤ 1200) → ∀ (Hn : Heap) (locs : List Loc) (hS : va_S (zAM am) H Hn locs) (hz : Hn.size = H.size) (hX : zMX E am z (zsh past i) 5 kept an buf ln rg td tm nb Hn) (ls : Array Slot), lv_has ls 2 [(0, .ref (am 0)), (1, .int (nI (i)))] → W p (zl E) e (zRm 0 0) s m args below meth c Hn locs 0 0 Q (F0 m 10 ls []) := by
      intro dd
      induction dd with
      | zero => intro i hdd; exact absurd hdd (Nat.not_lt_zero _)
      | succ dd ih10 =>
        intro i hdd10 hi Hn locs hS hz hX ls hl
        obtain ⟨h0, h1, h2, h3, h4, h5, h6⟩ := hX
        refine lv_iload_n hx hb dX6_record_10 rfl (lv_at hl 1 rfl) ?_
        refine lv_sipush (v := nI (1200)) hx hb dX6_record_11 (by decide) ?_
        refine z_cge (tgt := 39) hx hb dX6_record_14 (by decide) ⟨by omega, by omega⟩ (fun c_20 => ?_) (fun c_20 => ?_)
        · obtain rfl : i = 1200 := by omega
          refine lv_aload_n hx hb dX6_record_39 rfl (lv_at hl 0 rfl) ?_
          refine lv_dup hx hb dX6_record_40 rfl ?_
          refine z_get (ref := RX6) (C := RX6) (T := TX6) (N := 11) hx hb hts hin6 hown hG h0 rfl 2 (by decide) (by decide +kernel) rfl rfl dX6_record_41 ?_
          refine lv_iconst (v := nI (1)) hx hb dX6_record_44 (by decide) ?_
          refine z_isub hx hb dX6_record_45 (by omega) ?_
          refine z_put (ref := RX6) (C := RX6) (T := TX6) (N := 11) hx hb hts hin6 tyX6_ok nmX6 hown hG h0 rfl 2 (by decide) (by decide +kernel) rfl rfl rfl rfl (Nat.le_of_ble_eq_true rfl) hS (⟨0, by decide, rfl⟩) dX6_record_46 (fun Hn locs h_21 o_22 hS => ?_)
          have k_23 := va_at.kept h1 (o_22.2 _ (hinj.ne (by decide) (by decide) (by decide)))
          have k_24 := va_at.kept h2 (o_22.2 _ (hinj.ne (by decide) (by decide) (by decide)))
          have k_25 := va_at.kept h3 (o_22.2 _ (hinj.ne (by decide) (by decide) (by decide)))
          have k_26 := va_at.kept h4 (o_22.2 _ (hinj.ne (by decide) (by decide) (by decide)))
          have k_27 := va_at.kept h5 (o_22.2 _ (hinj.ne (by decide) (by decide) (by decide)))
          have k_28 := va_at.kept h6 (o_22.2 _ (hinj.ne (by decide) (by decide) (by decide)))
          have hz : Hn.size = H.size := o_22.1.trans hz
          refine lv_iconst (v := nI (0)) hx hb dX6_record_49 (by decide) ?_
          refine lv_istore_n (lv' := [(1, .int (nI (0))), (0, .ref (am 0))]) hx hb dX6_record_50 rfl hl (by decide) rfl (fun ls hl => ?_)
          have L51 : ∀ (dd : Nat) (i : Nat), 300 - i < dd → (i ≤ 300) → ∀ (Hn : Heap) (locs : List Loc) (hS : va_S (zAM am) H Hn locs) (hz : Hn.size = H.size) (hX : zMX E am z (zpb (zsh past 1200) z ((5 - 1) * 300) i) (5 - 1) kept an buf ln rg td tm nb Hn) (ls : Array Slot), lv_has ls 2 [(0, .ref (am 0)), (1, .int (nI (i)))] → W p (zl E) e (zRm 0 0) s m args below meth c Hn locs 0 0 Q (F0 m 51 ls []) := by
            intro dd
            induction dd with
            | zero => intro i hdd; exact absurd hdd (Nat.not_lt_zero _)
            | succ dd ih51 =>
              intro i hdd51 hi Hn locs hS hz hX ls hl
              obtain ⟨h0, h1, h2, h3, h4, h5, h6⟩ := hX
              refine lv_iload_n hx hb dX6_record_51 rfl (lv_at hl 1 rfl) ?_
              refine lv_sipush (v := nI (300)) hx hb dX6_record_52 (by decide) ?_
              refine z_cge (tgt := 85) hx hb dX6_record_55 (by decide) ⟨by omega, by omega⟩ (fun c_29 => ?_) (fun c_29 => ?_)
              · obtain rfl : i = 300 := by omega
                refine lv_aload_n hx hb dX6_record_85 rfl (lv_at hl 0 rfl) ?_
                refine lv_dup hx hb dX6_record_86 rfl ?_
                refine z_get (ref := RX6) (C := RX6) (T := TX6) (N := 11) hx hb hts hin6 hown hG h0 rfl 2 (by decide) (by decide +kernel) rfl rfl dX6_record_87 ?_
                refine lv_iconst (v := nI (1)) hx hb dX6_record_90 (by decide) ?_
                refine z_iadd hx hb dX6_record_91 ?_
                refine z_put (ref := RX6) (C := RX6) (T := TX6) (N := 11) hx hb hts hin6 tyX6_ok nmX6 hown hG h0 rfl 2 (by decide) (by decide +kernel) rfl rfl rfl rfl (Nat.le_of_ble_eq_true rfl) hS (⟨0, by decide, rfl⟩) dX6_record_92 (fun Hn locs h_30 o_31 hS => ?_)
                have k_32 := va_at.kept h1 (o_31.2 _ (hinj.ne (by decide) (by decide) (by decide)))
                have k_33 := va_at.kept h2 (o_31.2 _ (hinj.ne (by decide) (by decide) (by decide)))
                have k_34 := va_at.kept h3 (o_31.2 _ (hinj.ne (by decide) (by decide) (by decide)))
                have k_35 := va_at.kept h4 (o_31.2 _ (hinj.ne (by decide) (by decide) (by decide)))
                have k_36 := va_at.kept h5 (o_31.2 _ (hinj.ne (by decide) (by decide) (by decide)))
                have k_37 := va_at.kept h6 (o_31.2 _ (hinj.ne (by decide) (by decide) (by decide)))
                have hz : Hn.size = H.size := o_31.1.trans hz
                exact hret _ _ _ _ hS (hz) dX6_record_95 (⟨zpb (zsh past 1200) z (4 * 300) 300, ⟨h_30, k_32, k_33, k_34, k_35, k_36, k_37⟩, zPast_b hok hr hpa⟩)
              · refine lv_aload_n hx hb dX6_record_58 rfl (lv_at hl 0 rfl) ?_
                refine z_get (ref := RX6) (C := RX6) (T := TX6) (N := 11) hx hb hts hin6 hown hG h0 rfl 1 (by decide) (by decide +kernel) rfl rfl dX6_record_59 ?_
                refine lv_aload_n hx hb dX6_record_62 rfl (lv_at hl 0 rfl) ?_
                refine z_get (ref := RX6) (C := RX6) (T := TX6) (N := 11) hx hb hts hin6 hown hG h0 rfl 2 (by decide) (by decide +kernel) rfl rfl dX6_record_63 ?_
                refine lv_sipush (v := nI (300)) hx hb dX6_record_66 (by decide) ?_
                refine z_imul hx hb dX6_record_69 ?_
                refine lv_iload_n hx hb dX6_record_70 rfl (lv_at hl 1 rfl) ?_
                refine z_iadd hx hb dX6_record_71 ?_
                refine lv_aload_n hx hb dX6_record_72 rfl (lv_at hl 0 rfl) ?_
                refine z_get (ref := RX6) (C := RX6) (T := TX6) (N := 11) hx hb hts hin6 hown hG h0 rfl 0 (by decide) (by decide +kernel) rfl rfl dX6_record_73 ?_
                refine lv_iload_n hx hb dX6_record_76 rfl (lv_at hl 1 rfl) ?_
                refine z_iald (j := i) hx hb hG h1 ⟨by omega, by omega⟩ dX6_record_77 ?_
                refine z_iast (j := ((5 - 1) * 300) + i) hx hb hG h2 ⟨by omega, by omega⟩ hS (⟨2, by decide, rfl⟩) dX6_record_78 (fun Hn locs h_38 o_39 hS => ?_)
                have k_40 := va_at.kept h0 (o_39.2 _ (hinj.ne (by decide) (by decide) (by decide)))
                have k_41 := va_at.kept h1 (o_39.2 _ (hinj.ne (by decide) (by decide) (by decide)))
                have k_42 := va_at.kept h3 (o_39.2 _ (hinj.ne (by decide) (by decide) (by decide)))
                have k_43 := va_at.kept h4 (o_39.2 _ (hinj.ne (by decide) (by decide) (by decide)))
                have k_44 := va_at.kept h5 (o_39.2 _ (hinj.ne (by decide) (by decide) (by decide)))
                have k_45 := va_at.kept h6 (o_39.2 _ (hinj.ne (by decide) (by decide) (by decide)))
                have hz : Hn.size = H.size := o_39.1.trans hz
                refine lv_iinc (v := nI (i + 1)) (lv' := [(1, .int (nI (i + 1))), (0, .ref (am 0))]) hx hb dX6_record_79 hl (k := 1) rfl (z_inc1 _) (by decide) rfl (fun ls hl => ?_)
                refine lv_goto (tgt := 51) hx hb dX6_record_82 (by decide) ?_
                have hl9 := lv_sub hl [1, 0] (l' := [(0, .ref (am 0)), (1, .int (nI (i + 1)))]) rfl
                have e9_1 : (i + 1) = ((i + 1)) := by omega
                exact ih51 (i + 1) (by omega) (by omega) _ _ hS hz (by rw [← zpb_s]; exact ⟨k_40, k_41, h_38, k_42, k_43, k_44, k_45⟩) ls (by rw [← e9_1]; exact hl9)
          exact L51 ((300 - (0)) + 1) (0) (Nat.lt_succ_self _) (by decide) _ _ hS hz (by rw [zpb_0]; exact ⟨h_21, k_23, k_24, k_25, k_26, k_27, k_28⟩) ls (lv_sub hl [1, 0] rfl)
        · refine lv_aload_n hx hb dX6_record_17 rfl (lv_at hl 0 rfl) ?_
          refine z_get (ref := RX6) (C := RX6) (T := TX6) (N := 11) hx hb hts hin6 hown hG h0 rfl 1 (by decide) (by decide +kernel) rfl rfl dX6_record_18 ?_
          refine lv_iload_n hx hb dX6_record_21 rfl (lv_at hl 1 rfl) ?_
          refine lv_aload_n hx hb dX6_record_22 rfl (lv_at hl 0 rfl) ?_
          refine z_get (ref := RX6) (C := RX6) (T := TX6) (N := 11) hx hb hts hin6 hown hG h0 rfl 1 (by decide) (by decide +kernel) rfl rfl dX6_record_23 ?_
          refine lv_iload_n hx hb dX6_record_26 rfl (lv_at hl 1 rfl) ?_
          refine lv_sipush (v := nI (300)) hx hb dX6_record_27 (by decide) ?_
          refine z_iadd hx hb dX6_record_30 ?_
          refine z_iald (j := i + 300) hx hb hG h2 ⟨by omega, by omega⟩ dX6_record_31 ?_
          refine z_iast (j := i) hx hb hG h2 ⟨by omega, by omega⟩ hS (⟨2, by decide, rfl⟩) dX6_record_32 (fun Hn locs h_46 o_47 hS => ?_)
          have k_48 := va_at.kept h0 (o_47.2 _ (hinj.ne (by decide) (by decide) (by decide)))
          have k_49 := va_at.kept h1 (o_47.2 _ (hinj.ne (by decide) (by decide) (by decide)))
          have k_50 := va_at.kept h3 (o_47.2 _ (hinj.ne (by decide) (by decide) (by decide)))
          have k_51 := va_at.kept h4 (o_47.2 _ (hinj.ne (by decide) (by decide) (by decide)))
          have k_52 := va_at.kept h5 (o_47.2 _ (hinj.ne (by decide) (by decide) (by decide)))
          have k_53 := va_at.kept h6 (o_47.2 _ (hinj.ne (by decide) (by decide) (by decide)))
          have hz : Hn.size = H.size := o_47.1.trans hz
          refine lv_iinc (v := nI (i + 1)) (lv' := [(1, .int (nI (i + 1))), (0, .ref (am 0))]) hx hb dX6_record_33 hl (k := 1) rfl (z_inc1 _) (by decide) rfl (fun ls hl => ?_)
          refine lv_goto (tgt := 10) hx hb dX6_record_36 (by decide) ?_
          have hl9 := lv_sub hl [1, 0] (l' := [(0, .ref (am 0)), (1, .int (nI (i + 1)))]) rfl
          have e9_1 : (i + 1) = ((i + 1)) := by omega
          exact ih10 (i + 1) (by omega) (by omega) _ _ hS hz (by rw [← zsh_s]; exact ⟨k_48, k_49, h_46, k_50, k_51, k_52, k_53⟩) ls (by rw [← e9_1]; exact hl9)
    exact L10 ((1200 - (0)) + 1) (0) (Nat.lt_succ_self _) (by decide) _ _ hS hz (by rw [zsh_0]; exact ⟨h0, h1, h2, h3, h4, h5, h6⟩) ls (lv_sub hl [1, 0] rfl)

set_option maxHeartbeats 4000000 in
set_option maxRecDepth 100000 in
theorem c_X6_lies (E : zEnv) {am : Nat → Nat} {z past kept buf rg td : Nat → Int32} {an : Bool} {ct ln tm nb : Nat} {i n : Nat} (hinj : zInM am) (hi6 : i < 6) (hn : n ≤ 16) : zWR E yX6_lies wsX6_lies 0 0 [.ref (am 0), .int (nI (i)), .int (nI (n))] (fun H => zMX E am z past ct kept an buf ln rg td tm nb H) (none) (fun H => zMX E am (zlz z i n 16) past ct kept an buf ln rg td tm nb H) (zAM am) := by
  refine zWR.ofV (maxL := 4) rfl (Nat.le_of_ble_eq_true rfl) (fun p e s m args below meth c H Q hF hP hret ls hl => ?_)
  have S : CallFix p m c cX6_lies 4 s args wsX6_lies RX6 := hF.1
  have hG := hF.2
  obtain ⟨hx, hb, hml, hown, hts⟩ := id S
  have hS : va_S (zAM am) H H [] := va_S.rf
  obtain ⟨locs, hlocs⟩ : ∃ x : List Loc, x = [] := ⟨_, rfl⟩
  rw [← hlocs] at hS ⊢
  have hz : H.size = H.size := rfl
  obtain ⟨h0, h1, h2, h3, h4, h5, h6⟩ := hP
  have hl : lv_has ls 4 [(0, .ref (am 0)), (1, .int (nI (i))), (2, .int (nI (n)))] := hl
  have hin6 : ∀ w ∈ u_ws RX6 TX6 11, w ∈ wsX6_lies := by decide +kernel
  refine lv_aload_n hx hb dX6_lies_0 rfl (lv_at hl 0 rfl) ?_
  refine z_get (ref := RX6) (C := RX6) (T := TX6) (N := 11) hx hb hts hin6 hown hG h0 rfl 0 (by decide) (by decide +kernel) rfl rfl dX6_lies_1 ?_
  refine lv_bipush (v := nI (10)) hx hb dX6_lies_4 (by decide) ?_
  refine lv_bipush (v := nI (17)) hx hb dX6_lies_6 (by decide) ?_
  refine lv_iload_n hx hb dX6_lies_8 rfl (lv_at hl 1 rfl) ?_
  refine z_imul hx hb dX6_lies_9 ?_
  refine z_iadd hx hb dX6_lies_10 ?_
  refine lv_iload_n hx hb dX6_lies_11 rfl (lv_at hl 2 rfl) ?_
  refine z_iast (j := 10 + (17 * i)) hx hb hG h1 ⟨by omega, by omega⟩ hS (⟨1, by decide, rfl⟩) dX6_lies_12 (fun Hn locs h_1 o_2 hS => ?_)
  have k_3 := va_at.kept h0 (o_2.2 _ (hinj.ne (by decide) (by decide) (by decide)))
  have k_4 := va_at.kept h2 (o_2.2 _ (hinj.ne (by decide) (by decide) (by decide)))
  have k_5 := va_at.kept h3 (o_2.2 _ (hinj.ne (by decide) (by decide) (by decide)))
  have k_6 := va_at.kept h4 (o_2.2 _ (hinj.ne (by decide) (by decide) (by decide)))
  have k_7 := va_at.kept h5 (o_2.2 _ (hinj.ne (by decide) (by decide) (by decide)))
  have k_8 := va_at.kept h6 (o_2.2 _ (hinj.ne (by decide) (by decide) (by decide)))
  have hz : Hn.size = H.size := o_2.1.trans hz
  refine lv_iconst (v := nI (0)) hx hb dX6_lies_13 (by decide) ?_
  refine lv_istore_n (lv' := [(3, .int (nI (0))), (0, .ref (am 0)), (1, .int (nI (i))), (2, .int (nI (n)))]) hx hb dX6_lies_14 rfl hl (by decide) rfl (fun ls hl => ?_)
  have L15 : ∀ (dd : Nat) (j : Nat), 16 - j < dd → (j ≤ 16) → ∀ (Hn : Heap) (locs : List Loc) (hS : va_S (zAM am) H Hn locs) (hz : Hn.size = H.size) (hX : zMX E am (zlz z i n j) past ct kept an buf ln rg td tm nb Hn) (ls : Array Slot), lv_has ls 4 [(0, .ref (am 0)), (1, .int (nI (i))), (2, .int (nI (n))), (3, .int (nI (j)))] → W p (zl E) e (zRm 0 0) s m args below meth c Hn locs 0 0 Q (F0 m 15 ls []) := by
    intro dd
    induction dd with
    | zero => intro j hdd; exact absurd hdd (Nat.not_lt_zero _)
    | succ dd ih15 =>
      intro j hdd15 hj Hn locs hS hz hX ls hl
      obtain ⟨h0, h1, h2, h3, h4, h5, h6⟩ := hX
      refine lv_iload_n hx hb dX6_lies_15 rfl (lv_at hl 3 rfl) ?_
      refine lv_bipush (v := nI (16)) hx hb dX6_lies_16 (by decide) ?_
      refine z_cge (tgt := 44) hx hb dX6_lies_18 (by decide) ⟨by omega, by omega⟩ (fun c_9 => ?_) (fun c_9 => ?_)
      · obtain rfl : j = 16 := by omega
        exact hret _ _ _ _ hS (hz) dX6_lies_44 (⟨h0, h1, h2, h3, h4, h5, h6⟩)
      · refine lv_aload_n hx hb dX6_lies_21 rfl (lv_at hl 0 rfl) ?_
        refine z_get (ref := RX6) (C := RX6) (T := TX6) (N := 11) hx hb hts hin6 hown hG h0 rfl 0 (by decide) (by decide +kernel) rfl rfl dX6_lies_22 ?_
        refine lv_bipush (v := nI (10)) hx hb dX6_lies_25 (by decide) ?_
        refine lv_bipush (v := nI (17)) hx hb dX6_lies_27 (by decide) ?_
        refine lv_iload_n hx hb dX6_lies_29 rfl (lv_at hl 1 rfl) ?_
        refine z_imul hx hb dX6_lies_30 ?_
        refine z_iadd hx hb dX6_lies_31 ?_
        refine lv_iconst (v := nI (1)) hx hb dX6_lies_32 (by decide) ?_
        refine z_iadd hx hb dX6_lies_33 ?_
        refine lv_iload_n hx hb dX6_lies_34 rfl (lv_at hl 3 rfl) ?_
        refine z_iadd hx hb dX6_lies_35 ?_
        refine lv_iconst (v := nI (0)) hx hb dX6_lies_36 (by decide) ?_
        refine z_iast (j := ((10 + (17 * i)) + 1) + j) hx hb hG h1 ⟨by omega, by omega⟩ hS (⟨1, by decide, rfl⟩) dX6_lies_37 (fun Hn locs h_10 o_11 hS => ?_)
        have k_12 := va_at.kept h0 (o_11.2 _ (hinj.ne (by decide) (by decide) (by decide)))
        have k_13 := va_at.kept h2 (o_11.2 _ (hinj.ne (by decide) (by decide) (by decide)))
        have k_14 := va_at.kept h3 (o_11.2 _ (hinj.ne (by decide) (by decide) (by decide)))
        have k_15 := va_at.kept h4 (o_11.2 _ (hinj.ne (by decide) (by decide) (by decide)))
        have k_16 := va_at.kept h5 (o_11.2 _ (hinj.ne (by decide) (by decide) (by decide)))
        have k_17 := va_at.kept h6 (o_11.2 _ (hinj.ne (by decide) (by decide) (by decide)))
        have hz : Hn.size = H.size := o_11.1.trans hz
        refine lv_iinc (v := nI (j + 1)) (lv' := [(3, .int (nI (j + 1))), (0, .ref (am 0)), (1, .int (nI (i))), (2, .int (nI (n)))]) hx hb dX6_lies_38 hl (k := 3) rfl (z_inc1 _) (by decide) rfl (fun ls hl => ?_)
        refine lv_goto (tgt := 15) hx hb dX6_lies_41 (by decide) ?_
        have hl9 := lv_sub hl [1, 2, 3, 0] (l' := [(0, .ref (am 0)), (1, .int (nI (i))), (2, .int (nI (n))), (3, .int (nI (j + 1)))]) rfl
        have e9_3 : (j + 1) = ((j + 1)) := by omega
        exact ih15 (j + 1) (by omega) (by omega) _ _ hS hz (by rw [← zlz_s]; exact ⟨k_12, h_10, k_13, k_14, k_15, k_16, k_17⟩) ls (by rw [← e9_3]; exact hl9)
  exact L15 ((16 - (0)) + 1) (0) (Nat.lt_succ_self _) (by decide) _ _ hS hz (by rw [← zlz_0]; exact ⟨k_3, h_1, k_4, k_5, k_6, k_7, k_8⟩) ls (lv_sub hl [1, 2, 3, 0] rfl)

set_option maxHeartbeats 4000000 in
set_option maxRecDepth 100000 in
theorem c_X6_exchange (E : zEnv) {am : Nat → Nat} {z past kept buf rg td : Nat → Int32} {an : Bool} {ct ln tm nb : Nat} {i n x y : Nat} (hinj : zInM am) (hi6 : i < 6) (hsz : z (10 + 17 * i) = nI n) (hxn : x < n ∧ n ≤ 16) (hyn : y < n ∧ n ≤ 16) : zWR E yX6_exchange wsX6_exchange 2 43 [.ref (am 0), .int (nI (i)), .int (nI (x)), .int (nI (y))] (fun H => zMX E am z past ct kept an buf ln rg td tm nb H) (none) (fun H => zMX E am (upd (upd z (10 + 17 * i + 1 + x) (z (10 + 17 * i + 1 + y))) (10 + 17 * i + 1 + y) (z (10 + 17 * i + 1 + x))) past ct kept an buf ln rg td tm nb H) (zAM am) := by
  refine zWR.ofV (maxL := 5) rfl (Nat.le_of_ble_eq_true rfl) (fun p e s m args below meth c H Q hF hP hret ls hl => ?_)
  have S : CallFix p m c cX6_exchange 5 s args wsX6_exchange RX6 := hF.1
  have hG := hF.2
  obtain ⟨hx, hb, hml, hown, hts⟩ := id S
  have hS : va_S (zAM am) H H [] := va_S.rf
  obtain ⟨locs, hlocs⟩ : ∃ x : List Loc, x = [] := ⟨_, rfl⟩
  rw [← hlocs] at hS ⊢
  have hz : H.size = H.size := rfl
  obtain ⟨h0, h1, h2, h3, h4, h5, h6⟩ := hP
  have hl : lv_has ls 5 [(0, .ref (am 0)), (1, .int (nI (i))), (2, .int (nI (x))), (3, .int (nI (y)))] := hl
  have hin6 : ∀ w ∈ u_ws RX6 TX6 11, w ∈ wsX6_exchange := by decide +kernel
  refine lv_aload_n hx hb dX6_exchange_0 rfl (lv_at hl 0 rfl) ?_
  refine z_get (ref := RX6) (C := RX6) (T := TX6) (N := 11) hx hb hts hin6 hown hG h0 rfl 0 (by decide) (by decide +kernel) rfl rfl dX6_exchange_1 ?_
  refine lv_aload_n hx hb dX6_exchange_4 rfl (lv_at hl 0 rfl) ?_
  refine lv_iload_n hx hb dX6_exchange_5 rfl (lv_at hl 1 rfl) ?_
  refine lv_iload_n hx hb dX6_exchange_6 rfl (lv_at hl 2 rfl) ?_
  refine z_roV (As := [.int (nI (i)), .int (nI (x))]) (rest := [.ref (am 1)]) (q := (RX6, TX6, 11)) S hG (c_X6_at E (z := z) (i := i) (n := n) (j := x) hi6 (hsz) (hxn)) 2 gX6_exchange_X6_at rfl kX6_at ⟨Nat.le_of_ble_eq_true rfl, Nat.le_of_ble_eq_true rfl⟩ ⟨Nat.zero_le _, Nat.zero_le _⟩ (⟨h0, h1⟩) rfl h0 rfl hl.1 rfl rfl (Nat.le_of_ble_eq_true rfl) dX6_exchange_7 ?_
  refine z_iald (j := 10 + 17 * i + 1 + x) hx hb hG h1 ⟨by omega, by omega⟩ dX6_exchange_10 ?_
  refine lv_istore (lv' := [(4, .int (z (10 + 17 * i + 1 + x))), (0, .ref (am 0)), (1, .int (nI (i))), (2, .int (nI (x))), (3, .int (nI (y)))]) hx hb dX6_exchange_11 hl (by decide) rfl (fun ls hl => ?_)
  refine lv_aload_n hx hb dX6_exchange_13 rfl (lv_at hl 1 rfl) ?_
  refine z_get (ref := RX6) (C := RX6) (T := TX6) (N := 11) hx hb hts hin6 hown hG h0 rfl 0 (by decide) (by decide +kernel) rfl rfl dX6_exchange_14 ?_
  refine lv_aload_n hx hb dX6_exchange_17 rfl (lv_at hl 1 rfl) ?_
  refine lv_iload_n hx hb dX6_exchange_18 rfl (lv_at hl 2 rfl) ?_
  refine lv_iload_n hx hb dX6_exchange_19 rfl (lv_at hl 3 rfl) ?_
  refine z_roV (As := [.int (nI (i)), .int (nI (x))]) (rest := [.ref (am 1)]) (q := (RX6, TX6, 11)) S hG (c_X6_at E (z := z) (i := i) (n := n) (j := x) hi6 (hsz) (hxn)) 2 gX6_exchange_X6_at rfl kX6_at ⟨Nat.le_of_ble_eq_true rfl, Nat.le_of_ble_eq_true rfl⟩ ⟨Nat.zero_le _, Nat.zero_le _⟩ (⟨h0, h1⟩) rfl h0 rfl hl.1 rfl rfl (Nat.le_of_ble_eq_true rfl) dX6_exchange_20 ?_
  refine lv_aload_n hx hb dX6_exchange_23 rfl (lv_at hl 1 rfl) ?_
  refine z_get (ref := RX6) (C := RX6) (T := TX6) (N := 11) hx hb hts hin6 hown hG h0 rfl 0 (by decide) (by decide +kernel) rfl rfl dX6_exchange_24 ?_
  refine lv_aload_n hx hb dX6_exchange_27 rfl (lv_at hl 1 rfl) ?_
  refine lv_iload_n hx hb dX6_exchange_28 rfl (lv_at hl 2 rfl) ?_
  refine lv_iload_n hx hb dX6_exchange_29 rfl (lv_at hl 4 rfl) ?_
  refine z_roV (As := [.int (nI (i)), .int (nI (y))]) (rest := [.ref (am 1), .int (nI (10 + 17 * i + 1 + x)), .ref (am 1)]) (q := (RX6, TX6, 11)) S hG (c_X6_at E (z := z) (i := i) (n := n) (j := y) hi6 (hsz) (hyn)) 2 gX6_exchange_X6_at rfl kX6_at ⟨Nat.le_of_ble_eq_true rfl, Nat.le_of_ble_eq_true rfl⟩ ⟨Nat.zero_le _, Nat.zero_le _⟩ (⟨h0, h1⟩) rfl h0 rfl hl.1 rfl rfl (Nat.le_of_ble_eq_true rfl) dX6_exchange_30 ?_
  refine z_iald (j := 10 + 17 * i + 1 + y) hx hb hG h1 ⟨by omega, by omega⟩ dX6_exchange_33 ?_
  refine z_iast (j := 10 + 17 * i + 1 + x) hx hb hG h1 ⟨by omega, by omega⟩ hS (⟨1, by decide, rfl⟩) dX6_exchange_34 (fun Hn locs h_1 o_2 hS => ?_)
  have k_3 := va_at.kept h0 (o_2.2 _ (hinj.ne (by decide) (by decide) (by decide)))
  have k_4 := va_at.kept h2 (o_2.2 _ (hinj.ne (by decide) (by decide) (by decide)))
  have k_5 := va_at.kept h3 (o_2.2 _ (hinj.ne (by decide) (by decide) (by decide)))
  have k_6 := va_at.kept h4 (o_2.2 _ (hinj.ne (by decide) (by decide) (by decide)))
  have k_7 := va_at.kept h5 (o_2.2 _ (hinj.ne (by decide) (by decide) (by decide)))
  have k_8 := va_at.kept h6 (o_2.2 _ (hinj.ne (by decide) (by decide) (by decide)))
  have hz : Hn.size = H.size := o_2.1.trans hz
  refine lv_aload_n hx hb dX6_exchange_35 rfl (lv_at hl 1 rfl) ?_
  refine z_get (ref := RX6) (C := RX6) (T := TX6) (N := 11) hx hb hts hin6 hown hG k_3 rfl 0 (by decide) (by decide +kernel) rfl rfl dX6_exchange_36 ?_
  refine lv_aload_n hx hb dX6_exchange_39 rfl (lv_at hl 1 rfl) ?_
  refine lv_iload_n hx hb dX6_exchange_40 rfl (lv_at hl 2 rfl) ?_
  refine lv_iload_n hx hb dX6_exchange_41 rfl (lv_at hl 4 rfl) ?_
  refine z_roV (As := [.int (nI (i)), .int (nI (y))]) (rest := [.ref (am 1)]) (q := (RX6, TX6, 11)) S hG (c_X6_at E (z := (upd z (10 + 17 * i + 1 + x) (z (10 + 17 * i + 1 + y)))) (i := i) (n := n) (j := y) hi6 (by unfold upd; rw [if_neg (by omega)]; exact hsz) (hyn)) 2 gX6_exchange_X6_at rfl kX6_at ⟨Nat.le_of_ble_eq_true rfl, Nat.le_of_ble_eq_true rfl⟩ ⟨Nat.zero_le _, Nat.zero_le _⟩ (⟨k_3, h_1⟩) rfl k_3 rfl hl.1 rfl rfl (Nat.le_of_ble_eq_true rfl) dX6_exchange_42 ?_
  refine lv_iload hx hb dX6_exchange_45 (lv_at hl 0 rfl) ?_
  refine z_iast (j := 10 + 17 * i + 1 + y) hx hb hG h_1 ⟨by omega, by omega⟩ hS (⟨1, by decide, rfl⟩) dX6_exchange_47 (fun Hn locs h_9 o_10 hS => ?_)
  have k_11 := va_at.kept k_3 (o_10.2 _ (hinj.ne (by decide) (by decide) (by decide)))
  have k_12 := va_at.kept k_4 (o_10.2 _ (hinj.ne (by decide) (by decide) (by decide)))
  have k_13 := va_at.kept k_5 (o_10.2 _ (hinj.ne (by decide) (by decide) (by decide)))
  have k_14 := va_at.kept k_6 (o_10.2 _ (hinj.ne (by decide) (by decide) (by decide)))
  have k_15 := va_at.kept k_7 (o_10.2 _ (hinj.ne (by decide) (by decide) (by decide)))
  have k_16 := va_at.kept k_8 (o_10.2 _ (hinj.ne (by decide) (by decide) (by decide)))
  have hz : Hn.size = H.size := o_10.1.trans hz
  exact hret _ _ _ _ hS (hz) dX6_exchange_48 (⟨k_11, h_9, k_12, k_13, k_14, k_15, k_16⟩)

set_option maxHeartbeats 4000000 in
set_option maxRecDepth 100000 in
theorem c_X6_move (E : zEnv) {am : Nat → Nat} {z past kept buf rg td : Nat → Int32} {an : Bool} {ct ln tm nb : Nat} {i n : Nat} {f : Nat → Int32} {d9 : Int32} (hinj : zInM am) (hi6 : i < 6) (hn : n ≤ 16) (hr : zmr z i n f) (hk : ∀ s, s < n → zk (f s)) : zWR E yX6_move wsX6_move 2 43 [.ref (am 0), .int (nI (i)), .int (d9)] (fun H => zMX E am z past ct kept an buf ln rg td tm nb H) (none) (fun H => zMX E am (zmv z f d9 n) past ct kept an buf ln rg td tm nb H) (zAM am) := by
  refine zWR.ofV (maxL := 4) rfl (Nat.le_of_ble_eq_true rfl) (fun p e s m args below meth c H Q hF hP hret ls hl => ?_)
  have S : CallFix p m c cX6_move 4 s args wsX6_move RX6 := hF.1
  have hG := hF.2
  obtain ⟨hx, hb, hml, hown, hts⟩ := id S
  have hS : va_S (zAM am) H H [] := va_S.rf
  obtain ⟨locs, hlocs⟩ : ∃ x : List Loc, x = [] := ⟨_, rfl⟩
  rw [← hlocs] at hS ⊢
  have hz : H.size = H.size := rfl
  obtain ⟨h0, h1, h2, h3, h4, h5, h6⟩ := hP
  have hl : lv_has ls 4 [(0, .ref (am 0)), (1, .int (nI (i))), (2, .int (d9))] := hl
  have hin6 : ∀ w ∈ u_ws RX6 TX6 11, w ∈ wsX6_move := by decide +kernel
  refine lv_iconst (v := nI (0)) hx hb dX6_move_0 (by decide) ?_
  refine lv_istore_n (lv' := [(3, .int (nI (0))), (0, .ref (am 0)), (1, .int (nI (i))), (2, .int (d9))]) hx hb dX6_move_1 rfl hl (by decide) rfl (fun ls hl => ?_)
  have L2 : ∀ (dd : Nat) (s9 : Nat), n - s9 < dd → (s9 ≤ n) → ∀ (Hn : Heap) (locs : List Loc) (hS : va_S (zAM am) H Hn locs) (hz : Hn.size = H.size) (hX : zMX E am (zmv z f d9 s9) past ct kept an buf ln rg td tm nb Hn) (ls : Array Slot), lv_has ls 4 [(0, .ref (am 0)), (1, .int (nI (i))), (2, .int (d9)), (3, .int (nI (s9)))] → W p (zl E) e (zRm 2 43) s m args below meth c Hn locs 0 0 Q (F0 m 2 ls []) := by
    intro dd
    induction dd with
    | zero => intro s9 hdd; exact absurd hdd (Nat.not_lt_zero _)
    | succ dd ih2 =>
      intro s9 hdd2 hs9 Hn locs hS hz hX ls hl
      obtain ⟨h0, h1, h2, h3, h4, h5, h6⟩ := hX
      refine lv_iload_n hx hb dX6_move_2 rfl (lv_at hl 3 rfl) ?_
      refine lv_aload_n hx hb dX6_move_3 rfl (lv_at hl 0 rfl) ?_
      refine lv_iload_n hx hb dX6_move_4 rfl (lv_at hl 1 rfl) ?_
      refine z_roV (As := [.int (nI (i))]) (rest := [.int (nI (s9))]) (q := (RX6, TX6, 11)) S hG (c_X6_slots E (z := (zmv z f d9 s9)) (i := i) (n := n) hi6 (by rw [zmv_o (fun t ht => hk t (by omega)) (by omega)]; exact hr.1)) 1 gX6_move_X6_slots rfl kX6_slots ⟨Nat.le_of_ble_eq_true rfl, Nat.le_of_ble_eq_true rfl⟩ ⟨Nat.zero_le _, Nat.zero_le _⟩ (⟨h0, h1⟩) rfl h0 rfl hl.1 rfl rfl (Nat.le_of_ble_eq_true rfl) dX6_move_5 ?_
      refine z_cge (tgt := 55) hx hb dX6_move_8 (by decide) ⟨by omega, by omega⟩ (fun c_1 => ?_) (fun c_1 => ?_)
      · obtain rfl : n = s9 := by omega
        exact hret _ _ _ _ hS (hz) dX6_move_55 (⟨h0, h1, h2, h3, h4, h5, h6⟩)
      · refine lv_aload_n hx hb dX6_move_11 rfl (lv_at hl 0 rfl) ?_
        refine z_get (ref := RX6) (C := RX6) (T := TX6) (N := 11) hx hb hts hin6 hown hG h0 rfl 0 (by decide) (by decide +kernel) rfl rfl dX6_move_12 ?_
        refine lv_aload_n hx hb dX6_move_15 rfl (lv_at hl 0 rfl) ?_
        refine lv_iload_n hx hb dX6_move_16 rfl (lv_at hl 1 rfl) ?_
        refine lv_iload_n hx hb dX6_move_17 rfl (lv_at hl 3 rfl) ?_
        refine z_roV (As := [.int (nI (i)), .int (nI (s9))]) (rest := [.ref (am 1)]) (q := (RX6, TX6, 11)) S hG (c_X6_at E (z := (zmv z f d9 s9)) (i := i) (n := n) (j := s9) hi6 (by rw [zmv_o (fun t ht => hk t (by omega)) (by omega)]; exact hr.1) (⟨by omega, hn⟩)) 2 gX6_move_X6_at rfl kX6_at ⟨Nat.le_of_ble_eq_true rfl, Nat.le_of_ble_eq_true rfl⟩ ⟨Nat.zero_le _, Nat.zero_le _⟩ (⟨h0, h1⟩) rfl h0 rfl hl.1 rfl rfl (Nat.le_of_ble_eq_true rfl) dX6_move_18 ?_
        obtain ⟨kk, hk5, hke⟩ := hk s9 (by omega)
        refine z_iald (j := 10 + 17 * i + 1 + s9) hx hb hG h1 ⟨by omega, by omega⟩ dX6_move_21 ?_
        refine z_top (y := nI (kk)) (by rw [zmv_o (fun t ht => hk t (by omega)) (by omega), hr.2 s9 (by omega)]; exact hke) ?_
        refine z_fle (tgt := 49) hx hb dX6_move_22 (by decide) (by omega) (fun c_2 => ?_) (fun c_2 => ?_)
        · refine lv_iinc (v := nI (s9 + 1)) (lv' := [(3, .int (nI (s9 + 1))), (0, .ref (am 0)), (1, .int (nI (i))), (2, .int (d9))]) hx hb dX6_move_49 hl (k := 3) rfl (z_inc1 _) (by decide) rfl (fun ls hl => ?_)
          refine lv_goto (tgt := 2) hx hb dX6_move_52 (by decide) ?_
          have hl9 := lv_sub hl [1, 2, 3, 0] (l' := [(0, .ref (am 0)), (1, .int (nI (i))), (2, .int (d9)), (3, .int (nI (s9 + 1)))]) rfl
          have e9_3 : (s9 + 1) = ((s9 + 1)) := by omega
          exact ih2 (s9 + 1) (by omega) (by omega) _ _ hS hz (by rw [← zmv_f hke (by omega)]; exact ⟨h0, h1, h2, h3, h4, h5, h6⟩) ls (by rw [← e9_3]; exact hl9)
        · refine lv_aload_n hx hb dX6_move_25 rfl (lv_at hl 0 rfl) ?_
          refine z_get (ref := RX6) (C := RX6) (T := TX6) (N := 11) hx hb hts hin6 hown hG h0 rfl 0 (by decide) (by decide +kernel) rfl rfl dX6_move_26 ?_
          refine lv_iconst (v := nI (0)) hx hb dX6_move_29 (by decide) ?_
          refine lv_aload_n hx hb dX6_move_30 rfl (lv_at hl 0 rfl) ?_
          refine z_get (ref := RX6) (C := RX6) (T := TX6) (N := 11) hx hb hts hin6 hown hG h0 rfl 0 (by decide) (by decide +kernel) rfl rfl dX6_move_31 ?_
          refine lv_aload_n hx hb dX6_move_34 rfl (lv_at hl 0 rfl) ?_
          refine lv_iload_n hx hb dX6_move_35 rfl (lv_at hl 1 rfl) ?_
          refine lv_iload_n hx hb dX6_move_36 rfl (lv_at hl 3 rfl) ?_
          refine z_roV (As := [.int (nI (i)), .int (nI (s9))]) (rest := [.ref (am 1), .int (nI (0)), .ref (am 1)]) (q := (RX6, TX6, 11)) S hG (c_X6_at E (z := (zmv z f d9 s9)) (i := i) (n := n) (j := s9) hi6 (by rw [zmv_o (fun t ht => hk t (by omega)) (by omega)]; exact hr.1) (⟨by omega, hn⟩)) 2 gX6_move_X6_at rfl kX6_at ⟨Nat.le_of_ble_eq_true rfl, Nat.le_of_ble_eq_true rfl⟩ ⟨Nat.zero_le _, Nat.zero_le _⟩ (⟨h0, h1⟩) rfl h0 rfl hl.1 rfl rfl (Nat.le_of_ble_eq_true rfl) dX6_move_37 ?_
          refine z_iald (j := 10 + 17 * i + 1 + s9) hx hb hG h1 ⟨by omega, by omega⟩ dX6_move_40 ?_
          refine z_top (y := nI (kk)) (by rw [zmv_o (fun t ht => hk t (by omega)) (by omega), hr.2 s9 (by omega)]; exact hke) ?_
          refine z_iadd hx hb dX6_move_41 ?_
          refine lv_iconst (v := nI (1)) hx hb dX6_move_42 (by decide) ?_
          refine z_isub hx hb dX6_move_43 (by omega) ?_
          refine lv_dup2_11 hx hb dX6_move_44 rfl rfl ?_
          refine z_iald (j := (0 + kk) - 1) hx hb hG h1 ⟨by omega, by omega⟩ dX6_move_45 ?_
          refine lv_iload_n hx hb dX6_move_46 rfl (lv_at hl 2 rfl) ?_
          refine lv_iadd hx hb dX6_move_47 ?_
          refine z_iast (j := (0 + kk) - 1) hx hb hG h1 ⟨by omega, by omega⟩ hS (⟨1, by decide, rfl⟩) dX6_move_48 (fun Hn locs h_3 o_4 hS => ?_)
          have k_5 := va_at.kept h0 (o_4.2 _ (hinj.ne (by decide) (by decide) (by decide)))
          have k_6 := va_at.kept h2 (o_4.2 _ (hinj.ne (by decide) (by decide) (by decide)))
          have k_7 := va_at.kept h3 (o_4.2 _ (hinj.ne (by decide) (by decide) (by decide)))
          have k_8 := va_at.kept h4 (o_4.2 _ (hinj.ne (by decide) (by decide) (by decide)))
          have k_9 := va_at.kept h5 (o_4.2 _ (hinj.ne (by decide) (by decide) (by decide)))
          have k_10 := va_at.kept h6 (o_4.2 _ (hinj.ne (by decide) (by decide) (by decide)))
          have hz : Hn.size = H.size := o_4.1.trans hz
          refine lv_iinc (v := nI (s9 + 1)) (lv' := [(3, .int (nI (s9 + 1))), (0, .ref (am 0)), (1, .int (nI (i))), (2, .int (d9))]) hx hb dX6_move_49 hl (k := 3) rfl (z_inc1 _) (by decide) rfl (fun ls hl => ?_)
          refine lv_goto (tgt := 2) hx hb dX6_move_52 (by decide) ?_
          have hl9 := lv_sub hl [1, 2, 3, 0] (l' := [(0, .ref (am 0)), (1, .int (nI (i))), (2, .int (d9)), (3, .int (nI (s9 + 1)))]) rfl
          have e9_3 : (s9 + 1) = ((s9 + 1)) := by omega
          exact ih2 (s9 + 1) (by omega) (by omega) _ _ hS hz (by rw [← zmv_t hke (by omega) hk5]; exact ⟨k_5, h_3, k_6, k_7, k_8, k_9, k_10⟩) ls (by rw [← e9_3]; exact hl9)
  exact L2 ((n - (0)) + 1) (0) (Nat.lt_succ_self _) (Nat.zero_le _) _ _ hS hz (⟨h0, h1, h2, h3, h4, h5, h6⟩) ls (lv_sub hl [1, 2, 3, 0] rfl)

set_option maxHeartbeats 4000000 in
set_option maxRecDepth 100000 in
theorem c_X6_becomes (E : zEnv) {am : Nat → Nat} {z past kept buf rg td : Nat → Int32} {an : Bool} {ct ln tm nb : Nat} {i n ch : Nat} {f : Nat → Int32} (hinj : zInM am) (hi6 : i < 6) (hn : 0 < n ∧ n ≤ 16) (hr : zmr z i n f) (hm4 : n % 4 = 0) (hch : ch < znc 2 n) : zWR E yX6_becomes wsX6_becomes 3 70 [.ref (am 0), .int (nI (i)), .int (nI (ch))] (fun H => zMX E am z past ct kept an buf ln rg td tm nb H) (some (.int (nI (zdf n f ch f)))) (fun H => ∃ rg : Nat → Int32, zMX E am (zwr z i (zimg n f ch) n) past ct kept an buf ln rg td tm nb H) (zAM am) := by
  refine zWR.ofI (maxL := 6) rfl (Nat.le_of_ble_eq_true rfl) (fun p e s m args below meth c H Q hF hP hret ls hl => ?_)
  have S : CallFix p m c cX6_becomes 6 s args wsX6_becomes RX6 := hF.1
  have hG := hF.2
  obtain ⟨hx, hb, hml, hown, hts⟩ := id S
  have hS : va_S (zAM am) H H [] := va_S.rf
  obtain ⟨locs, hlocs⟩ : ∃ x : List Loc, x = [] := ⟨_, rfl⟩
  rw [← hlocs] at hS ⊢
  have hz : H.size = H.size := rfl
  obtain ⟨h0, h1, h2, h3, h4, h5, h6⟩ := hP
  have hl : lv_has ls 6 [(0, .ref (am 0)), (1, .int (nI (i))), (2, .int (nI (ch)))] := hl
  have hin6 : ∀ w ∈ u_ws RX6 TX6 11, w ∈ wsX6_becomes := by decide +kernel
  refine lv_aload_n hx hb dX6_becomes_0 rfl (lv_at hl 0 rfl) ?_
  refine lv_iload_n hx hb dX6_becomes_1 rfl (lv_at hl 1 rfl) ?_
  refine z_roV (As := [.int (nI (i))]) (rest := []) (q := (RX6, TX6, 11)) S hG (c_X6_slots E (z := z) (i := i) (n := n) hi6 (hr.1)) 1 gX6_becomes_X6_slots rfl kX6_slots ⟨Nat.le_of_ble_eq_true rfl, Nat.le_of_ble_eq_true rfl⟩ ⟨Nat.zero_le _, Nat.zero_le _⟩ (⟨h0, h1⟩) rfl h0 rfl hl.1 rfl rfl (Nat.le_of_ble_eq_true rfl) dX6_becomes_2 ?_
  refine lv_istore_n (lv' := [(3, .int (nI (n))), (0, .ref (am 0)), (1, .int (nI (i))), (2, .int (nI (ch)))]) hx hb dX6_becomes_5 rfl hl (by decide) rfl (fun ls hl => ?_)
  refine lv_iconst (v := nI (0)) hx hb dX6_becomes_6 (by decide) ?_
  refine lv_istore (lv' := [(4, .int (nI (0))), (3, .int (nI (n))), (0, .ref (am 0)), (1, .int (nI (i))), (2, .int (nI (ch)))]) hx hb dX6_becomes_7 hl (by decide) rfl (fun ls hl => ?_)
  refine lv_iconst (v := nI (0)) hx hb dX6_becomes_9 (by decide) ?_
  refine lv_istore (lv' := [(5, .int (nI (0))), (4, .int (nI (0))), (3, .int (nI (n))), (0, .ref (am 0)), (1, .int (nI (i))), (2, .int (nI (ch)))]) hx hb dX6_becomes_10 hl (by decide) rfl (fun ls hl => ?_)
  have L12 : ∀ (dd : Nat) (j : Nat), n - j < dd → (j ≤ n) → ∀ (Hn : Heap) (locs : List Loc) (hS : va_S (zAM am) H Hn locs) (hz : Hn.size = H.size) (hX : zMX E am z past ct kept an buf ln (zpm (zimg n f ch) rg j) td tm nb Hn) (ls : Array Slot), lv_has ls 6 [(0, .ref (am 0)), (1, .int (nI (i))), (2, .int (nI (ch))), (3, .int (nI (n))), (4, .int (nI (zct (fun s9 => decide (zimg n f ch s9 ≠ f s9)) j))), (5, .int (nI (j)))] → W p (zl E) e (zRm 3 70) s m args below meth c Hn locs 0 0 Q (F0 m 12 ls []) := by
    intro dd
    induction dd with
    | zero => intro j hdd; exact absurd hdd (Nat.not_lt_zero _)
    | succ dd ih12 =>
      intro j hdd12 hj Hn locs hS hz hX ls hl
      obtain ⟨h0, h1, h2, h3, h4, h5, h6⟩ := hX
      refine lv_iload hx hb dX6_becomes_12 (lv_at hl 5 rfl) ?_
      refine lv_iload_n hx hb dX6_becomes_14 rfl (lv_at hl 3 rfl) ?_
      refine z_cge (tgt := 72) hx hb dX6_becomes_15 (by decide) ⟨by omega, by omega⟩ (fun c_1 => ?_) (fun c_1 => ?_)
      · have e9 : n = j := by omega
        · subst e9
          refine lv_iconst (v := nI (0)) hx hb dX6_becomes_72 (by decide) ?_
          refine lv_istore (lv' := [(5, .int (nI (0))), (0, .ref (am 0)), (1, .int (nI (i))), (2, .int (nI (ch))), (3, .int (nI (n))), (4, .int (nI (zct (fun s9 => decide (zimg n f ch s9 ≠ f s9)) n)))]) hx hb dX6_becomes_73 hl (by decide) rfl (fun ls hl => ?_)
          have L75 : ∀ (dd : Nat) (j : Nat), n - j < dd → (j ≤ n) → ∀ (Hn : Heap) (locs : List Loc) (hS : va_S (zAM am) H Hn locs) (hz : Hn.size = H.size) (hX : zMX E am (zwr z i (zimg n f ch) j) past ct kept an buf ln (zpm (zimg n f ch) rg n) td tm nb Hn) (ls : Array Slot), lv_has ls 6 [(0, .ref (am 0)), (1, .int (nI (i))), (2, .int (nI (ch))), (3, .int (nI (n))), (4, .int (nI (zct (fun s9 => decide (zimg n f ch s9 ≠ f s9)) n))), (5, .int (nI (j)))] → W p (zl E) e (zRm 3 70) s m args below meth c Hn locs 0 0 Q (F0 m 75 ls []) := by
            intro dd
            induction dd with
            | zero => intro j hdd; exact absurd hdd (Nat.not_lt_zero _)
            | succ dd ih75 =>
              intro j hdd75 hj Hn locs hS hz hX ls hl
              obtain ⟨h0, h1, h2, h3, h4, h5, h6⟩ := hX
              refine lv_iload hx hb dX6_becomes_75 (lv_at hl 5 rfl) ?_
              refine lv_iload_n hx hb dX6_becomes_77 rfl (lv_at hl 3 rfl) ?_
              refine z_cge (tgt := 106) hx hb dX6_becomes_78 (by decide) ⟨by omega, by omega⟩ (fun c_2 => ?_) (fun c_2 => ?_)
              · obtain rfl : n = j := by omega
                refine lv_iload hx hb dX6_becomes_106 (lv_at hl 4 rfl) ?_
                exact hret _ _ _ _ _ hS (hz) dX6_becomes_108 (rfl) (⟨_, ⟨h0, h1, h2, h3, h4, h5, h6⟩⟩)
              · refine lv_aload_n hx hb dX6_becomes_81 rfl (lv_at hl 0 rfl) ?_
                refine z_get (ref := RX6) (C := RX6) (T := TX6) (N := 11) hx hb hts hin6 hown hG h0 rfl 0 (by decide) (by decide +kernel) rfl rfl dX6_becomes_82 ?_
                refine lv_aload_n hx hb dX6_becomes_85 rfl (lv_at hl 0 rfl) ?_
                refine lv_iload_n hx hb dX6_becomes_86 rfl (lv_at hl 1 rfl) ?_
                refine lv_iload hx hb dX6_becomes_87 (lv_at hl 5 rfl) ?_
                refine z_roV (As := [.int (nI (i)), .int (nI (j))]) (rest := [.ref (am 1)]) (q := (RX6, TX6, 11)) S hG (c_X6_at E (z := (zwr z i (zimg n f ch) j)) (i := i) (n := n) (j := j) hi6 (zwr_h hr.1) (⟨by omega, hn.2⟩)) 2 gX6_becomes_X6_at rfl kX6_at ⟨Nat.le_of_ble_eq_true rfl, Nat.le_of_ble_eq_true rfl⟩ ⟨Nat.zero_le _, Nat.zero_le _⟩ (⟨h0, h1⟩) rfl h0 rfl hl.1 rfl rfl (Nat.le_of_ble_eq_true rfl) dX6_becomes_89 ?_
                refine lv_aload_n hx hb dX6_becomes_92 rfl (lv_at hl 0 rfl) ?_
                refine z_get (ref := RX6) (C := RX6) (T := TX6) (N := 11) hx hb hts hin6 hown hG h0 rfl 7 (by decide) (by decide +kernel) rfl rfl dX6_becomes_93 ?_
                refine lv_iload hx hb dX6_becomes_96 (lv_at hl 5 rfl) ?_
                refine z_iald (j := j) hx hb hG h5 ⟨by omega, by omega⟩ dX6_becomes_98 ?_
                refine z_top (y := (zimg n f ch j)) (by unfold zpm; rw [if_pos (by omega)]) ?_
                refine z_iast (j := 10 + 17 * i + 1 + j) hx hb hG h1 ⟨by omega, by omega⟩ hS (⟨1, by decide, rfl⟩) dX6_becomes_99 (fun Hn locs h_3 o_4 hS => ?_)
                have k_5 := va_at.kept h0 (o_4.2 _ (hinj.ne (by decide) (by decide) (by decide)))
                have k_6 := va_at.kept h2 (o_4.2 _ (hinj.ne (by decide) (by decide) (by decide)))
                have k_7 := va_at.kept h3 (o_4.2 _ (hinj.ne (by decide) (by decide) (by decide)))
                have k_8 := va_at.kept h4 (o_4.2 _ (hinj.ne (by decide) (by decide) (by decide)))
                have k_9 := va_at.kept h5 (o_4.2 _ (hinj.ne (by decide) (by decide) (by decide)))
                have k_10 := va_at.kept h6 (o_4.2 _ (hinj.ne (by decide) (by decide) (by decide)))
                have hz : Hn.size = H.size := o_4.1.trans hz
                refine lv_iinc (v := nI (j + 1)) (lv' := [(5, .int (nI (j + 1))), (0, .ref (am 0)), (1, .int (nI (i))), (2, .int (nI (ch))), (3, .int (nI (n))), (4, .int (nI (zct (fun s9 => decide (zimg n f ch s9 ≠ f s9)) n)))]) hx hb dX6_becomes_100 hl (k := 5) rfl (z_inc1 _) (by decide) rfl (fun ls hl => ?_)
                refine lv_goto (tgt := 75) hx hb dX6_becomes_103 (by decide) ?_
                have hl9 := lv_sub hl [1, 2, 3, 4, 5, 0] (l' := [(0, .ref (am 0)), (1, .int (nI (i))), (2, .int (nI (ch))), (3, .int (nI (n))), (4, .int (nI (zct (fun s9 => decide (zimg n f ch s9 ≠ f s9)) n))), (5, .int (nI (j + 1)))]) rfl
                have e9_5 : (j + 1) = ((j + 1)) := by omega
                exact ih75 (j + 1) (by omega) (by omega) _ _ hS hz (by rw [← zwr_s]; exact ⟨k_5, h_3, k_6, k_7, k_8, k_9, k_10⟩) ls (by rw [← e9_5]; exact hl9)
          exact L75 ((n - (0)) + 1) (0) (Nat.lt_succ_self _) (Nat.zero_le _) _ _ hS hz (by rw [zwr_0]; exact ⟨h0, h1, h2, h3, h4, h5, h6⟩) ls (lv_sub hl [1, 2, 3, 4, 5, 0] rfl)
      · refine lv_aload_n hx hb dX6_becomes_18 rfl (lv_at hl 0 rfl) ?_
        refine z_get (ref := RX6) (C := RX6) (T := TX6) (N := 11) hx hb hts hin6 hown hG h0 rfl 7 (by decide) (by decide +kernel) rfl rfl dX6_becomes_19 ?_
        refine lv_iload hx hb dX6_becomes_22 (lv_at hl 5 rfl) ?_
        refine lv_aload_n hx hb dX6_becomes_24 rfl (lv_at hl 0 rfl) ?_
        refine lv_iload_n hx hb dX6_becomes_25 rfl (lv_at hl 1 rfl) ?_
        refine lv_iconst (v := nI (2)) hx hb dX6_becomes_26 (by decide) ?_
        refine lv_iload_n hx hb dX6_becomes_27 rfl (lv_at hl 2 rfl) ?_
        refine lv_iload hx hb dX6_becomes_28 (lv_at hl 5 rfl) ?_
        refine z_roV (As := [.int (nI (i)), .int (nI (2)), .int (nI (ch)), .int (nI (j))]) (rest := [.int (nI (j)), .ref (am 5)]) (q := (RX6, TX6, 11)) S hG (c_X6_behind E (z := z) (i := i) (n := n) (f := f) (lv := 2) (ch := ch) (j := j) hi6 hn hr (by decide) hm4 hch (by omega)) 4 gX6_becomes_X6_behind rfl kX6_behind ⟨Nat.le_of_ble_eq_true rfl, Nat.le_of_ble_eq_true rfl⟩ ⟨Nat.zero_le _, Nat.zero_le _⟩ (⟨h0, h1⟩) rfl h0 rfl hl.1 rfl rfl (Nat.le_of_ble_eq_true rfl) dX6_becomes_30 ?_
        refine z_top (y := (zimg n f ch j)) (rfl) ?_
        refine z_iast (j := j) hx hb hG h5 ⟨by omega, by omega⟩ hS (⟨5, by decide, rfl⟩) dX6_becomes_33 (fun Hn locs h_11 o_12 hS => ?_)
        have k_13 := va_at.kept h0 (o_12.2 _ (hinj.ne (by decide) (by decide) (by decide)))
        have k_14 := va_at.kept h1 (o_12.2 _ (hinj.ne (by decide) (by decide) (by decide)))
        have k_15 := va_at.kept h2 (o_12.2 _ (hinj.ne (by decide) (by decide) (by decide)))
        have k_16 := va_at.kept h3 (o_12.2 _ (hinj.ne (by decide) (by decide) (by decide)))
        have k_17 := va_at.kept h4 (o_12.2 _ (hinj.ne (by decide) (by decide) (by decide)))
        have k_18 := va_at.kept h6 (o_12.2 _ (hinj.ne (by decide) (by decide) (by decide)))
        have hz : Hn.size = H.size := o_12.1.trans hz
        refine lv_iload hx hb dX6_becomes_34 (lv_at hl 4 rfl) ?_
        refine lv_aload_n hx hb dX6_becomes_36 rfl (lv_at hl 0 rfl) ?_
        refine z_get (ref := RX6) (C := RX6) (T := TX6) (N := 11) hx hb hts hin6 hown hG k_13 rfl 7 (by decide) (by decide +kernel) rfl rfl dX6_becomes_37 ?_
        refine lv_iload hx hb dX6_becomes_40 (lv_at hl 5 rfl) ?_
        refine z_iald (j := j) hx hb hG h_11 ⟨by omega, by omega⟩ dX6_becomes_42 ?_
        refine z_top (y := (zimg n f ch j)) (zup_s) ?_
        refine lv_aload_n hx hb dX6_becomes_43 rfl (lv_at hl 0 rfl) ?_
        refine z_get (ref := RX6) (C := RX6) (T := TX6) (N := 11) hx hb hts hin6 hown hG k_13 rfl 0 (by decide) (by decide +kernel) rfl rfl dX6_becomes_44 ?_
        refine lv_aload_n hx hb dX6_becomes_47 rfl (lv_at hl 0 rfl) ?_
        refine lv_iload_n hx hb dX6_becomes_48 rfl (lv_at hl 1 rfl) ?_
        refine lv_iload hx hb dX6_becomes_49 (lv_at hl 5 rfl) ?_
        refine z_roV (As := [.int (nI (i)), .int (nI (j))]) (rest := [.ref (am 1), .int (zimg n f ch j), .int (nI (zct (fun s9 => decide (zimg n f ch s9 ≠ f s9)) j))]) (q := (RX6, TX6, 11)) S hG (c_X6_at E (z := z) (i := i) (n := n) (j := j) hi6 (hr.1) (⟨by omega, hn.2⟩)) 2 gX6_becomes_X6_at rfl kX6_at ⟨Nat.le_of_ble_eq_true rfl, Nat.le_of_ble_eq_true rfl⟩ ⟨Nat.zero_le _, Nat.zero_le _⟩ (⟨k_13, k_14⟩) rfl k_13 rfl hl.1 rfl rfl (Nat.le_of_ble_eq_true rfl) dX6_becomes_51 ?_
        refine z_iald (j := 10 + 17 * i + 1 + j) hx hb hG k_14 ⟨by omega, by omega⟩ dX6_becomes_54 ?_
        refine z_top (y := (f j)) (by first | exact hr.2 j (by omega) | exact (hr.2 j (by omega)).symm) ?_
        refine lv_icmp_ne (tgt := 62) hx hb dX6_becomes_55 (by decide) (fun c_19 => ?_) (fun c_19 => ?_)
        · refine lv_iconst (v := nI (1)) hx hb dX6_becomes_62 (by decide) ?_
          refine z_iadd hx hb dX6_becomes_63 ?_
          refine lv_istore (lv' := [(4, .int (nI ((zct (fun s9 => decide (zimg n f ch s9 ≠ f s9)) j) + 1))), (0, .ref (am 0)), (1, .int (nI (i))), (2, .int (nI (ch))), (3, .int (nI (n))), (5, .int (nI (j)))]) hx hb dX6_becomes_64 hl (by decide) rfl (fun ls hl => ?_)
          refine lv_iinc (v := nI (j + 1)) (lv' := [(5, .int (nI (j + 1))), (4, .int (nI ((zct (fun s9 => decide (zimg n f ch s9 ≠ f s9)) j) + 1))), (0, .ref (am 0)), (1, .int (nI (i))), (2, .int (nI (ch))), (3, .int (nI (n)))]) hx hb dX6_becomes_66 hl (k := 5) rfl (z_inc1 _) (by decide) rfl (fun ls hl => ?_)
          refine lv_goto (tgt := 12) hx hb dX6_becomes_69 (by decide) ?_
          have hl9 := lv_sub hl [2, 3, 4, 5, 1, 0] (l' := [(0, .ref (am 0)), (1, .int (nI (i))), (2, .int (nI (ch))), (3, .int (nI (n))), (4, .int (nI ((zct (fun s9 => decide (zimg n f ch s9 ≠ f s9)) j) + 1))), (5, .int (nI (j + 1)))]) rfl
          have e9_4 : ((zct (fun s9 => decide (zimg n f ch s9 ≠ f s9)) j) + 1) = (zct (fun s9 => decide (zimg n f ch s9 ≠ f s9)) (j + 1)) := by first | exact zct_t (p := (fun s9 => decide (zimg n f ch s9 ≠ f s9))) (decide_eq_true c_19) | exact zct_f (p := (fun s9 => decide (zimg n f ch s9 ≠ f s9))) (decide_eq_false (not_not_intro c_19))
          have e9_5 : (j + 1) = ((j + 1)) := by omega
          exact ih12 (j + 1) (by omega) (by omega) _ _ hS hz (by rw [← zpm_s]; exact ⟨k_13, k_14, k_15, k_16, k_17, h_11, k_18⟩) ls (by rw [← e9_4, ← e9_5]; exact hl9)
        · refine lv_iconst (v := nI (0)) hx hb dX6_becomes_58 (by decide) ?_
          refine lv_goto (tgt := 63) hx hb dX6_becomes_59 (by decide) ?_
          refine z_iadd hx hb dX6_becomes_63 ?_
          refine lv_istore (lv' := [(4, .int (nI ((zct (fun s9 => decide (zimg n f ch s9 ≠ f s9)) j) + 0))), (0, .ref (am 0)), (1, .int (nI (i))), (2, .int (nI (ch))), (3, .int (nI (n))), (5, .int (nI (j)))]) hx hb dX6_becomes_64 hl (by decide) rfl (fun ls hl => ?_)
          refine lv_iinc (v := nI (j + 1)) (lv' := [(5, .int (nI (j + 1))), (4, .int (nI ((zct (fun s9 => decide (zimg n f ch s9 ≠ f s9)) j) + 0))), (0, .ref (am 0)), (1, .int (nI (i))), (2, .int (nI (ch))), (3, .int (nI (n)))]) hx hb dX6_becomes_66 hl (k := 5) rfl (z_inc1 _) (by decide) rfl (fun ls hl => ?_)
          refine lv_goto (tgt := 12) hx hb dX6_becomes_69 (by decide) ?_
          have hl9 := lv_sub hl [2, 3, 4, 5, 1, 0] (l' := [(0, .ref (am 0)), (1, .int (nI (i))), (2, .int (nI (ch))), (3, .int (nI (n))), (4, .int (nI ((zct (fun s9 => decide (zimg n f ch s9 ≠ f s9)) j) + 0))), (5, .int (nI (j + 1)))]) rfl
          have e9_4 : ((zct (fun s9 => decide (zimg n f ch s9 ≠ f s9)) j) + 0) = (zct (fun s9 => decide (zimg n f ch s9 ≠ f s9)) (j + 1)) := by first | exact zct_t (p := (fun s9 => decide (zimg n f ch s9 ≠ f s9))) (decide_eq_true c_19) | exact zct_f (p := (fun s9 => decide (zimg n f ch s9 ≠ f s9))) (decide_eq_false (not_not_intro c_19))
          have e9_5 : (j + 1) = ((j + 1)) := by omega
          exact ih12 (j + 1) (by omega) (by omega) _ _ hS hz (by rw [← zpm_s]; exact ⟨k_13, k_14, k_15, k_16, k_17, h_11, k_18⟩) ls (by rw [← e9_4, ← e9_5]; exact hl9)
  exact L12 ((n - (0)) + 1) (0) (Nat.lt_succ_self _) (Nat.zero_le _) _ _ hS hz (by rw [zpm_0]; exact ⟨h0, h1, h2, h3, h4, h5, h6⟩) ls (lv_sub hl [3, 4, 5, 2, 1, 0] rfl)
