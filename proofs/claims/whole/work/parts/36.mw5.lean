set_option maxHeartbeats 4000000 in
set_option maxRecDepth 100000 in
theorem c_X6_readOne (E : zEnv) {am : Nat → Nat} {z past kept buf rg td : Nat → Int32} {an : Bool} {ct ln tm nb : Nat} {w : Nat} {f : Nat → Int32} (hinj : zInM am) (htb : tm ≤ 16 ∧ nb ≤ 16) (htd : ∀ j, j < tm → td j = f j) (hw : 33 ≤ w ∧ w ≤ 126) : zWR E yX6_readOne wsX6_readOne 1 22 [.ref (am 0), .int (nI (w))] (fun H => zMX E am z past ct kept an buf ln rg td tm nb H) (some (.int (zb (zpk ((tm, nb, f) : zPs) w)))) (fun H => ∃ td : Nat → Int32, zMX E am z past ct kept an buf ln rg td ((zps ((tm, nb, f) : zPs) w).1) ((zps ((tm, nb, f) : zPs) w).2.1) H ∧ ∀ j, j < (zps ((tm, nb, f) : zPs) w).1 → td j = (zps ((tm, nb, f) : zPs) w).2.2 j) (zAM am) := by
  refine zWR.ofZ (maxL := 6) rfl (Nat.le_of_ble_eq_true rfl) (fun p e s m args below meth c H Q hF hP hret ls hl => ?_)
  have S : CallFix p m c cX6_readOne 6 s args wsX6_readOne RX6 := hF.1
  have hG := hF.2
  obtain ⟨hx, hb, hml, hown, hts⟩ := id S
  have hS : va_S (zAM am) H H [] := va_S.rf
  obtain ⟨locs, hlocs⟩ : ∃ x : List Loc, x = [] := ⟨_, rfl⟩
  rw [← hlocs] at hS ⊢
  have hz : H.size = H.size := rfl
  obtain ⟨h0, h1, h2, h3, h4, h5, h6⟩ := hP
  have hl16 := zrl_3 htb.2
  have hl : lv_has ls 6 [(0, .ref (am 0)), (1, .int (nI (w)))] := hl
  have hin6 : ∀ w ∈ u_ws RX6 TX6 11, w ∈ wsX6_readOne := by decide +kernel
  refine lv_bipush (v := nI (16)) hx hb dX6_readOne_0 (by decide) ?_
  refine lv_aload_n hx hb dX6_readOne_2 rfl (lv_at hl 0 rfl) ?_
  refine z_get (ref := RX6) (C := RX6) (T := TX6) (N := 11) hx hb hts hin6 hown hG h0 rfl 9 (by decide) (by decide +kernel) rfl rfl dX6_readOne_3 ?_
  refine z_isub hx hb dX6_readOne_6 (by omega) ?_
  refine lv_istore_n (lv' := [(2, .int (nI (16 - tm))), (0, .ref (am 0)), (1, .int (nI (w)))]) hx hb dX6_readOne_7 rfl hl (by decide) rfl (fun ls hl => ?_)
  refine lv_iload_n hx hb dX6_readOne_8 rfl (lv_at hl 2 rfl) ?_
  refine lv_bipush (v := nI (48)) hx hb dX6_readOne_9 (by decide) ?_
  refine lv_bipush (v := nI (57)) hx hb dX6_readOne_11 (by decide) ?_
  refine z_roSX (As := [.int (nI (w)), .int (nI (48)), .int (nI (57))]) (rest := []) S hG (c_X6_in E) 3 gX6_readOne_X6_in rfl kX6_in.2 ⟨Nat.le_of_ble_eq_true rfl, Nat.le_of_ble_eq_true rfl⟩ ⟨Nat.zero_le _, Nat.zero_le _⟩ (trivial) rfl hl.1 rfl rfl (Nat.le_of_ble_eq_true rfl) dX6_readOne_13 ?_
  refine z_top (y := zb (zdg w)) (by rw [zin_nI (by omega) (by decide) (by decide)]; rfl) ?_
  refine z_beq (tgt := 106) hx hb dX6_readOne_16 (by decide) (fun c_1 => ?_) (fun c_1 => ?_)
  · have hdg : zdg w = false := c_1
    refine lv_iload_n hx hb dX6_readOne_106 rfl (lv_at hl 2 rfl) ?_
    refine lv_bipush (v := nI (45)) hx hb dX6_readOne_107 (by decide) ?_
    refine z_cne (tgt := 116) hx hb dX6_readOne_109 (by decide) ⟨by omega, by omega⟩ (fun c_2 => ?_) (fun c_2 => ?_)
    · have h45 : w ≠ 45 := by omega
      refine lv_iload_n hx hb dX6_readOne_116 rfl (lv_at hl 2 rfl) ?_
      refine lv_bipush (v := nI (97)) hx hb dX6_readOne_117 (by decide) ?_
      refine lv_bipush (v := nI (101)) hx hb dX6_readOne_119 (by decide) ?_
      refine z_roSX (As := [.int (nI (w)), .int (nI (97)), .int (nI (101))]) (rest := []) S hG (c_X6_in E) 3 gX6_readOne_X6_in rfl kX6_in.2 ⟨Nat.le_of_ble_eq_true rfl, Nat.le_of_ble_eq_true rfl⟩ ⟨Nat.zero_le _, Nat.zero_le _⟩ (trivial) rfl hl.1 rfl rfl (Nat.le_of_ble_eq_true rfl) dX6_readOne_121 ?_
      refine z_top (y := zb (decide (97 ≤ w ∧ w ≤ 101))) (by rw [zin_nI (by omega) (by decide) (by decide)]) ?_
      refine z_beq (tgt := 136) hx hb dX6_readOne_124 (by decide) (fun c_3 => ?_) (fun c_3 => ?_)
      · have hzk := zkc_n h45 (of_decide_eq_false c_3)
        refine lv_bipush (v := (-6)) hx hb dX6_readOne_136 (by decide) ?_
        refine lv_istore_n (lv' := [(3, .int (-6)), (2, .int (nI (16 - tm))), (0, .ref (am 0)), (1, .int (nI (w)))]) hx hb dX6_readOne_138 rfl hl (by decide) rfl (fun ls hl => ?_)
        refine lv_aload_n hx hb dX6_readOne_139 rfl (lv_at hl 2 rfl) ?_
        refine z_get (ref := RX6) (C := RX6) (T := TX6) (N := 11) hx hb hts hin6 hown hG h0 rfl 10 (by decide) (by decide +kernel) rfl rfl dX6_readOne_140 ?_
        refine z_fne (tgt := 150) hx hb dX6_readOne_143 (by decide) (by omega) (fun c_4 => ?_) (fun c_4 => ?_)
        · refine lv_aload_n hx hb dX6_readOne_150 rfl (lv_at hl 2 rfl) ?_
          refine z_get (ref := RX6) (C := RX6) (T := TX6) (N := 11) hx hb hts hin6 hown hG h0 rfl 10 (by decide) (by decide +kernel) rfl rfl dX6_readOne_151 ?_
          refine z_top (y := nI (zrl nb)) (by first | exact zrl_2 (by omega) | exact (zrl_2 (by omega)).symm) ?_
          refine lv_istore (lv' := [(4, .int (nI (zrl nb))), (3, .int (-6)), (2, .int (nI (16 - tm))), (0, .ref (am 0)), (1, .int (nI (w)))]) hx hb dX6_readOne_154 hl (by decide) rfl (fun ls hl => ?_)
          refine lv_iload_n hx hb dX6_readOne_156 rfl (lv_at hl 1 rfl) ?_
          refine lv_bipush (v := (-6)) hx hb dX6_readOne_157 (by decide) ?_
          refine lv_icmp_eq (tgt := 176) hx hb dX6_readOne_159 (by decide) (fun c_5 => ?_) (fun c_5 => by exfalso; exact c_5 rfl)
          have hk : zpk ((tm, nb, f) : zPs) w = false := (zpk_r hdg).trans (by first | exact zrk_n1 hzk | exact zrk_n2 (by show ¬ (nb ≠ 1 ∧ tm + zrl nb ≤ 16); omega))
          refine lv_iconst (v := nI (0)) hx hb dX6_readOne_176 (by decide) ?_
          exact hret _ _ _ _ _ hS (hz) dX6_readOne_177 (by first | exact Or.inl rfl | exact Or.inr rfl) (zrf hk) (by rw [zps_n hk]; exact ⟨_, ⟨h0, h1, h2, h3, h4, h5, h6⟩, htd⟩)
        · refine lv_iconst (v := nI (1)) hx hb dX6_readOne_146 (by decide) ?_
          refine z_top (y := nI (zrl nb)) (by first | exact zrl_1 (by omega) | exact (zrl_1 (by omega)).symm) ?_
          refine lv_goto (tgt := 154) hx hb dX6_readOne_147 (by decide) ?_
          refine lv_istore (lv' := [(4, .int (nI (zrl nb))), (3, .int (-6)), (2, .int (nI (16 - tm))), (0, .ref (am 0)), (1, .int (nI (w)))]) hx hb dX6_readOne_154 hl (by decide) rfl (fun ls hl => ?_)
          refine lv_iload_n hx hb dX6_readOne_156 rfl (lv_at hl 1 rfl) ?_
          refine lv_bipush (v := (-6)) hx hb dX6_readOne_157 (by decide) ?_
          refine lv_icmp_eq (tgt := 176) hx hb dX6_readOne_159 (by decide) (fun c_6 => ?_) (fun c_6 => by exfalso; exact c_6 rfl)
          have hk : zpk ((tm, nb, f) : zPs) w = false := (zpk_r hdg).trans (by first | exact zrk_n1 hzk | exact zrk_n2 (by show ¬ (nb ≠ 1 ∧ tm + zrl nb ≤ 16); omega))
          refine lv_iconst (v := nI (0)) hx hb dX6_readOne_176 (by decide) ?_
          exact hret _ _ _ _ _ hS (hz) dX6_readOne_177 (by first | exact Or.inl rfl | exact Or.inr rfl) (zrf hk) (by rw [zps_n hk]; exact ⟨_, ⟨h0, h1, h2, h3, h4, h5, h6⟩, htd⟩)
      · have h9w := of_decide_eq_true c_3
        have hzk : zin (zkc w) 0 5 = true := by rw [zkc_1 (of_decide_eq_true c_3)]; have h9 := of_decide_eq_true c_3; exact zin_y (Nat.zero_le _) (by omega) (by decide)
        have hn9 : ¬ zkc w = -6 := by rw [zkc_1 (of_decide_eq_true c_3)]; have h9 := of_decide_eq_true c_3; exact zn6 (by omega)
        refine lv_iload_n hx hb dX6_readOne_127 rfl (lv_at hl 2 rfl) ?_
        refine lv_bipush (v := nI (97)) hx hb dX6_readOne_128 (by decide) ?_
        refine z_isub hx hb dX6_readOne_130 (by omega) ?_
        refine lv_iconst (v := nI (1)) hx hb dX6_readOne_131 (by decide) ?_
        refine z_iadd hx hb dX6_readOne_132 ?_
        refine z_top (y := (zkc w)) (by rw [zkc_1 (of_decide_eq_true (by assumption))]) ?_
        refine lv_goto (tgt := 138) hx hb dX6_readOne_133 (by decide) ?_
        refine lv_istore_n (lv' := [(3, .int (zkc w)), (2, .int (nI (16 - tm))), (0, .ref (am 0)), (1, .int (nI (w)))]) hx hb dX6_readOne_138 rfl hl (by decide) rfl (fun ls hl => ?_)
        refine lv_aload_n hx hb dX6_readOne_139 rfl (lv_at hl 2 rfl) ?_
        refine z_get (ref := RX6) (C := RX6) (T := TX6) (N := 11) hx hb hts hin6 hown hG h0 rfl 10 (by decide) (by decide +kernel) rfl rfl dX6_readOne_140 ?_
        refine z_fne (tgt := 150) hx hb dX6_readOne_143 (by decide) (by omega) (fun c_7 => ?_) (fun c_7 => ?_)
        · refine lv_aload_n hx hb dX6_readOne_150 rfl (lv_at hl 2 rfl) ?_
          refine z_get (ref := RX6) (C := RX6) (T := TX6) (N := 11) hx hb hts hin6 hown hG h0 rfl 10 (by decide) (by decide +kernel) rfl rfl dX6_readOne_151 ?_
          refine z_top (y := nI (zrl nb)) (by first | exact zrl_2 (by omega) | exact (zrl_2 (by omega)).symm) ?_
          refine lv_istore (lv' := [(4, .int (nI (zrl nb))), (3, .int (zkc w)), (2, .int (nI (16 - tm))), (0, .ref (am 0)), (1, .int (nI (w)))]) hx hb dX6_readOne_154 hl (by decide) rfl (fun ls hl => ?_)
          refine lv_iload_n hx hb dX6_readOne_156 rfl (lv_at hl 1 rfl) ?_
          refine lv_bipush (v := (-6)) hx hb dX6_readOne_157 (by decide) ?_
          refine lv_icmp_eq (tgt := 176) hx hb dX6_readOne_159 (by decide) (fun c_8 => by exfalso; exact hn9 c_8) (fun c_8 => ?_)
          refine lv_aload_n hx hb dX6_readOne_162 rfl (lv_at hl 3 rfl) ?_
          refine z_get (ref := RX6) (C := RX6) (T := TX6) (N := 11) hx hb hts hin6 hown hG h0 rfl 10 (by decide) (by decide +kernel) rfl rfl dX6_readOne_163 ?_
          refine lv_iconst (v := nI (1)) hx hb dX6_readOne_166 (by decide) ?_
          refine z_ceq (tgt := 176) hx hb dX6_readOne_167 (by decide) ⟨by omega, by omega⟩ (fun c_9 => ?_) (fun c_9 => ?_)
          · have hk : zpk ((tm, nb, f) : zPs) w = false := (zpk_r hdg).trans (by first | exact zrk_n1 hzk | exact zrk_n2 (by show ¬ (nb ≠ 1 ∧ tm + zrl nb ≤ 16); omega))
            refine lv_iconst (v := nI (0)) hx hb dX6_readOne_176 (by decide) ?_
            exact hret _ _ _ _ _ hS (hz) dX6_readOne_177 (by first | exact Or.inl rfl | exact Or.inr rfl) (zrf hk) (by rw [zps_n hk]; exact ⟨_, ⟨h0, h1, h2, h3, h4, h5, h6⟩, htd⟩)
          · refine lv_iload hx hb dX6_readOne_170 (lv_at hl 0 rfl) ?_
            refine lv_iload_n hx hb dX6_readOne_172 rfl (lv_at hl 2 rfl) ?_
            refine z_cle (tgt := 178) hx hb dX6_readOne_173 (by decide) ⟨by omega, by omega⟩ (fun c_10 => ?_) (fun c_10 => ?_)
            · have hk : zpk ((tm, nb, f) : zPs) w = true := (zpk_r hdg).trans (zrk_y hzk ⟨by show nb ≠ 1; omega, by show tm + zrl nb ≤ 16; omega⟩)
              refine lv_iconst (v := nI (0)) hx hb dX6_readOne_178 (by decide) ?_
              refine lv_istore (lv' := [(5, .int (nI (0))), (4, .int (nI (zrl nb))), (3, .int (zkc w)), (2, .int (nI (16 - tm))), (0, .ref (am 0)), (1, .int (nI (w)))]) hx hb dX6_readOne_179 hl (by decide) rfl (fun ls hl => ?_)
              have L181 : ∀ (dd : Nat) (i : Nat), zrl nb - i < dd → (i ≤ zrl nb) → ∀ (Hn : Heap) (locs : List Loc) (hS : va_S (zAM am) H Hn locs) (hz : Hn.size = H.size) (hX : zMX E am z past ct kept an buf ln rg (zrn td tm i (zkc w)) (tm + i) nb Hn) (ls : Array Slot), lv_has ls 6 [(0, .ref (am 0)), (1, .int (nI (w))), (2, .int (nI (16 - tm))), (3, .int (zkc w)), (4, .int (nI (zrl nb))), (5, .int (nI (i)))] → W p (zl E) e (zRm 1 22) s m args below meth c Hn locs 0 0 Q (F0 m 181 ls []) := by
                intro dd
                induction dd with
                | zero => intro i hdd; exact absurd hdd (Nat.not_lt_zero _)
                | succ dd ih181 =>
                  intro i hdd181 hi Hn locs hS hz hX ls hl
                  obtain ⟨h0, h1, h2, h3, h4, h5, h6⟩ := hX
                  refine lv_iload hx hb dX6_readOne_181 (lv_at hl 5 rfl) ?_
                  refine lv_iload hx hb dX6_readOne_183 (lv_at hl 4 rfl) ?_
                  refine z_cge (tgt := 214) hx hb dX6_readOne_185 (by decide) ⟨by omega, by omega⟩ (fun c_11 => ?_) (fun c_11 => ?_)
                  · obtain rfl : i = zrl nb := by omega
                    refine lv_aload_n hx hb dX6_readOne_214 rfl (lv_at hl 0 rfl) ?_
                    refine lv_iconst (v := nI (0)) hx hb dX6_readOne_215 (by decide) ?_
                    refine z_put (ref := RX6) (C := RX6) (T := TX6) (N := 11) hx hb hts hin6 tyX6_ok nmX6 hown hG h0 rfl 10 (by decide) (by decide +kernel) rfl rfl rfl rfl (Nat.le_of_ble_eq_true rfl) hS (⟨0, by decide, rfl⟩) dX6_readOne_216 (fun Hn locs h_12 o_13 hS => ?_)
                    have k_14 := va_at.kept h1 (o_13.2 _ (hinj.ne (by decide) (by decide) (by decide)))
                    have k_15 := va_at.kept h2 (o_13.2 _ (hinj.ne (by decide) (by decide) (by decide)))
                    have k_16 := va_at.kept h3 (o_13.2 _ (hinj.ne (by decide) (by decide) (by decide)))
                    have k_17 := va_at.kept h4 (o_13.2 _ (hinj.ne (by decide) (by decide) (by decide)))
                    have k_18 := va_at.kept h5 (o_13.2 _ (hinj.ne (by decide) (by decide) (by decide)))
                    have k_19 := va_at.kept h6 (o_13.2 _ (hinj.ne (by decide) (by decide) (by decide)))
                    have hz : Hn.size = H.size := o_13.1.trans hz
                    refine lv_iconst (v := nI (1)) hx hb dX6_readOne_219 (by decide) ?_
                    exact hret _ _ _ _ _ hS (hz) dX6_readOne_220 (by first | exact Or.inl rfl | exact Or.inr rfl) (zrt hk) (by rw [show zps ((tm, nb, f) : zPs) w = (tm + zrl nb, 0, zrn f tm (zrl nb) (zkc w)) from zps_r hdg (by rw [← zpk_r hdg]; exact hk)]; exact ⟨_, ⟨h_12, k_14, k_15, k_16, k_17, k_18, k_19⟩, zrn_e htd⟩)
                  · refine lv_aload_n hx hb dX6_readOne_188 rfl (lv_at hl 0 rfl) ?_
                    refine z_get (ref := RX6) (C := RX6) (T := TX6) (N := 11) hx hb hts hin6 hown hG h0 rfl 8 (by decide) (by decide +kernel) rfl rfl dX6_readOne_189 ?_
                    refine lv_aload_n hx hb dX6_readOne_192 rfl (lv_at hl 0 rfl) ?_
                    refine z_get (ref := RX6) (C := RX6) (T := TX6) (N := 11) hx hb hts hin6 hown hG h0 rfl 9 (by decide) (by decide +kernel) rfl rfl dX6_readOne_193 ?_
                    refine lv_iload_n hx hb dX6_readOne_196 rfl (lv_at hl 3 rfl) ?_
                    refine z_iast (j := (tm + i)) hx hb hG h6 ⟨by omega, by omega⟩ hS (⟨6, by decide, rfl⟩) dX6_readOne_197 (fun Hn locs h_20 o_21 hS => ?_)
                    have k_22 := va_at.kept h0 (o_21.2 _ (hinj.ne (by decide) (by decide) (by decide)))
                    have k_23 := va_at.kept h1 (o_21.2 _ (hinj.ne (by decide) (by decide) (by decide)))
                    have k_24 := va_at.kept h2 (o_21.2 _ (hinj.ne (by decide) (by decide) (by decide)))
                    have k_25 := va_at.kept h3 (o_21.2 _ (hinj.ne (by decide) (by decide) (by decide)))
                    have k_26 := va_at.kept h4 (o_21.2 _ (hinj.ne (by decide) (by decide) (by decide)))
                    have k_27 := va_at.kept h5 (o_21.2 _ (hinj.ne (by decide) (by decide) (by decide)))
                    have hz : Hn.size = H.size := o_21.1.trans hz
                    refine lv_aload_n hx hb dX6_readOne_198 rfl (lv_at hl 0 rfl) ?_
                    refine lv_dup hx hb dX6_readOne_199 rfl ?_
                    refine z_get (ref := RX6) (C := RX6) (T := TX6) (N := 11) hx hb hts hin6 hown hG k_22 rfl 9 (by decide) (by decide +kernel) rfl rfl dX6_readOne_200 ?_
                    refine lv_iconst (v := nI (1)) hx hb dX6_readOne_203 (by decide) ?_
                    refine z_iadd hx hb dX6_readOne_204 ?_
                    refine z_put (ref := RX6) (C := RX6) (T := TX6) (N := 11) hx hb hts hin6 tyX6_ok nmX6 hown hG k_22 rfl 9 (by decide) (by decide +kernel) rfl rfl rfl rfl (Nat.le_of_ble_eq_true rfl) hS (⟨0, by decide, rfl⟩) dX6_readOne_205 (fun Hn locs h_28 o_29 hS => ?_)
                    have k_30 := va_at.kept k_23 (o_29.2 _ (hinj.ne (by decide) (by decide) (by decide)))
                    have k_31 := va_at.kept k_24 (o_29.2 _ (hinj.ne (by decide) (by decide) (by decide)))
                    have k_32 := va_at.kept k_25 (o_29.2 _ (hinj.ne (by decide) (by decide) (by decide)))
                    have k_33 := va_at.kept k_26 (o_29.2 _ (hinj.ne (by decide) (by decide) (by decide)))
                    have k_34 := va_at.kept k_27 (o_29.2 _ (hinj.ne (by decide) (by decide) (by decide)))
                    have k_35 := va_at.kept h_20 (o_29.2 _ (hinj.ne (by decide) (by decide) (by decide)))
                    have hz : Hn.size = H.size := o_29.1.trans hz
                    refine lv_iinc (v := nI (i + 1)) (lv' := [(5, .int (nI (i + 1))), (0, .ref (am 0)), (1, .int (nI (w))), (2, .int (nI (16 - tm))), (3, .int (zkc w)), (4, .int (nI (zrl nb)))]) hx hb dX6_readOne_208 hl (k := 5) rfl (z_inc1 _) (by decide) rfl (fun ls hl => ?_)
                    refine lv_goto (tgt := 181) hx hb dX6_readOne_211 (by decide) ?_
                    have hl9 := lv_sub hl [1, 2, 3, 4, 5, 0] (l' := [(0, .ref (am 0)), (1, .int (nI (w))), (2, .int (nI (16 - tm))), (3, .int (zkc w)), (4, .int (nI (zrl nb))), (5, .int (nI (i + 1)))]) rfl
                    have e9_5 : (i + 1) = ((i + 1)) := by omega
                    exact ih181 (i + 1) (by omega) (by omega) _ _ hS hz (by rw [← zrn_s]; exact ⟨h_28, k_30, k_31, k_32, k_33, k_34, k_35⟩) ls (by rw [← e9_5]; exact hl9)
              exact L181 ((zrl nb - (0)) + 1) (0) (Nat.lt_succ_self _) (Nat.zero_le _) _ _ hS hz (by rw [zrn_0]; exact ⟨h0, h1, h2, h3, h4, h5, h6⟩) ls (lv_sub hl [4, 5, 3, 2, 1, 0] rfl)
            · have hk : zpk ((tm, nb, f) : zPs) w = false := (zpk_r hdg).trans (by first | exact zrk_n1 hzk | exact zrk_n2 (by show ¬ (nb ≠ 1 ∧ tm + zrl nb ≤ 16); omega))
              refine lv_iconst (v := nI (0)) hx hb dX6_readOne_176 (by decide) ?_
              exact hret _ _ _ _ _ hS (hz) dX6_readOne_177 (by first | exact Or.inl rfl | exact Or.inr rfl) (zrf hk) (by rw [zps_n hk]; exact ⟨_, ⟨h0, h1, h2, h3, h4, h5, h6⟩, htd⟩)
        · refine lv_iconst (v := nI (1)) hx hb dX6_readOne_146 (by decide) ?_
          refine z_top (y := nI (zrl nb)) (by first | exact zrl_1 (by omega) | exact (zrl_1 (by omega)).symm) ?_
          refine lv_goto (tgt := 154) hx hb dX6_readOne_147 (by decide) ?_
          refine lv_istore (lv' := [(4, .int (nI (zrl nb))), (3, .int (zkc w)), (2, .int (nI (16 - tm))), (0, .ref (am 0)), (1, .int (nI (w)))]) hx hb dX6_readOne_154 hl (by decide) rfl (fun ls hl => ?_)
          refine lv_iload_n hx hb dX6_readOne_156 rfl (lv_at hl 1 rfl) ?_
          refine lv_bipush (v := (-6)) hx hb dX6_readOne_157 (by decide) ?_
          refine lv_icmp_eq (tgt := 176) hx hb dX6_readOne_159 (by decide) (fun c_36 => by exfalso; exact hn9 c_36) (fun c_36 => ?_)
          refine lv_aload_n hx hb dX6_readOne_162 rfl (lv_at hl 3 rfl) ?_
          refine z_get (ref := RX6) (C := RX6) (T := TX6) (N := 11) hx hb hts hin6 hown hG h0 rfl 10 (by decide) (by decide +kernel) rfl rfl dX6_readOne_163 ?_
          refine lv_iconst (v := nI (1)) hx hb dX6_readOne_166 (by decide) ?_
          refine z_ceq (tgt := 176) hx hb dX6_readOne_167 (by decide) ⟨by omega, by omega⟩ (fun c_37 => ?_) (fun c_37 => ?_)
          · have hk : zpk ((tm, nb, f) : zPs) w = false := (zpk_r hdg).trans (by first | exact zrk_n1 hzk | exact zrk_n2 (by show ¬ (nb ≠ 1 ∧ tm + zrl nb ≤ 16); omega))
            refine lv_iconst (v := nI (0)) hx hb dX6_readOne_176 (by decide) ?_
            exact hret _ _ _ _ _ hS (hz) dX6_readOne_177 (by first | exact Or.inl rfl | exact Or.inr rfl) (zrf hk) (by rw [zps_n hk]; exact ⟨_, ⟨h0, h1, h2, h3, h4, h5, h6⟩, htd⟩)
          · refine lv_iload hx hb dX6_readOne_170 (lv_at hl 0 rfl) ?_
            refine lv_iload_n hx hb dX6_readOne_172 rfl (lv_at hl 2 rfl) ?_
            refine z_cle (tgt := 178) hx hb dX6_readOne_173 (by decide) ⟨by omega, by omega⟩ (fun c_38 => ?_) (fun c_38 => ?_)
            · have hk : zpk ((tm, nb, f) : zPs) w = true := (zpk_r hdg).trans (zrk_y hzk ⟨by show nb ≠ 1; omega, by show tm + zrl nb ≤ 16; omega⟩)
              refine lv_iconst (v := nI (0)) hx hb dX6_readOne_178 (by decide) ?_
              refine lv_istore (lv' := [(5, .int (nI (0))), (4, .int (nI (zrl nb))), (3, .int (zkc w)), (2, .int (nI (16 - tm))), (0, .ref (am 0)), (1, .int (nI (w)))]) hx hb dX6_readOne_179 hl (by decide) rfl (fun ls hl => ?_)
              have L181 : ∀ (dd : Nat) (i : Nat), zrl nb - i < dd → (i ≤ zrl nb) → ∀ (Hn : Heap) (locs : List Loc) (hS : va_S (zAM am) H Hn locs) (hz : Hn.size = H.size) (hX : zMX E am z past ct kept an buf ln rg (zrn td tm i (zkc w)) (tm + i) nb Hn) (ls : Array Slot), lv_has ls 6 [(0, .ref (am 0)), (1, .int (nI (w))), (2, .int (nI (16 - tm))), (3, .int (zkc w)), (4, .int (nI (zrl nb))), (5, .int (nI (i)))] → W p (zl E) e (zRm 1 22) s m args below meth c Hn locs 0 0 Q (F0 m 181 ls []) := by
                intro dd
                induction dd with
                | zero => intro i hdd; exact absurd hdd (Nat.not_lt_zero _)
                | succ dd ih181 =>
                  intro i hdd181 hi Hn locs hS hz hX ls hl
                  obtain ⟨h0, h1, h2, h3, h4, h5, h6⟩ := hX
                  refine lv_iload hx hb dX6_readOne_181 (lv_at hl 5 rfl) ?_
                  refine lv_iload hx hb dX6_readOne_183 (lv_at hl 4 rfl) ?_
                  refine z_cge (tgt := 214) hx hb dX6_readOne_185 (by decide) ⟨by omega, by omega⟩ (fun c_39 => ?_) (fun c_39 => ?_)
                  · obtain rfl : i = zrl nb := by omega
                    refine lv_aload_n hx hb dX6_readOne_214 rfl (lv_at hl 0 rfl) ?_
                    refine lv_iconst (v := nI (0)) hx hb dX6_readOne_215 (by decide) ?_
                    refine z_put (ref := RX6) (C := RX6) (T := TX6) (N := 11) hx hb hts hin6 tyX6_ok nmX6 hown hG h0 rfl 10 (by decide) (by decide +kernel) rfl rfl rfl rfl (Nat.le_of_ble_eq_true rfl) hS (⟨0, by decide, rfl⟩) dX6_readOne_216 (fun Hn locs h_40 o_41 hS => ?_)
                    have k_42 := va_at.kept h1 (o_41.2 _ (hinj.ne (by decide) (by decide) (by decide)))
                    have k_43 := va_at.kept h2 (o_41.2 _ (hinj.ne (by decide) (by decide) (by decide)))
                    have k_44 := va_at.kept h3 (o_41.2 _ (hinj.ne (by decide) (by decide) (by decide)))
                    have k_45 := va_at.kept h4 (o_41.2 _ (hinj.ne (by decide) (by decide) (by decide)))
                    have k_46 := va_at.kept h5 (o_41.2 _ (hinj.ne (by decide) (by decide) (by decide)))
                    have k_47 := va_at.kept h6 (o_41.2 _ (hinj.ne (by decide) (by decide) (by decide)))
                    have hz : Hn.size = H.size := o_41.1.trans hz
                    refine lv_iconst (v := nI (1)) hx hb dX6_readOne_219 (by decide) ?_
                    exact hret _ _ _ _ _ hS (hz) dX6_readOne_220 (by first | exact Or.inl rfl | exact Or.inr rfl) (zrt hk) (by rw [show zps ((tm, nb, f) : zPs) w = (tm + zrl nb, 0, zrn f tm (zrl nb) (zkc w)) from zps_r hdg (by rw [← zpk_r hdg]; exact hk)]; exact ⟨_, ⟨h_40, k_42, k_43, k_44, k_45, k_46, k_47⟩, zrn_e htd⟩)
                  · refine lv_aload_n hx hb dX6_readOne_188 rfl (lv_at hl 0 rfl) ?_
                    refine z_get (ref := RX6) (C := RX6) (T := TX6) (N := 11) hx hb hts hin6 hown hG h0 rfl 8 (by decide) (by decide +kernel) rfl rfl dX6_readOne_189 ?_
                    refine lv_aload_n hx hb dX6_readOne_192 rfl (lv_at hl 0 rfl) ?_
                    refine z_get (ref := RX6) (C := RX6) (T := TX6) (N := 11) hx hb hts hin6 hown hG h0 rfl 9 (by decide) (by decide +kernel) rfl rfl dX6_readOne_193 ?_
                    refine lv_iload_n hx hb dX6_readOne_196 rfl (lv_at hl 3 rfl) ?_
                    refine z_iast (j := (tm + i)) hx hb hG h6 ⟨by omega, by omega⟩ hS (⟨6, by decide, rfl⟩) dX6_readOne_197 (fun Hn locs h_48 o_49 hS => ?_)
                    have k_50 := va_at.kept h0 (o_49.2 _ (hinj.ne (by decide) (by decide) (by decide)))
                    have k_51 := va_at.kept h1 (o_49.2 _ (hinj.ne (by decide) (by decide) (by decide)))
                    have k_52 := va_at.kept h2 (o_49.2 _ (hinj.ne (by decide) (by decide) (by decide)))
                    have k_53 := va_at.kept h3 (o_49.2 _ (hinj.ne (by decide) (by decide) (by decide)))
                    have k_54 := va_at.kept h4 (o_49.2 _ (hinj.ne (by decide) (by decide) (by decide)))
                    have k_55 := va_at.kept h5 (o_49.2 _ (hinj.ne (by decide) (by decide) (by decide)))
                    have hz : Hn.size = H.size := o_49.1.trans hz
                    refine lv_aload_n hx hb dX6_readOne_198 rfl (lv_at hl 0 rfl) ?_
                    refine lv_dup hx hb dX6_readOne_199 rfl ?_
                    refine z_get (ref := RX6) (C := RX6) (T := TX6) (N := 11) hx hb hts hin6 hown hG k_50 rfl 9 (by decide) (by decide +kernel) rfl rfl dX6_readOne_200 ?_
                    refine lv_iconst (v := nI (1)) hx hb dX6_readOne_203 (by decide) ?_
                    refine z_iadd hx hb dX6_readOne_204 ?_
                    refine z_put (ref := RX6) (C := RX6) (T := TX6) (N := 11) hx hb hts hin6 tyX6_ok nmX6 hown hG k_50 rfl 9 (by decide) (by decide +kernel) rfl rfl rfl rfl (Nat.le_of_ble_eq_true rfl) hS (⟨0, by decide, rfl⟩) dX6_readOne_205 (fun Hn locs h_56 o_57 hS => ?_)
                    have k_58 := va_at.kept k_51 (o_57.2 _ (hinj.ne (by decide) (by decide) (by decide)))
                    have k_59 := va_at.kept k_52 (o_57.2 _ (hinj.ne (by decide) (by decide) (by decide)))
                    have k_60 := va_at.kept k_53 (o_57.2 _ (hinj.ne (by decide) (by decide) (by decide)))
                    have k_61 := va_at.kept k_54 (o_57.2 _ (hinj.ne (by decide) (by decide) (by decide)))
                    have k_62 := va_at.kept k_55 (o_57.2 _ (hinj.ne (by decide) (by decide) (by decide)))
                    have k_63 := va_at.kept h_48 (o_57.2 _ (hinj.ne (by decide) (by decide) (by decide)))
                    have hz : Hn.size = H.size := o_57.1.trans hz
                    refine lv_iinc (v := nI (i + 1)) (lv' := [(5, .int (nI (i + 1))), (0, .ref (am 0)), (1, .int (nI (w))), (2, .int (nI (16 - tm))), (3, .int (zkc w)), (4, .int (nI (zrl nb)))]) hx hb dX6_readOne_208 hl (k := 5) rfl (z_inc1 _) (by decide) rfl (fun ls hl => ?_)
                    refine lv_goto (tgt := 181) hx hb dX6_readOne_211 (by decide) ?_
                    have hl9 := lv_sub hl [1, 2, 3, 4, 5, 0] (l' := [(0, .ref (am 0)), (1, .int (nI (w))), (2, .int (nI (16 - tm))), (3, .int (zkc w)), (4, .int (nI (zrl nb))), (5, .int (nI (i + 1)))]) rfl
                    have e9_5 : (i + 1) = ((i + 1)) := by omega
                    exact ih181 (i + 1) (by omega) (by omega) _ _ hS hz (by rw [← zrn_s]; exact ⟨h_56, k_58, k_59, k_60, k_61, k_62, k_63⟩) ls (by rw [← e9_5]; exact hl9)
              exact L181 ((zrl nb - (0)) + 1) (0) (Nat.lt_succ_self _) (Nat.zero_le _) _ _ hS hz (by rw [zrn_0]; exact ⟨h0, h1, h2, h3, h4, h5, h6⟩) ls (lv_sub hl [4, 5, 3, 2, 1, 0] rfl)
            · have hk : zpk ((tm, nb, f) : zPs) w = false := (zpk_r hdg).trans (by first | exact zrk_n1 hzk | exact zrk_n2 (by show ¬ (nb ≠ 1 ∧ tm + zrl nb ≤ 16); omega))
              refine lv_iconst (v := nI (0)) hx hb dX6_readOne_176 (by decide) ?_
              exact hret _ _ _ _ _ hS (hz) dX6_readOne_177 (by first | exact Or.inl rfl | exact Or.inr rfl) (zrf hk) (by rw [zps_n hk]; exact ⟨_, ⟨h0, h1, h2, h3, h4, h5, h6⟩, htd⟩)
    · have hzk : zin (zkc w) 0 5 = true := by rw [show w = 45 by omega]; rfl
      have hn9 : ¬ zkc w = -6 := by rw [show w = 45 by omega]; decide
      refine lv_iconst (v := nI (0)) hx hb dX6_readOne_112 (by decide) ?_
      refine z_top (y := (zkc w)) (by rw [show w = 45 by omega]; rfl) ?_
      refine lv_goto (tgt := 138) hx hb dX6_readOne_113 (by decide) ?_
      refine lv_istore_n (lv' := [(3, .int (zkc w)), (2, .int (nI (16 - tm))), (0, .ref (am 0)), (1, .int (nI (w)))]) hx hb dX6_readOne_138 rfl hl (by decide) rfl (fun ls hl => ?_)
      refine lv_aload_n hx hb dX6_readOne_139 rfl (lv_at hl 2 rfl) ?_
      refine z_get (ref := RX6) (C := RX6) (T := TX6) (N := 11) hx hb hts hin6 hown hG h0 rfl 10 (by decide) (by decide +kernel) rfl rfl dX6_readOne_140 ?_
      refine z_fne (tgt := 150) hx hb dX6_readOne_143 (by decide) (by omega) (fun c_64 => ?_) (fun c_64 => ?_)
      · refine lv_aload_n hx hb dX6_readOne_150 rfl (lv_at hl 2 rfl) ?_
        refine z_get (ref := RX6) (C := RX6) (T := TX6) (N := 11) hx hb hts hin6 hown hG h0 rfl 10 (by decide) (by decide +kernel) rfl rfl dX6_readOne_151 ?_
        refine z_top (y := nI (zrl nb)) (by first | exact zrl_2 (by omega) | exact (zrl_2 (by omega)).symm) ?_
        refine lv_istore (lv' := [(4, .int (nI (zrl nb))), (3, .int (zkc w)), (2, .int (nI (16 - tm))), (0, .ref (am 0)), (1, .int (nI (w)))]) hx hb dX6_readOne_154 hl (by decide) rfl (fun ls hl => ?_)
        refine lv_iload_n hx hb dX6_readOne_156 rfl (lv_at hl 1 rfl) ?_
        refine lv_bipush (v := (-6)) hx hb dX6_readOne_157 (by decide) ?_
        refine lv_icmp_eq (tgt := 176) hx hb dX6_readOne_159 (by decide) (fun c_65 => by exfalso; exact hn9 c_65) (fun c_65 => ?_)
        refine lv_aload_n hx hb dX6_readOne_162 rfl (lv_at hl 3 rfl) ?_
        refine z_get (ref := RX6) (C := RX6) (T := TX6) (N := 11) hx hb hts hin6 hown hG h0 rfl 10 (by decide) (by decide +kernel) rfl rfl dX6_readOne_163 ?_
        refine lv_iconst (v := nI (1)) hx hb dX6_readOne_166 (by decide) ?_
        refine z_ceq (tgt := 176) hx hb dX6_readOne_167 (by decide) ⟨by omega, by omega⟩ (fun c_66 => ?_) (fun c_66 => ?_)
        · have hk : zpk ((tm, nb, f) : zPs) w = false := (zpk_r hdg).trans (by first | exact zrk_n1 hzk | exact zrk_n2 (by show ¬ (nb ≠ 1 ∧ tm + zrl nb ≤ 16); omega))
          refine lv_iconst (v := nI (0)) hx hb dX6_readOne_176 (by decide) ?_
          exact hret _ _ _ _ _ hS (hz) dX6_readOne_177 (by first | exact Or.inl rfl | exact Or.inr rfl) (zrf hk) (by rw [zps_n hk]; exact ⟨_, ⟨h0, h1, h2, h3, h4, h5, h6⟩, htd⟩)
        · refine lv_iload hx hb dX6_readOne_170 (lv_at hl 0 rfl) ?_
          refine lv_iload_n hx hb dX6_readOne_172 rfl (lv_at hl 2 rfl) ?_
          refine z_cle (tgt := 178) hx hb dX6_readOne_173 (by decide) ⟨by omega, by omega⟩ (fun c_67 => ?_) (fun c_67 => ?_)
          · have hk : zpk ((tm, nb, f) : zPs) w = true := (zpk_r hdg).trans (zrk_y hzk ⟨by show nb ≠ 1; omega, by show tm + zrl nb ≤ 16; omega⟩)
            refine lv_iconst (v := nI (0)) hx hb dX6_readOne_178 (by decide) ?_
            refine lv_istore (lv' := [(5, .int (nI (0))), (4, .int (nI (zrl nb))), (3, .int (zkc w)), (2, .int (nI (16 - tm))), (0, .ref (am 0)), (1, .int (nI (w)))]) hx hb dX6_readOne_179 hl (by decide) rfl (fun ls hl => ?_)
            have L181 : ∀ (dd : Nat) (i : Nat), zrl nb - i < dd → (i ≤ zrl nb) → ∀ (Hn : Heap) (locs : List Loc) (hS : va_S (zAM am) H Hn locs) (hz : Hn.size = H.size) (hX : zMX E am z past ct kept an buf ln rg (zrn td tm i (zkc w)) (tm + i) nb Hn) (ls : Array Slot), lv_has ls 6 [(0, .ref (am 0)), (1, .int (nI (w))), (2, .int (nI (16 - tm))), (3, .int (zkc w)), (4, .int (nI (zrl nb))), (5, .int (nI (i)))] → W p (zl E) e (zRm 1 22) s m args below meth c Hn locs 0 0 Q (F0 m 181 ls []) := by
              intro dd
              induction dd with
              | zero => intro i hdd; exact absurd hdd (Nat.not_lt_zero _)
              | succ dd ih181 =>
                intro i hdd181 hi Hn locs hS hz hX ls hl
                obtain ⟨h0, h1, h2, h3, h4, h5, h6⟩ := hX
                refine lv_iload hx hb dX6_readOne_181 (lv_at hl 5 rfl) ?_
                refine lv_iload hx hb dX6_readOne_183 (lv_at hl 4 rfl) ?_
                refine z_cge (tgt := 214) hx hb dX6_readOne_185 (by decide) ⟨by omega, by omega⟩ (fun c_68 => ?_) (fun c_68 => ?_)
                · obtain rfl : i = zrl nb := by omega
                  refine lv_aload_n hx hb dX6_readOne_214 rfl (lv_at hl 0 rfl) ?_
                  refine lv_iconst (v := nI (0)) hx hb dX6_readOne_215 (by decide) ?_
                  refine z_put (ref := RX6) (C := RX6) (T := TX6) (N := 11) hx hb hts hin6 tyX6_ok nmX6 hown hG h0 rfl 10 (by decide) (by decide +kernel) rfl rfl rfl rfl (Nat.le_of_ble_eq_true rfl) hS (⟨0, by decide, rfl⟩) dX6_readOne_216 (fun Hn locs h_69 o_70 hS => ?_)
                  have k_71 := va_at.kept h1 (o_70.2 _ (hinj.ne (by decide) (by decide) (by decide)))
                  have k_72 := va_at.kept h2 (o_70.2 _ (hinj.ne (by decide) (by decide) (by decide)))
                  have k_73 := va_at.kept h3 (o_70.2 _ (hinj.ne (by decide) (by decide) (by decide)))
                  have k_74 := va_at.kept h4 (o_70.2 _ (hinj.ne (by decide) (by decide) (by decide)))
                  have k_75 := va_at.kept h5 (o_70.2 _ (hinj.ne (by decide) (by decide) (by decide)))
                  have k_76 := va_at.kept h6 (o_70.2 _ (hinj.ne (by decide) (by decide) (by decide)))
                  have hz : Hn.size = H.size := o_70.1.trans hz
                  refine lv_iconst (v := nI (1)) hx hb dX6_readOne_219 (by decide) ?_
                  exact hret _ _ _ _ _ hS (hz) dX6_readOne_220 (by first | exact Or.inl rfl | exact Or.inr rfl) (zrt hk) (by rw [show zps ((tm, nb, f) : zPs) w = (tm + zrl nb, 0, zrn f tm (zrl nb) (zkc w)) from zps_r hdg (by rw [← zpk_r hdg]; exact hk)]; exact ⟨_, ⟨h_69, k_71, k_72, k_73, k_74, k_75, k_76⟩, zrn_e htd⟩)
                · refine lv_aload_n hx hb dX6_readOne_188 rfl (lv_at hl 0 rfl) ?_
                  refine z_get (ref := RX6) (C := RX6) (T := TX6) (N := 11) hx hb hts hin6 hown hG h0 rfl 8 (by decide) (by decide +kernel) rfl rfl dX6_readOne_189 ?_
                  refine lv_aload_n hx hb dX6_readOne_192 rfl (lv_at hl 0 rfl) ?_
                  refine z_get (ref := RX6) (C := RX6) (T := TX6) (N := 11) hx hb hts hin6 hown hG h0 rfl 9 (by decide) (by decide +kernel) rfl rfl dX6_readOne_193 ?_
                  refine lv_iload_n hx hb dX6_readOne_196 rfl (lv_at hl 3 rfl) ?_
                  refine z_iast (j := (tm + i)) hx hb hG h6 ⟨by omega, by omega⟩ hS (⟨6, by decide, rfl⟩) dX6_readOne_197 (fun Hn locs h_77 o_78 hS => ?_)
                  have k_79 := va_at.kept h0 (o_78.2 _ (hinj.ne (by decide) (by decide) (by decide)))
                  have k_80 := va_at.kept h1 (o_78.2 _ (hinj.ne (by decide) (by decide) (by decide)))
                  have k_81 := va_at.kept h2 (o_78.2 _ (hinj.ne (by decide) (by decide) (by decide)))
                  have k_82 := va_at.kept h3 (o_78.2 _ (hinj.ne (by decide) (by decide) (by decide)))
                  have k_83 := va_at.kept h4 (o_78.2 _ (hinj.ne (by decide) (by decide) (by decide)))
                  have k_84 := va_at.kept h5 (o_78.2 _ (hinj.ne (by decide) (by decide) (by decide)))
                  have hz : Hn.size = H.size := o_78.1.trans hz
                  refine lv_aload_n hx hb dX6_readOne_198 rfl (lv_at hl 0 rfl) ?_
                  refine lv_dup hx hb dX6_readOne_199 rfl ?_
                  refine z_get (ref := RX6) (C := RX6) (T := TX6) (N := 11) hx hb hts hin6 hown hG k_79 rfl 9 (by decide) (by decide +kernel) rfl rfl dX6_readOne_200 ?_
                  refine lv_iconst (v := nI (1)) hx hb dX6_readOne_203 (by decide) ?_
                  refine z_iadd hx hb dX6_readOne_204 ?_
                  refine z_put (ref := RX6) (C := RX6) (T := TX6) (N := 11) hx hb hts hin6 tyX6_ok nmX6 hown hG k_79 rfl 9 (by decide) (by decide +kernel) rfl rfl rfl rfl (Nat.le_of_ble_eq_true rfl) hS (⟨0, by decide, rfl⟩) dX6_readOne_205 (fun Hn locs h_85 o_86 hS => ?_)
                  have k_87 := va_at.kept k_80 (o_86.2 _ (hinj.ne (by decide) (by decide) (by decide)))
                  have k_88 := va_at.kept k_81 (o_86.2 _ (hinj.ne (by decide) (by decide) (by decide)))
                  have k_89 := va_at.kept k_82 (o_86.2 _ (hinj.ne (by decide) (by decide) (by decide)))
                  have k_90 := va_at.kept k_83 (o_86.2 _ (hinj.ne (by decide) (by decide) (by decide)))
                  have k_91 := va_at.kept k_84 (o_86.2 _ (hinj.ne (by decide) (by decide) (by decide)))
                  have k_92 := va_at.kept h_77 (o_86.2 _ (hinj.ne (by decide) (by decide) (by decide)))
                  have hz : Hn.size = H.size := o_86.1.trans hz
                  refine lv_iinc (v := nI (i + 1)) (lv' := [(5, .int (nI (i + 1))), (0, .ref (am 0)), (1, .int (nI (w))), (2, .int (nI (16 - tm))), (3, .int (zkc w)), (4, .int (nI (zrl nb)))]) hx hb dX6_readOne_208 hl (k := 5) rfl (z_inc1 _) (by decide) rfl (fun ls hl => ?_)
                  refine lv_goto (tgt := 181) hx hb dX6_readOne_211 (by decide) ?_
                  have hl9 := lv_sub hl [1, 2, 3, 4, 5, 0] (l' := [(0, .ref (am 0)), (1, .int (nI (w))), (2, .int (nI (16 - tm))), (3, .int (zkc w)), (4, .int (nI (zrl nb))), (5, .int (nI (i + 1)))]) rfl
                  have e9_5 : (i + 1) = ((i + 1)) := by omega
                  exact ih181 (i + 1) (by omega) (by omega) _ _ hS hz (by rw [← zrn_s]; exact ⟨h_85, k_87, k_88, k_89, k_90, k_91, k_92⟩) ls (by rw [← e9_5]; exact hl9)
            exact L181 ((zrl nb - (0)) + 1) (0) (Nat.lt_succ_self _) (Nat.zero_le _) _ _ hS hz (by rw [zrn_0]; exact ⟨h0, h1, h2, h3, h4, h5, h6⟩) ls (lv_sub hl [4, 5, 3, 2, 1, 0] rfl)
          · have hk : zpk ((tm, nb, f) : zPs) w = false := (zpk_r hdg).trans (by first | exact zrk_n1 hzk | exact zrk_n2 (by show ¬ (nb ≠ 1 ∧ tm + zrl nb ≤ 16); omega))
            refine lv_iconst (v := nI (0)) hx hb dX6_readOne_176 (by decide) ?_
            exact hret _ _ _ _ _ hS (hz) dX6_readOne_177 (by first | exact Or.inl rfl | exact Or.inr rfl) (zrf hk) (by rw [zps_n hk]; exact ⟨_, ⟨h0, h1, h2, h3, h4, h5, h6⟩, htd⟩)
      · refine lv_iconst (v := nI (1)) hx hb dX6_readOne_146 (by decide) ?_
        refine z_top (y := nI (zrl nb)) (by first | exact zrl_1 (by omega) | exact (zrl_1 (by omega)).symm) ?_
        refine lv_goto (tgt := 154) hx hb dX6_readOne_147 (by decide) ?_
        refine lv_istore (lv' := [(4, .int (nI (zrl nb))), (3, .int (zkc w)), (2, .int (nI (16 - tm))), (0, .ref (am 0)), (1, .int (nI (w)))]) hx hb dX6_readOne_154 hl (by decide) rfl (fun ls hl => ?_)
        refine lv_iload_n hx hb dX6_readOne_156 rfl (lv_at hl 1 rfl) ?_
        refine lv_bipush (v := (-6)) hx hb dX6_readOne_157 (by decide) ?_
        refine lv_icmp_eq (tgt := 176) hx hb dX6_readOne_159 (by decide) (fun c_93 => by exfalso; exact hn9 c_93) (fun c_93 => ?_)
        refine lv_aload_n hx hb dX6_readOne_162 rfl (lv_at hl 3 rfl) ?_
        refine z_get (ref := RX6) (C := RX6) (T := TX6) (N := 11) hx hb hts hin6 hown hG h0 rfl 10 (by decide) (by decide +kernel) rfl rfl dX6_readOne_163 ?_
        refine lv_iconst (v := nI (1)) hx hb dX6_readOne_166 (by decide) ?_
        refine z_ceq (tgt := 176) hx hb dX6_readOne_167 (by decide) ⟨by omega, by omega⟩ (fun c_94 => ?_) (fun c_94 => ?_)
        · have hk : zpk ((tm, nb, f) : zPs) w = false := (zpk_r hdg).trans (by first | exact zrk_n1 hzk | exact zrk_n2 (by show ¬ (nb ≠ 1 ∧ tm + zrl nb ≤ 16); omega))
          refine lv_iconst (v := nI (0)) hx hb dX6_readOne_176 (by decide) ?_
          exact hret _ _ _ _ _ hS (hz) dX6_readOne_177 (by first | exact Or.inl rfl | exact Or.inr rfl) (zrf hk) (by rw [zps_n hk]; exact ⟨_, ⟨h0, h1, h2, h3, h4, h5, h6⟩, htd⟩)
        · refine lv_iload hx hb dX6_readOne_170 (lv_at hl 0 rfl) ?_
          refine lv_iload_n hx hb dX6_readOne_172 rfl (lv_at hl 2 rfl) ?_
          refine z_cle (tgt := 178) hx hb dX6_readOne_173 (by decide) ⟨by omega, by omega⟩ (fun c_95 => ?_) (fun c_95 => ?_)
          · have hk : zpk ((tm, nb, f) : zPs) w = true := (zpk_r hdg).trans (zrk_y hzk ⟨by show nb ≠ 1; omega, by show tm + zrl nb ≤ 16; omega⟩)
            refine lv_iconst (v := nI (0)) hx hb dX6_readOne_178 (by decide) ?_
            refine lv_istore (lv' := [(5, .int (nI (0))), (4, .int (nI (zrl nb))), (3, .int (zkc w)), (2, .int (nI (16 - tm))), (0, .ref (am 0)), (1, .int (nI (w)))]) hx hb dX6_readOne_179 hl (by decide) rfl (fun ls hl => ?_)
            have L181 : ∀ (dd : Nat) (i : Nat), zrl nb - i < dd → (i ≤ zrl nb) → ∀ (Hn : Heap) (locs : List Loc) (hS : va_S (zAM am) H Hn locs) (hz : Hn.size = H.size) (hX : zMX E am z past ct kept an buf ln rg (zrn td tm i (zkc w)) (tm + i) nb Hn) (ls : Array Slot), lv_has ls 6 [(0, .ref (am 0)), (1, .int (nI (w))), (2, .int (nI (16 - tm))), (3, .int (zkc w)), (4, .int (nI (zrl nb))), (5, .int (nI (i)))] → W p (zl E) e (zRm 1 22) s m args below meth c Hn locs 0 0 Q (F0 m 181 ls []) := by
              intro dd
              induction dd with
              | zero => intro i hdd; exact absurd hdd (Nat.not_lt_zero _)
              | succ dd ih181 =>
                intro i hdd181 hi Hn locs hS hz hX ls hl
                obtain ⟨h0, h1, h2, h3, h4, h5, h6⟩ := hX
                refine lv_iload hx hb dX6_readOne_181 (lv_at hl 5 rfl) ?_
                refine lv_iload hx hb dX6_readOne_183 (lv_at hl 4 rfl) ?_
                refine z_cge (tgt := 214) hx hb dX6_readOne_185 (by decide) ⟨by omega, by omega⟩ (fun c_96 => ?_) (fun c_96 => ?_)
                · obtain rfl : i = zrl nb := by omega
                  refine lv_aload_n hx hb dX6_readOne_214 rfl (lv_at hl 0 rfl) ?_
                  refine lv_iconst (v := nI (0)) hx hb dX6_readOne_215 (by decide) ?_
                  refine z_put (ref := RX6) (C := RX6) (T := TX6) (N := 11) hx hb hts hin6 tyX6_ok nmX6 hown hG h0 rfl 10 (by decide) (by decide +kernel) rfl rfl rfl rfl (Nat.le_of_ble_eq_true rfl) hS (⟨0, by decide, rfl⟩) dX6_readOne_216 (fun Hn locs h_97 o_98 hS => ?_)
                  have k_99 := va_at.kept h1 (o_98.2 _ (hinj.ne (by decide) (by decide) (by decide)))
                  have k_100 := va_at.kept h2 (o_98.2 _ (hinj.ne (by decide) (by decide) (by decide)))
                  have k_101 := va_at.kept h3 (o_98.2 _ (hinj.ne (by decide) (by decide) (by decide)))
                  have k_102 := va_at.kept h4 (o_98.2 _ (hinj.ne (by decide) (by decide) (by decide)))
                  have k_103 := va_at.kept h5 (o_98.2 _ (hinj.ne (by decide) (by decide) (by decide)))
                  have k_104 := va_at.kept h6 (o_98.2 _ (hinj.ne (by decide) (by decide) (by decide)))
                  have hz : Hn.size = H.size := o_98.1.trans hz
                  refine lv_iconst (v := nI (1)) hx hb dX6_readOne_219 (by decide) ?_
                  exact hret _ _ _ _ _ hS (hz) dX6_readOne_220 (by first | exact Or.inl rfl | exact Or.inr rfl) (zrt hk) (by rw [show zps ((tm, nb, f) : zPs) w = (tm + zrl nb, 0, zrn f tm (zrl nb) (zkc w)) from zps_r hdg (by rw [← zpk_r hdg]; exact hk)]; exact ⟨_, ⟨h_97, k_99, k_100, k_101, k_102, k_103, k_104⟩, zrn_e htd⟩)
                · refine lv_aload_n hx hb dX6_readOne_188 rfl (lv_at hl 0 rfl) ?_
                  refine z_get (ref := RX6) (C := RX6) (T := TX6) (N := 11) hx hb hts hin6 hown hG h0 rfl 8 (by decide) (by decide +kernel) rfl rfl dX6_readOne_189 ?_
                  refine lv_aload_n hx hb dX6_readOne_192 rfl (lv_at hl 0 rfl) ?_
                  refine z_get (ref := RX6) (C := RX6) (T := TX6) (N := 11) hx hb hts hin6 hown hG h0 rfl 9 (by decide) (by decide +kernel) rfl rfl dX6_readOne_193 ?_
                  refine lv_iload_n hx hb dX6_readOne_196 rfl (lv_at hl 3 rfl) ?_
                  refine z_iast (j := (tm + i)) hx hb hG h6 ⟨by omega, by omega⟩ hS (⟨6, by decide, rfl⟩) dX6_readOne_197 (fun Hn locs h_105 o_106 hS => ?_)
                  have k_107 := va_at.kept h0 (o_106.2 _ (hinj.ne (by decide) (by decide) (by decide)))
                  have k_108 := va_at.kept h1 (o_106.2 _ (hinj.ne (by decide) (by decide) (by decide)))
                  have k_109 := va_at.kept h2 (o_106.2 _ (hinj.ne (by decide) (by decide) (by decide)))
                  have k_110 := va_at.kept h3 (o_106.2 _ (hinj.ne (by decide) (by decide) (by decide)))
                  have k_111 := va_at.kept h4 (o_106.2 _ (hinj.ne (by decide) (by decide) (by decide)))
                  have k_112 := va_at.kept h5 (o_106.2 _ (hinj.ne (by decide) (by decide) (by decide)))
                  have hz : Hn.size = H.size := o_106.1.trans hz
                  refine lv_aload_n hx hb dX6_readOne_198 rfl (lv_at hl 0 rfl) ?_
                  refine lv_dup hx hb dX6_readOne_199 rfl ?_
                  refine z_get (ref := RX6) (C := RX6) (T := TX6) (N := 11) hx hb hts hin6 hown hG k_107 rfl 9 (by decide) (by decide +kernel) rfl rfl dX6_readOne_200 ?_
                  refine lv_iconst (v := nI (1)) hx hb dX6_readOne_203 (by decide) ?_
                  refine z_iadd hx hb dX6_readOne_204 ?_
                  refine z_put (ref := RX6) (C := RX6) (T := TX6) (N := 11) hx hb hts hin6 tyX6_ok nmX6 hown hG k_107 rfl 9 (by decide) (by decide +kernel) rfl rfl rfl rfl (Nat.le_of_ble_eq_true rfl) hS (⟨0, by decide, rfl⟩) dX6_readOne_205 (fun Hn locs h_113 o_114 hS => ?_)
                  have k_115 := va_at.kept k_108 (o_114.2 _ (hinj.ne (by decide) (by decide) (by decide)))
                  have k_116 := va_at.kept k_109 (o_114.2 _ (hinj.ne (by decide) (by decide) (by decide)))
                  have k_117 := va_at.kept k_110 (o_114.2 _ (hinj.ne (by decide) (by decide) (by decide)))
                  have k_118 := va_at.kept k_111 (o_114.2 _ (hinj.ne (by decide) (by decide) (by decide)))
                  have k_119 := va_at.kept k_112 (o_114.2 _ (hinj.ne (by decide) (by decide) (by decide)))
                  have k_120 := va_at.kept h_105 (o_114.2 _ (hinj.ne (by decide) (by decide) (by decide)))
                  have hz : Hn.size = H.size := o_114.1.trans hz
                  refine lv_iinc (v := nI (i + 1)) (lv' := [(5, .int (nI (i + 1))), (0, .ref (am 0)), (1, .int (nI (w))), (2, .int (nI (16 - tm))), (3, .int (zkc w)), (4, .int (nI (zrl nb)))]) hx hb dX6_readOne_208 hl (k := 5) rfl (z_inc1 _) (by decide) rfl (fun ls hl => ?_)
                  refine lv_goto (tgt := 181) hx hb dX6_readOne_211 (by decide) ?_
                  have hl9 := lv_sub hl [1, 2, 3, 4, 5, 0] (l' := [(0, .ref (am 0)), (1, .int (nI (w))), (2, .int (nI (16 - tm))), (3, .int (zkc w)), (4, .int (nI (zrl nb))), (5, .int (nI (i + 1)))]) rfl
                  have e9_5 : (i + 1) = ((i + 1)) := by omega
                  exact ih181 (i + 1) (by omega) (by omega) _ _ hS hz (by rw [← zrn_s]; exact ⟨h_113, k_115, k_116, k_117, k_118, k_119, k_120⟩) ls (by rw [← e9_5]; exact hl9)
            exact L181 ((zrl nb - (0)) + 1) (0) (Nat.lt_succ_self _) (Nat.zero_le _) _ _ hS hz (by rw [zrn_0]; exact ⟨h0, h1, h2, h3, h4, h5, h6⟩) ls (lv_sub hl [4, 5, 3, 2, 1, 0] rfl)
          · have hk : zpk ((tm, nb, f) : zPs) w = false := (zpk_r hdg).trans (by first | exact zrk_n1 hzk | exact zrk_n2 (by show ¬ (nb ≠ 1 ∧ tm + zrl nb ≤ 16); omega))
            refine lv_iconst (v := nI (0)) hx hb dX6_readOne_176 (by decide) ?_
            exact hret _ _ _ _ _ hS (hz) dX6_readOne_177 (by first | exact Or.inl rfl | exact Or.inr rfl) (zrf hk) (by rw [zps_n hk]; exact ⟨_, ⟨h0, h1, h2, h3, h4, h5, h6⟩, htd⟩)
  · have hdg : zdg w = true := c_1
    have hdb := zdg_b hdg
    refine lv_bipush (v := nI (10)) hx hb dX6_readOne_19 (by decide) ?_
    refine lv_aload_n hx hb dX6_readOne_21 rfl (lv_at hl 1 rfl) ?_
    refine z_get (ref := RX6) (C := RX6) (T := TX6) (N := 11) hx hb hts hin6 hown hG h0 rfl 10 (by decide) (by decide +kernel) rfl rfl dX6_readOne_22 ?_
    refine z_imul hx hb dX6_readOne_25 ?_
    refine lv_iload_n hx hb dX6_readOne_26 rfl (lv_at hl 2 rfl) ?_
    refine z_iadd hx hb dX6_readOne_27 ?_
    refine lv_bipush (v := nI (48)) hx hb dX6_readOne_28 (by decide) ?_
    refine z_isub hx hb dX6_readOne_30 (by omega) ?_
    refine z_top (y := nI (10 * nb + (w - 48))) (by rw [show 10 * nb + w - 48 = 10 * nb + (w - 48) by omega]) ?_
    refine lv_istore_n (lv' := [(3, .int (nI (10 * nb + (w - 48)))), (2, .int (nI (16 - tm))), (0, .ref (am 0)), (1, .int (nI (w)))]) hx hb dX6_readOne_31 rfl hl (by decide) rfl (fun ls hl => ?_)
    refine lv_aload_n hx hb dX6_readOne_32 rfl (lv_at hl 2 rfl) ?_
    refine z_get (ref := RX6) (C := RX6) (T := TX6) (N := 11) hx hb hts hin6 hown hG h0 rfl 10 (by decide) (by decide +kernel) rfl rfl dX6_readOne_33 ?_
    refine z_fne (tgt := 66) hx hb dX6_readOne_36 (by decide) (by omega) (fun c_121 => ?_) (fun c_121 => ?_)
    · refine lv_aload_n hx hb dX6_readOne_66 rfl (lv_at hl 2 rfl) ?_
      refine z_get (ref := RX6) (C := RX6) (T := TX6) (N := 11) hx hb hts hin6 hown hG h0 rfl 10 (by decide) (by decide +kernel) rfl rfl dX6_readOne_67 ?_
      refine lv_iconst (v := nI (1)) hx hb dX6_readOne_70 (by decide) ?_
      refine z_cne (tgt := 83) hx hb dX6_readOne_71 (by decide) ⟨by omega, by omega⟩ (fun c_122 => ?_) (fun c_122 => ?_)
      · refine lv_iconst (v := nI (0)) hx hb dX6_readOne_83 (by decide) ?_
        have hk : zpk ((tm, nb, f) : zPs) w = false := (zpk_d hdg).trans (decide_eq_false (fun q9 => by have q8 : 10 * nb + (w - 48) ≠ 0 := q9.1; have q7 : tm + (if 10 * nb + (w - 48) = 1 then 10 else 10 * nb + (w - 48)) ≤ 16 := q9.2; split at q7 <;> omega))
        refine lv_istore (lv' := [(4, .int (nI (0))), (3, .int (nI (10 * nb + (w - 48)))), (2, .int (nI (16 - tm))), (0, .ref (am 0)), (1, .int (nI (w)))]) hx hb dX6_readOne_84 hl (by decide) rfl (fun ls hl => ?_)
        refine lv_aload_n hx hb dX6_readOne_86 rfl (lv_at hl 3 rfl) ?_
        refine lv_iload hx hb dX6_readOne_87 (lv_at hl 0 rfl) ?_
        refine z_feq (tgt := 96) hx hb dX6_readOne_89 (by decide) (by omega) (fun c_123 => ?_) (fun c_123 => by exfalso; omega)
        refine lv_aload_n hx hb dX6_readOne_96 rfl (lv_at hl 3 rfl) ?_
        refine z_get (ref := RX6) (C := RX6) (T := TX6) (N := 11) hx hb hts hin6 hown hG h0 rfl 10 (by decide) (by decide +kernel) rfl rfl dX6_readOne_97 ?_
        refine z_put (ref := RX6) (C := RX6) (T := TX6) (N := 11) hx hb hts hin6 tyX6_ok nmX6 hown hG h0 rfl 10 (by decide) (by decide +kernel) rfl rfl rfl rfl (Nat.le_of_ble_eq_true rfl) hS (⟨0, by decide, rfl⟩) dX6_readOne_100 (fun Hn locs h_124 o_125 hS => ?_)
        have k_126 := va_at.kept h1 (o_125.2 _ (hinj.ne (by decide) (by decide) (by decide)))
        have k_127 := va_at.kept h2 (o_125.2 _ (hinj.ne (by decide) (by decide) (by decide)))
        have k_128 := va_at.kept h3 (o_125.2 _ (hinj.ne (by decide) (by decide) (by decide)))
        have k_129 := va_at.kept h4 (o_125.2 _ (hinj.ne (by decide) (by decide) (by decide)))
        have k_130 := va_at.kept h5 (o_125.2 _ (hinj.ne (by decide) (by decide) (by decide)))
        have k_131 := va_at.kept h6 (o_125.2 _ (hinj.ne (by decide) (by decide) (by decide)))
        have hz : Hn.size = H.size := o_125.1.trans hz
        refine lv_iload hx hb dX6_readOne_103 (lv_at hl 0 rfl) ?_
        exact hret _ _ _ _ _ hS (hz) dX6_readOne_105 (by first | exact Or.inl rfl | exact Or.inr rfl) (zrf hk) (by rw [zps_n hk]; exact ⟨_, ⟨h_124, k_126, k_127, k_128, k_129, k_130, k_131⟩, htd⟩)
      · refine lv_iload_n hx hb dX6_readOne_74 rfl (lv_at hl 0 rfl) ?_
        refine lv_iload_n hx hb dX6_readOne_75 rfl (lv_at hl 1 rfl) ?_
        refine z_cgt (tgt := 83) hx hb dX6_readOne_76 (by decide) ⟨by omega, by omega⟩ (fun c_132 => ?_) (fun c_132 => ?_)
        · refine lv_iconst (v := nI (0)) hx hb dX6_readOne_83 (by decide) ?_
          have hk : zpk ((tm, nb, f) : zPs) w = false := (zpk_d hdg).trans (decide_eq_false (fun q9 => by have q8 : 10 * nb + (w - 48) ≠ 0 := q9.1; have q7 : tm + (if 10 * nb + (w - 48) = 1 then 10 else 10 * nb + (w - 48)) ≤ 16 := q9.2; split at q7 <;> omega))
          refine lv_istore (lv' := [(4, .int (nI (0))), (3, .int (nI (10 * nb + (w - 48)))), (2, .int (nI (16 - tm))), (0, .ref (am 0)), (1, .int (nI (w)))]) hx hb dX6_readOne_84 hl (by decide) rfl (fun ls hl => ?_)
          refine lv_aload_n hx hb dX6_readOne_86 rfl (lv_at hl 3 rfl) ?_
          refine lv_iload hx hb dX6_readOne_87 (lv_at hl 0 rfl) ?_
          refine z_feq (tgt := 96) hx hb dX6_readOne_89 (by decide) (by omega) (fun c_133 => ?_) (fun c_133 => by exfalso; omega)
          refine lv_aload_n hx hb dX6_readOne_96 rfl (lv_at hl 3 rfl) ?_
          refine z_get (ref := RX6) (C := RX6) (T := TX6) (N := 11) hx hb hts hin6 hown hG h0 rfl 10 (by decide) (by decide +kernel) rfl rfl dX6_readOne_97 ?_
          refine z_put (ref := RX6) (C := RX6) (T := TX6) (N := 11) hx hb hts hin6 tyX6_ok nmX6 hown hG h0 rfl 10 (by decide) (by decide +kernel) rfl rfl rfl rfl (Nat.le_of_ble_eq_true rfl) hS (⟨0, by decide, rfl⟩) dX6_readOne_100 (fun Hn locs h_134 o_135 hS => ?_)
          have k_136 := va_at.kept h1 (o_135.2 _ (hinj.ne (by decide) (by decide) (by decide)))
          have k_137 := va_at.kept h2 (o_135.2 _ (hinj.ne (by decide) (by decide) (by decide)))
          have k_138 := va_at.kept h3 (o_135.2 _ (hinj.ne (by decide) (by decide) (by decide)))
          have k_139 := va_at.kept h4 (o_135.2 _ (hinj.ne (by decide) (by decide) (by decide)))
          have k_140 := va_at.kept h5 (o_135.2 _ (hinj.ne (by decide) (by decide) (by decide)))
          have k_141 := va_at.kept h6 (o_135.2 _ (hinj.ne (by decide) (by decide) (by decide)))
          have hz : Hn.size = H.size := o_135.1.trans hz
          refine lv_iload hx hb dX6_readOne_103 (lv_at hl 0 rfl) ?_
          exact hret _ _ _ _ _ hS (hz) dX6_readOne_105 (by first | exact Or.inl rfl | exact Or.inr rfl) (zrf hk) (by rw [zps_n hk]; exact ⟨_, ⟨h_134, k_136, k_137, k_138, k_139, k_140, k_141⟩, htd⟩)
        · refine lv_iconst (v := nI (1)) hx hb dX6_readOne_79 (by decide) ?_
          refine lv_goto (tgt := 84) hx hb dX6_readOne_80 (by decide) ?_
          have hk : zpk ((tm, nb, f) : zPs) w = true := (zpk_d hdg).trans (decide_eq_true ⟨by show 10 * nb + (w - 48) ≠ 0; omega, by show tm + (if 10 * nb + (w - 48) = 1 then 10 else 10 * nb + (w - 48)) ≤ 16; split <;> omega⟩)
          refine lv_istore (lv' := [(4, .int (nI (1))), (3, .int (nI (10 * nb + (w - 48)))), (2, .int (nI (16 - tm))), (0, .ref (am 0)), (1, .int (nI (w)))]) hx hb dX6_readOne_84 hl (by decide) rfl (fun ls hl => ?_)
          refine lv_aload_n hx hb dX6_readOne_86 rfl (lv_at hl 3 rfl) ?_
          refine lv_iload hx hb dX6_readOne_87 (lv_at hl 0 rfl) ?_
          refine z_feq (tgt := 96) hx hb dX6_readOne_89 (by decide) (by omega) (fun c_142 => by exfalso; omega) (fun c_142 => ?_)
          refine lv_iload_n hx hb dX6_readOne_92 rfl (lv_at hl 1 rfl) ?_
          refine lv_goto (tgt := 100) hx hb dX6_readOne_93 (by decide) ?_
          refine z_put (ref := RX6) (C := RX6) (T := TX6) (N := 11) hx hb hts hin6 tyX6_ok nmX6 hown hG h0 rfl 10 (by decide) (by decide +kernel) rfl rfl rfl rfl (Nat.le_of_ble_eq_true rfl) hS (⟨0, by decide, rfl⟩) dX6_readOne_100 (fun Hn locs h_143 o_144 hS => ?_)
          have k_145 := va_at.kept h1 (o_144.2 _ (hinj.ne (by decide) (by decide) (by decide)))
          have k_146 := va_at.kept h2 (o_144.2 _ (hinj.ne (by decide) (by decide) (by decide)))
          have k_147 := va_at.kept h3 (o_144.2 _ (hinj.ne (by decide) (by decide) (by decide)))
          have k_148 := va_at.kept h4 (o_144.2 _ (hinj.ne (by decide) (by decide) (by decide)))
          have k_149 := va_at.kept h5 (o_144.2 _ (hinj.ne (by decide) (by decide) (by decide)))
          have k_150 := va_at.kept h6 (o_144.2 _ (hinj.ne (by decide) (by decide) (by decide)))
          have hz : Hn.size = H.size := o_144.1.trans hz
          refine lv_iload hx hb dX6_readOne_103 (lv_at hl 0 rfl) ?_
          exact hret _ _ _ _ _ hS (hz) dX6_readOne_105 (by first | exact Or.inl rfl | exact Or.inr rfl) (zrt hk) (by rw [show zps ((tm, nb, f) : zPs) w = (tm, 10 * nb + (w - 48), f) from zps_d hdg (by rw [← zpk_d hdg]; exact hk)]; exact ⟨_, ⟨h_143, k_145, k_146, k_147, k_148, k_149, k_150⟩, htd⟩)
    · refine lv_iload_n hx hb dX6_readOne_39 rfl (lv_at hl 0 rfl) ?_
      refine z_fle (tgt := 62) hx hb dX6_readOne_40 (by decide) (by omega) (fun c_151 => ?_) (fun c_151 => ?_)
      · refine lv_iconst (v := nI (0)) hx hb dX6_readOne_62 (by decide) ?_
        refine lv_goto (tgt := 84) hx hb dX6_readOne_63 (by decide) ?_
        have hk : zpk ((tm, nb, f) : zPs) w = false := (zpk_d hdg).trans (decide_eq_false (fun q9 => by have q8 : 10 * nb + (w - 48) ≠ 0 := q9.1; have q7 : tm + (if 10 * nb + (w - 48) = 1 then 10 else 10 * nb + (w - 48)) ≤ 16 := q9.2; split at q7 <;> omega))
        refine lv_istore (lv' := [(4, .int (nI (0))), (3, .int (nI (10 * nb + (w - 48)))), (2, .int (nI (16 - tm))), (0, .ref (am 0)), (1, .int (nI (w)))]) hx hb dX6_readOne_84 hl (by decide) rfl (fun ls hl => ?_)
        refine lv_aload_n hx hb dX6_readOne_86 rfl (lv_at hl 3 rfl) ?_
        refine lv_iload hx hb dX6_readOne_87 (lv_at hl 0 rfl) ?_
        refine z_feq (tgt := 96) hx hb dX6_readOne_89 (by decide) (by omega) (fun c_152 => ?_) (fun c_152 => by exfalso; omega)
        refine lv_aload_n hx hb dX6_readOne_96 rfl (lv_at hl 3 rfl) ?_
        refine z_get (ref := RX6) (C := RX6) (T := TX6) (N := 11) hx hb hts hin6 hown hG h0 rfl 10 (by decide) (by decide +kernel) rfl rfl dX6_readOne_97 ?_
        refine z_put (ref := RX6) (C := RX6) (T := TX6) (N := 11) hx hb hts hin6 tyX6_ok nmX6 hown hG h0 rfl 10 (by decide) (by decide +kernel) rfl rfl rfl rfl (Nat.le_of_ble_eq_true rfl) hS (⟨0, by decide, rfl⟩) dX6_readOne_100 (fun Hn locs h_153 o_154 hS => ?_)
        have k_155 := va_at.kept h1 (o_154.2 _ (hinj.ne (by decide) (by decide) (by decide)))
        have k_156 := va_at.kept h2 (o_154.2 _ (hinj.ne (by decide) (by decide) (by decide)))
        have k_157 := va_at.kept h3 (o_154.2 _ (hinj.ne (by decide) (by decide) (by decide)))
        have k_158 := va_at.kept h4 (o_154.2 _ (hinj.ne (by decide) (by decide) (by decide)))
        have k_159 := va_at.kept h5 (o_154.2 _ (hinj.ne (by decide) (by decide) (by decide)))
        have k_160 := va_at.kept h6 (o_154.2 _ (hinj.ne (by decide) (by decide) (by decide)))
        have hz : Hn.size = H.size := o_154.1.trans hz
        refine lv_iload hx hb dX6_readOne_103 (lv_at hl 0 rfl) ?_
        exact hret _ _ _ _ _ hS (hz) dX6_readOne_105 (by first | exact Or.inl rfl | exact Or.inr rfl) (zrf hk) (by rw [zps_n hk]; exact ⟨_, ⟨h_153, k_155, k_156, k_157, k_158, k_159, k_160⟩, htd⟩)
      · refine lv_iload_n hx hb dX6_readOne_43 rfl (lv_at hl 0 rfl) ?_
        refine lv_iconst (v := nI (1)) hx hb dX6_readOne_44 (by decide) ?_
        refine z_cne (tgt := 53) hx hb dX6_readOne_45 (by decide) ⟨by omega, by omega⟩ (fun c_161 => ?_) (fun c_161 => ?_)
        · refine lv_iload_n hx hb dX6_readOne_53 rfl (lv_at hl 0 rfl) ?_
          refine lv_iload_n hx hb dX6_readOne_54 rfl (lv_at hl 1 rfl) ?_
          refine z_cgt (tgt := 62) hx hb dX6_readOne_55 (by decide) ⟨by omega, by omega⟩ (fun c_162 => ?_) (fun c_162 => ?_)
          · refine lv_iconst (v := nI (0)) hx hb dX6_readOne_62 (by decide) ?_
            refine lv_goto (tgt := 84) hx hb dX6_readOne_63 (by decide) ?_
            have hk : zpk ((tm, nb, f) : zPs) w = false := (zpk_d hdg).trans (decide_eq_false (fun q9 => by have q8 : 10 * nb + (w - 48) ≠ 0 := q9.1; have q7 : tm + (if 10 * nb + (w - 48) = 1 then 10 else 10 * nb + (w - 48)) ≤ 16 := q9.2; split at q7 <;> omega))
            refine lv_istore (lv' := [(4, .int (nI (0))), (3, .int (nI (10 * nb + (w - 48)))), (2, .int (nI (16 - tm))), (0, .ref (am 0)), (1, .int (nI (w)))]) hx hb dX6_readOne_84 hl (by decide) rfl (fun ls hl => ?_)
            refine lv_aload_n hx hb dX6_readOne_86 rfl (lv_at hl 3 rfl) ?_
            refine lv_iload hx hb dX6_readOne_87 (lv_at hl 0 rfl) ?_
            refine z_feq (tgt := 96) hx hb dX6_readOne_89 (by decide) (by omega) (fun c_163 => ?_) (fun c_163 => by exfalso; omega)
            refine lv_aload_n hx hb dX6_readOne_96 rfl (lv_at hl 3 rfl) ?_
            refine z_get (ref := RX6) (C := RX6) (T := TX6) (N := 11) hx hb hts hin6 hown hG h0 rfl 10 (by decide) (by decide +kernel) rfl rfl dX6_readOne_97 ?_
            refine z_put (ref := RX6) (C := RX6) (T := TX6) (N := 11) hx hb hts hin6 tyX6_ok nmX6 hown hG h0 rfl 10 (by decide) (by decide +kernel) rfl rfl rfl rfl (Nat.le_of_ble_eq_true rfl) hS (⟨0, by decide, rfl⟩) dX6_readOne_100 (fun Hn locs h_164 o_165 hS => ?_)
            have k_166 := va_at.kept h1 (o_165.2 _ (hinj.ne (by decide) (by decide) (by decide)))
            have k_167 := va_at.kept h2 (o_165.2 _ (hinj.ne (by decide) (by decide) (by decide)))
            have k_168 := va_at.kept h3 (o_165.2 _ (hinj.ne (by decide) (by decide) (by decide)))
            have k_169 := va_at.kept h4 (o_165.2 _ (hinj.ne (by decide) (by decide) (by decide)))
            have k_170 := va_at.kept h5 (o_165.2 _ (hinj.ne (by decide) (by decide) (by decide)))
            have k_171 := va_at.kept h6 (o_165.2 _ (hinj.ne (by decide) (by decide) (by decide)))
            have hz : Hn.size = H.size := o_165.1.trans hz
            refine lv_iload hx hb dX6_readOne_103 (lv_at hl 0 rfl) ?_
            exact hret _ _ _ _ _ hS (hz) dX6_readOne_105 (by first | exact Or.inl rfl | exact Or.inr rfl) (zrf hk) (by rw [zps_n hk]; exact ⟨_, ⟨h_164, k_166, k_167, k_168, k_169, k_170, k_171⟩, htd⟩)
          · refine lv_iconst (v := nI (1)) hx hb dX6_readOne_58 (by decide) ?_
            refine lv_goto (tgt := 84) hx hb dX6_readOne_59 (by decide) ?_
            have hk : zpk ((tm, nb, f) : zPs) w = true := (zpk_d hdg).trans (decide_eq_true ⟨by show 10 * nb + (w - 48) ≠ 0; omega, by show tm + (if 10 * nb + (w - 48) = 1 then 10 else 10 * nb + (w - 48)) ≤ 16; split <;> omega⟩)
            refine lv_istore (lv' := [(4, .int (nI (1))), (3, .int (nI (10 * nb + (w - 48)))), (2, .int (nI (16 - tm))), (0, .ref (am 0)), (1, .int (nI (w)))]) hx hb dX6_readOne_84 hl (by decide) rfl (fun ls hl => ?_)
            refine lv_aload_n hx hb dX6_readOne_86 rfl (lv_at hl 3 rfl) ?_
            refine lv_iload hx hb dX6_readOne_87 (lv_at hl 0 rfl) ?_
            refine z_feq (tgt := 96) hx hb dX6_readOne_89 (by decide) (by omega) (fun c_172 => by exfalso; omega) (fun c_172 => ?_)
            refine lv_iload_n hx hb dX6_readOne_92 rfl (lv_at hl 1 rfl) ?_
            refine lv_goto (tgt := 100) hx hb dX6_readOne_93 (by decide) ?_
            refine z_put (ref := RX6) (C := RX6) (T := TX6) (N := 11) hx hb hts hin6 tyX6_ok nmX6 hown hG h0 rfl 10 (by decide) (by decide +kernel) rfl rfl rfl rfl (Nat.le_of_ble_eq_true rfl) hS (⟨0, by decide, rfl⟩) dX6_readOne_100 (fun Hn locs h_173 o_174 hS => ?_)
            have k_175 := va_at.kept h1 (o_174.2 _ (hinj.ne (by decide) (by decide) (by decide)))
            have k_176 := va_at.kept h2 (o_174.2 _ (hinj.ne (by decide) (by decide) (by decide)))
            have k_177 := va_at.kept h3 (o_174.2 _ (hinj.ne (by decide) (by decide) (by decide)))
            have k_178 := va_at.kept h4 (o_174.2 _ (hinj.ne (by decide) (by decide) (by decide)))
            have k_179 := va_at.kept h5 (o_174.2 _ (hinj.ne (by decide) (by decide) (by decide)))
            have k_180 := va_at.kept h6 (o_174.2 _ (hinj.ne (by decide) (by decide) (by decide)))
            have hz : Hn.size = H.size := o_174.1.trans hz
            refine lv_iload hx hb dX6_readOne_103 (lv_at hl 0 rfl) ?_
            exact hret _ _ _ _ _ hS (hz) dX6_readOne_105 (by first | exact Or.inl rfl | exact Or.inr rfl) (zrt hk) (by rw [show zps ((tm, nb, f) : zPs) w = (tm, 10 * nb + (w - 48), f) from zps_d hdg (by rw [← zpk_d hdg]; exact hk)]; exact ⟨_, ⟨h_173, k_175, k_176, k_177, k_178, k_179, k_180⟩, htd⟩)
        · refine lv_bipush (v := nI (10)) hx hb dX6_readOne_48 (by decide) ?_
          refine lv_goto (tgt := 54) hx hb dX6_readOne_50 (by decide) ?_
          refine lv_iload_n hx hb dX6_readOne_54 rfl (lv_at hl 1 rfl) ?_
          refine z_cgt (tgt := 62) hx hb dX6_readOne_55 (by decide) ⟨by omega, by omega⟩ (fun c_181 => ?_) (fun c_181 => ?_)
          · refine lv_iconst (v := nI (0)) hx hb dX6_readOne_62 (by decide) ?_
            refine lv_goto (tgt := 84) hx hb dX6_readOne_63 (by decide) ?_
            have hk : zpk ((tm, nb, f) : zPs) w = false := (zpk_d hdg).trans (decide_eq_false (fun q9 => by have q8 : 10 * nb + (w - 48) ≠ 0 := q9.1; have q7 : tm + (if 10 * nb + (w - 48) = 1 then 10 else 10 * nb + (w - 48)) ≤ 16 := q9.2; split at q7 <;> omega))
            refine lv_istore (lv' := [(4, .int (nI (0))), (3, .int (nI (10 * nb + (w - 48)))), (2, .int (nI (16 - tm))), (0, .ref (am 0)), (1, .int (nI (w)))]) hx hb dX6_readOne_84 hl (by decide) rfl (fun ls hl => ?_)
            refine lv_aload_n hx hb dX6_readOne_86 rfl (lv_at hl 3 rfl) ?_
            refine lv_iload hx hb dX6_readOne_87 (lv_at hl 0 rfl) ?_
            refine z_feq (tgt := 96) hx hb dX6_readOne_89 (by decide) (by omega) (fun c_182 => ?_) (fun c_182 => by exfalso; omega)
            refine lv_aload_n hx hb dX6_readOne_96 rfl (lv_at hl 3 rfl) ?_
            refine z_get (ref := RX6) (C := RX6) (T := TX6) (N := 11) hx hb hts hin6 hown hG h0 rfl 10 (by decide) (by decide +kernel) rfl rfl dX6_readOne_97 ?_
            refine z_put (ref := RX6) (C := RX6) (T := TX6) (N := 11) hx hb hts hin6 tyX6_ok nmX6 hown hG h0 rfl 10 (by decide) (by decide +kernel) rfl rfl rfl rfl (Nat.le_of_ble_eq_true rfl) hS (⟨0, by decide, rfl⟩) dX6_readOne_100 (fun Hn locs h_183 o_184 hS => ?_)
            have k_185 := va_at.kept h1 (o_184.2 _ (hinj.ne (by decide) (by decide) (by decide)))
            have k_186 := va_at.kept h2 (o_184.2 _ (hinj.ne (by decide) (by decide) (by decide)))
            have k_187 := va_at.kept h3 (o_184.2 _ (hinj.ne (by decide) (by decide) (by decide)))
            have k_188 := va_at.kept h4 (o_184.2 _ (hinj.ne (by decide) (by decide) (by decide)))
            have k_189 := va_at.kept h5 (o_184.2 _ (hinj.ne (by decide) (by decide) (by decide)))
            have k_190 := va_at.kept h6 (o_184.2 _ (hinj.ne (by decide) (by decide) (by decide)))
            have hz : Hn.size = H.size := o_184.1.trans hz
            refine lv_iload hx hb dX6_readOne_103 (lv_at hl 0 rfl) ?_
            exact hret _ _ _ _ _ hS (hz) dX6_readOne_105 (by first | exact Or.inl rfl | exact Or.inr rfl) (zrf hk) (by rw [zps_n hk]; exact ⟨_, ⟨h_183, k_185, k_186, k_187, k_188, k_189, k_190⟩, htd⟩)
          · refine lv_iconst (v := nI (1)) hx hb dX6_readOne_58 (by decide) ?_
            refine lv_goto (tgt := 84) hx hb dX6_readOne_59 (by decide) ?_
            have hk : zpk ((tm, nb, f) : zPs) w = true := (zpk_d hdg).trans (decide_eq_true ⟨by show 10 * nb + (w - 48) ≠ 0; omega, by show tm + (if 10 * nb + (w - 48) = 1 then 10 else 10 * nb + (w - 48)) ≤ 16; split <;> omega⟩)
            refine lv_istore (lv' := [(4, .int (nI (1))), (3, .int (nI (10 * nb + (w - 48)))), (2, .int (nI (16 - tm))), (0, .ref (am 0)), (1, .int (nI (w)))]) hx hb dX6_readOne_84 hl (by decide) rfl (fun ls hl => ?_)
            refine lv_aload_n hx hb dX6_readOne_86 rfl (lv_at hl 3 rfl) ?_
            refine lv_iload hx hb dX6_readOne_87 (lv_at hl 0 rfl) ?_
            refine z_feq (tgt := 96) hx hb dX6_readOne_89 (by decide) (by omega) (fun c_191 => by exfalso; omega) (fun c_191 => ?_)
            refine lv_iload_n hx hb dX6_readOne_92 rfl (lv_at hl 1 rfl) ?_
            refine lv_goto (tgt := 100) hx hb dX6_readOne_93 (by decide) ?_
            refine z_put (ref := RX6) (C := RX6) (T := TX6) (N := 11) hx hb hts hin6 tyX6_ok nmX6 hown hG h0 rfl 10 (by decide) (by decide +kernel) rfl rfl rfl rfl (Nat.le_of_ble_eq_true rfl) hS (⟨0, by decide, rfl⟩) dX6_readOne_100 (fun Hn locs h_192 o_193 hS => ?_)
            have k_194 := va_at.kept h1 (o_193.2 _ (hinj.ne (by decide) (by decide) (by decide)))
            have k_195 := va_at.kept h2 (o_193.2 _ (hinj.ne (by decide) (by decide) (by decide)))
            have k_196 := va_at.kept h3 (o_193.2 _ (hinj.ne (by decide) (by decide) (by decide)))
            have k_197 := va_at.kept h4 (o_193.2 _ (hinj.ne (by decide) (by decide) (by decide)))
            have k_198 := va_at.kept h5 (o_193.2 _ (hinj.ne (by decide) (by decide) (by decide)))
            have k_199 := va_at.kept h6 (o_193.2 _ (hinj.ne (by decide) (by decide) (by decide)))
            have hz : Hn.size = H.size := o_193.1.trans hz
            refine lv_iload hx hb dX6_readOne_103 (lv_at hl 0 rfl) ?_
            exact hret _ _ _ _ _ hS (hz) dX6_readOne_105 (by first | exact Or.inl rfl | exact Or.inr rfl) (zrt hk) (by rw [show zps ((tm, nb, f) : zPs) w = (tm, 10 * nb + (w - 48), f) from zps_d hdg (by rw [← zpk_d hdg]; exact hk)]; exact ⟨_, ⟨h_192, k_194, k_195, k_196, k_197, k_198, k_199⟩, htd⟩)

set_option maxHeartbeats 4000000 in
set_option maxRecDepth 100000 in
theorem c_X6_errorPosition_m1 (E : zEnv) {am : Nat → Nat} {z past kept buf rg td : Nat → Int32} {an : Bool} {ct ln tm nb : Nat} {cd : Nat → Int32} {cw : Nat → Nat} (hinj : zInM am) (hcd : ∀ j, j < ln → 33 ≤ cw j ∧ cw j ≤ 126 ∧ cd j = nI (cw j)) (hln : ln ≤ 60) (hbu : ∀ j, j < ln → buf j = cd j) (hT : zpt cw ln = true) : zWR E yX6_errorPosition wsX6_errorPosition 2 47 [.ref (am 0)] (fun H => zMX E am z past ct kept an buf ln rg td tm nb H) (some (.int (-6))) (fun H => ∃ (td : Nat → Int32) (nb : Nat), zMX E am z past ct kept an buf ln rg td ((zpf cw ln).1) nb H ∧ ∀ j, j < (zpf cw ln).1 → td j = (zpf cw ln).2.2 j) (zAM am) := by
  refine zWR.ofI (maxL := 2) rfl (Nat.le_of_ble_eq_true rfl) (fun p e s m args below meth c H Q hF hP hret ls hl => ?_)
  have S : CallFix p m c cX6_errorPosition 2 s args wsX6_errorPosition RX6 := hF.1
  have hG := hF.2
  obtain ⟨hx, hb, hml, hown, hts⟩ := id S
  have hS : va_S (zAM am) H H [] := va_S.rf
  obtain ⟨locs, hlocs⟩ : ∃ x : List Loc, x = [] := ⟨_, rfl⟩
  rw [← hlocs] at hS ⊢
  have hz : H.size = H.size := rfl
  obtain ⟨h0, h1, h2, h3, h4, h5, h6⟩ := hP
  have hl : lv_has ls 2 [(0, .ref (am 0))] := hl
  have hin6 : ∀ w ∈ u_ws RX6 TX6 11, w ∈ wsX6_errorPosition := by decide +kernel
  refine lv_aload_n hx hb dX6_errorPosition_0 rfl (lv_at hl 0 rfl) ?_
  refine lv_iconst (v := nI (0)) hx hb dX6_errorPosition_1 (by decide) ?_
  refine z_put (ref := RX6) (C := RX6) (T := TX6) (N := 11) hx hb hts hin6 tyX6_ok nmX6 hown hG h0 rfl 9 (by decide) (by decide +kernel) rfl rfl rfl rfl (Nat.le_of_ble_eq_true rfl) hS (⟨0, by decide, rfl⟩) dX6_errorPosition_2 (fun Hn locs h_1 o_2 hS => ?_)
  have k_3 := va_at.kept h1 (o_2.2 _ (hinj.ne (by decide) (by decide) (by decide)))
  have k_4 := va_at.kept h2 (o_2.2 _ (hinj.ne (by decide) (by decide) (by decide)))
  have k_5 := va_at.kept h3 (o_2.2 _ (hinj.ne (by decide) (by decide) (by decide)))
  have k_6 := va_at.kept h4 (o_2.2 _ (hinj.ne (by decide) (by decide) (by decide)))
  have k_7 := va_at.kept h5 (o_2.2 _ (hinj.ne (by decide) (by decide) (by decide)))
  have k_8 := va_at.kept h6 (o_2.2 _ (hinj.ne (by decide) (by decide) (by decide)))
  have hz : Hn.size = H.size := o_2.1.trans hz
  refine lv_aload_n hx hb dX6_errorPosition_5 rfl (lv_at hl 0 rfl) ?_
  refine lv_iconst (v := nI (0)) hx hb dX6_errorPosition_6 (by decide) ?_
  refine z_put (ref := RX6) (C := RX6) (T := TX6) (N := 11) hx hb hts hin6 tyX6_ok nmX6 hown hG h_1 rfl 10 (by decide) (by decide +kernel) rfl rfl rfl rfl (Nat.le_of_ble_eq_true rfl) hS (⟨0, by decide, rfl⟩) dX6_errorPosition_7 (fun Hn locs h_9 o_10 hS => ?_)
  have k_11 := va_at.kept k_3 (o_10.2 _ (hinj.ne (by decide) (by decide) (by decide)))
  have k_12 := va_at.kept k_4 (o_10.2 _ (hinj.ne (by decide) (by decide) (by decide)))
  have k_13 := va_at.kept k_5 (o_10.2 _ (hinj.ne (by decide) (by decide) (by decide)))
  have k_14 := va_at.kept k_6 (o_10.2 _ (hinj.ne (by decide) (by decide) (by decide)))
  have k_15 := va_at.kept k_7 (o_10.2 _ (hinj.ne (by decide) (by decide) (by decide)))
  have k_16 := va_at.kept k_8 (o_10.2 _ (hinj.ne (by decide) (by decide) (by decide)))
  have hz : Hn.size = H.size := o_10.1.trans hz
  refine lv_iconst (v := nI (0)) hx hb dX6_errorPosition_10 (by decide) ?_
  refine lv_istore_n (lv' := [(1, .int (nI (0))), (0, .ref (am 0))]) hx hb dX6_errorPosition_11 rfl hl (by decide) rfl (fun ls hl => ?_)
  have L12 : ∀ (dd : Nat) (i : Nat), ln - i < dd → (i ≤ ln) → (∀ j, j < i → zpe cw j = false) → ∀ (Hn : Heap) (locs : List Loc) (hS : va_S (zAM am) H Hn locs) (hz : Hn.size = H.size) (hX : ∃ td : Nat → Int32, zMX E am z past ct kept an buf ln rg td ((zpf cw i).1) ((zpf cw i).2.1) Hn ∧ (∀ j, j < (zpf cw i).1 → td j = (zpf cw i).2.2 j)) (ls : Array Slot), lv_has ls 2 [(0, .ref (am 0)), (1, .int (nI (i)))] → W p (zl E) e (zRm 2 47) s m args below meth c Hn locs 0 0 Q (F0 m 12 ls []) := by
    intro dd
    induction dd with
    | zero => intro i hdd; exact absurd hdd (Nat.not_lt_zero _)
    | succ dd ih12 =>
      intro i hdd12 hi hno Hn locs hS hz hX ls hl
      obtain ⟨td, ⟨h0, h1, h2, h3, h4, h5, h6⟩, htd⟩ := hX
      refine lv_iload_n hx hb dX6_errorPosition_12 rfl (lv_at hl 1 rfl) ?_
      refine lv_aload_n hx hb dX6_errorPosition_13 rfl (lv_at hl 0 rfl) ?_
      refine z_get (ref := RX6) (C := RX6) (T := TX6) (N := 11) hx hb hts hin6 hown hG h0 rfl 6 (by decide) (by decide +kernel) rfl rfl dX6_errorPosition_14 ?_
      refine z_cge (tgt := 41) hx hb dX6_errorPosition_17 (by decide) ⟨by omega, by omega⟩ (fun c_17 => ?_) (fun c_17 => ?_)
      · have e9 : ln = i := by omega
        · subst e9
          have hpl := zpl_no hno
          refine lv_aload_n hx hb dX6_errorPosition_41 rfl (lv_at hl 0 rfl) ?_
          refine z_get (ref := RX6) (C := RX6) (T := TX6) (N := 11) hx hb hts hin6 hown hG h0 rfl 10 (by decide) (by decide +kernel) rfl rfl dX6_errorPosition_42 ?_
          refine z_fne (tgt := 63) hx hb dX6_errorPosition_45 (by decide) (by have := (zpf_b cw ln).2; omega) (fun c_18 => by exfalso; have e9 := (zpt_2 hT).1; omega) (fun c_18 => ?_)
          refine lv_aload_n hx hb dX6_errorPosition_48 rfl (lv_at hl 0 rfl) ?_
          refine z_get (ref := RX6) (C := RX6) (T := TX6) (N := 11) hx hb hts hin6 hown hG h0 rfl 9 (by decide) (by decide +kernel) rfl rfl dX6_errorPosition_49 ?_
          refine z_roSX (As := [.int (nI ((zpf cw ln).1))]) (rest := []) S hG (c_X6_isRing E) 1 gX6_errorPosition_X6_isRing rfl kX6_isRing.2 ⟨Nat.le_of_ble_eq_true rfl, Nat.le_of_ble_eq_true rfl⟩ ⟨Nat.zero_le _, Nat.zero_le _⟩ (trivial) rfl hl.1 rfl rfl (Nat.le_of_ble_eq_true rfl) dX6_errorPosition_52 ?_
          refine z_beq (tgt := 63) hx hb dX6_errorPosition_55 (by decide) (fun c_19 => by exfalso; have e9 := (zpt_2 hT).2; rw [e9] at c_19; cases c_19) (fun c_19 => ?_)
          refine lv_bipush (v := (-6)) hx hb dX6_errorPosition_58 (by decide) ?_
          refine lv_goto (tgt := 67) hx hb dX6_errorPosition_60 (by decide) ?_
          exact hret _ _ _ _ _ hS (hz) dX6_errorPosition_67 (rfl) (⟨td, _, ⟨h0, h1, h2, h3, h4, h5, h6⟩, htd⟩)
      · refine lv_aload_n hx hb dX6_errorPosition_20 rfl (lv_at hl 0 rfl) ?_
        refine lv_aload_n hx hb dX6_errorPosition_21 rfl (lv_at hl 0 rfl) ?_
        refine z_get (ref := RX6) (C := RX6) (T := TX6) (N := 11) hx hb hts hin6 hown hG h0 rfl 5 (by decide) (by decide +kernel) rfl rfl dX6_errorPosition_22 ?_
        refine lv_iload_n hx hb dX6_errorPosition_25 rfl (lv_at hl 1 rfl) ?_
        refine z_cald (j := i) hx hb hG h4 ⟨by omega, by omega⟩ dX6_errorPosition_26 ?_
        refine z_top (y := nI (cw i)) ((hbu i (by omega)).trans (hcd i (by omega)).2.2) ?_
        refine z_wrV (As := [.int (nI (cw i))]) (rest := []) (q := (RX6, TX6, 11)) S hG (c_X6_readOne E (f := (zpf cw i).2.2) hinj (zpf_b cw i) htd ⟨(hcd i (by omega)).1, (hcd i (by omega)).2.1⟩) 1 gX6_errorPosition_X6_readOne rfl kX6_readOne ⟨Nat.le_of_ble_eq_true rfl, Nat.le_of_ble_eq_true rfl⟩ ⟨Nat.zero_le _, Nat.zero_le _⟩ (⟨h0, h1, h2, h3, h4, h5, h6⟩) rfl h0 rfl hl.1 rfl rfl (Nat.le_of_ble_eq_true rfl) dX6_errorPosition_27 hS (fun _ h => h) (fun Hn locs h_21 q_20 o_22 hS => ?_)
        have hz : Hn.size = H.size := q_20.trans hz
        obtain ⟨td, ⟨h0, h1, h2, h3, h4, h5, h6⟩, htd⟩ := h_21
        refine z_bne (tgt := 35) hx hb dX6_errorPosition_30 (by decide) (fun c_23 => ?_) (fun c_23 => by exfalso; have e9 := zpt_h hT; rw [zpl_is (by omega) hno c_23] at e9; omega)
        refine lv_iinc (v := nI (i + 1)) (lv' := [(1, .int (nI (i + 1))), (0, .ref (am 0))]) hx hb dX6_errorPosition_35 hl (k := 1) rfl (z_inc1 _) (by decide) rfl (fun ls hl => ?_)
        refine lv_goto (tgt := 12) hx hb dX6_errorPosition_38 (by decide) ?_
        have hl9 := lv_sub hl [1, 0] (l' := [(0, .ref (am 0)), (1, .int (nI (i + 1)))]) rfl
        have e9_1 : (i + 1) = ((i + 1)) := by omega
        exact ih12 (i + 1) (by omega) (by omega) (zpe_s hno c_23) _ _ hS hz (⟨td, ⟨h0, h1, h2, h3, h4, h5, h6⟩, htd⟩) ls (by rw [← e9_1]; exact hl9)
  exact L12 ((ln - (0)) + 1) (0) (Nat.lt_succ_self _) (Nat.zero_le _) (fun j hj => absurd hj (Nat.not_lt_zero j)) _ _ hS hz (⟨td, ⟨h_9, k_11, k_12, k_13, k_14, k_15, k_16⟩, fun j hj => absurd hj (Nat.not_lt_zero j)⟩) ls (lv_sub hl [1, 0] rfl)

set_option maxHeartbeats 4000000 in
set_option maxRecDepth 100000 in
theorem c_X6_errorPosition_m0 (E : zEnv) {am : Nat → Nat} {z past kept buf rg td : Nat → Int32} {an : Bool} {ct ln tm nb : Nat} {cd : Nat → Int32} {cw : Nat → Nat} (hinj : zInM am) (hcd : ∀ j, j < ln → 33 ≤ cw j ∧ cw j ≤ 126 ∧ cd j = nI (cw j)) (hln : ln ≤ 60) (hbu : ∀ j, j < ln → buf j = cd j) (hT : zpt cw ln = false) : zWR E yX6_errorPosition wsX6_errorPosition 2 47 [.ref (am 0)] (fun H => zMX E am z past ct kept an buf ln rg td tm nb H) (some (.int (nI (zpl cw ln)))) (fun H => ∃ (td : Nat → Int32) (tm nb : Nat), zMX E am z past ct kept an buf ln rg td tm nb H) (zAM am) := by
  refine zWR.ofI (maxL := 2) rfl (Nat.le_of_ble_eq_true rfl) (fun p e s m args below meth c H Q hF hP hret ls hl => ?_)
  have S : CallFix p m c cX6_errorPosition 2 s args wsX6_errorPosition RX6 := hF.1
  have hG := hF.2
  obtain ⟨hx, hb, hml, hown, hts⟩ := id S
  have hS : va_S (zAM am) H H [] := va_S.rf
  obtain ⟨locs, hlocs⟩ : ∃ x : List Loc, x = [] := ⟨_, rfl⟩
  rw [← hlocs] at hS ⊢
  have hz : H.size = H.size := rfl
  obtain ⟨h0, h1, h2, h3, h4, h5, h6⟩ := hP
  have hl : lv_has ls 2 [(0, .ref (am 0))] := hl
  have hin6 : ∀ w ∈ u_ws RX6 TX6 11, w ∈ wsX6_errorPosition := by decide +kernel
  refine lv_aload_n hx hb dX6_errorPosition_0 rfl (lv_at hl 0 rfl) ?_
  refine lv_iconst (v := nI (0)) hx hb dX6_errorPosition_1 (by decide) ?_
  refine z_put (ref := RX6) (C := RX6) (T := TX6) (N := 11) hx hb hts hin6 tyX6_ok nmX6 hown hG h0 rfl 9 (by decide) (by decide +kernel) rfl rfl rfl rfl (Nat.le_of_ble_eq_true rfl) hS (⟨0, by decide, rfl⟩) dX6_errorPosition_2 (fun Hn locs h_1 o_2 hS => ?_)
  have k_3 := va_at.kept h1 (o_2.2 _ (hinj.ne (by decide) (by decide) (by decide)))
  have k_4 := va_at.kept h2 (o_2.2 _ (hinj.ne (by decide) (by decide) (by decide)))
  have k_5 := va_at.kept h3 (o_2.2 _ (hinj.ne (by decide) (by decide) (by decide)))
  have k_6 := va_at.kept h4 (o_2.2 _ (hinj.ne (by decide) (by decide) (by decide)))
  have k_7 := va_at.kept h5 (o_2.2 _ (hinj.ne (by decide) (by decide) (by decide)))
  have k_8 := va_at.kept h6 (o_2.2 _ (hinj.ne (by decide) (by decide) (by decide)))
  have hz : Hn.size = H.size := o_2.1.trans hz
  refine lv_aload_n hx hb dX6_errorPosition_5 rfl (lv_at hl 0 rfl) ?_
  refine lv_iconst (v := nI (0)) hx hb dX6_errorPosition_6 (by decide) ?_
  refine z_put (ref := RX6) (C := RX6) (T := TX6) (N := 11) hx hb hts hin6 tyX6_ok nmX6 hown hG h_1 rfl 10 (by decide) (by decide +kernel) rfl rfl rfl rfl (Nat.le_of_ble_eq_true rfl) hS (⟨0, by decide, rfl⟩) dX6_errorPosition_7 (fun Hn locs h_9 o_10 hS => ?_)
  have k_11 := va_at.kept k_3 (o_10.2 _ (hinj.ne (by decide) (by decide) (by decide)))
  have k_12 := va_at.kept k_4 (o_10.2 _ (hinj.ne (by decide) (by decide) (by decide)))
  have k_13 := va_at.kept k_5 (o_10.2 _ (hinj.ne (by decide) (by decide) (by decide)))
  have k_14 := va_at.kept k_6 (o_10.2 _ (hinj.ne (by decide) (by decide) (by decide)))
  have k_15 := va_at.kept k_7 (o_10.2 _ (hinj.ne (by decide) (by decide) (by decide)))
  have k_16 := va_at.kept k_8 (o_10.2 _ (hinj.ne (by decide) (by decide) (by decide)))
  have hz : Hn.size = H.size := o_10.1.trans hz
  refine lv_iconst (v := nI (0)) hx hb dX6_errorPosition_10 (by decide) ?_
  refine lv_istore_n (lv' := [(1, .int (nI (0))), (0, .ref (am 0))]) hx hb dX6_errorPosition_11 rfl hl (by decide) rfl (fun ls hl => ?_)
  have L12 : ∀ (dd : Nat) (i : Nat), ln - i < dd → (i ≤ ln) → (∀ j, j < i → zpe cw j = false) → ∀ (Hn : Heap) (locs : List Loc) (hS : va_S (zAM am) H Hn locs) (hz : Hn.size = H.size) (hX : ∃ td : Nat → Int32, zMX E am z past ct kept an buf ln rg td ((zpf cw i).1) ((zpf cw i).2.1) Hn ∧ (∀ j, j < (zpf cw i).1 → td j = (zpf cw i).2.2 j)) (ls : Array Slot), lv_has ls 2 [(0, .ref (am 0)), (1, .int (nI (i)))] → W p (zl E) e (zRm 2 47) s m args below meth c Hn locs 0 0 Q (F0 m 12 ls []) := by
    intro dd
    induction dd with
    | zero => intro i hdd; exact absurd hdd (Nat.not_lt_zero _)
    | succ dd ih12 =>
      intro i hdd12 hi hno Hn locs hS hz hX ls hl
      obtain ⟨td, ⟨h0, h1, h2, h3, h4, h5, h6⟩, htd⟩ := hX
      refine lv_iload_n hx hb dX6_errorPosition_12 rfl (lv_at hl 1 rfl) ?_
      refine lv_aload_n hx hb dX6_errorPosition_13 rfl (lv_at hl 0 rfl) ?_
      refine z_get (ref := RX6) (C := RX6) (T := TX6) (N := 11) hx hb hts hin6 hown hG h0 rfl 6 (by decide) (by decide +kernel) rfl rfl dX6_errorPosition_14 ?_
      refine z_cge (tgt := 41) hx hb dX6_errorPosition_17 (by decide) ⟨by omega, by omega⟩ (fun c_17 => ?_) (fun c_17 => ?_)
      · have e9 : ln = i := by omega
        · subst e9
          have hpl := zpl_no hno
          refine lv_aload_n hx hb dX6_errorPosition_41 rfl (lv_at hl 0 rfl) ?_
          refine z_get (ref := RX6) (C := RX6) (T := TX6) (N := 11) hx hb hts hin6 hown hG h0 rfl 10 (by decide) (by decide +kernel) rfl rfl dX6_errorPosition_42 ?_
          refine z_fne (tgt := 63) hx hb dX6_errorPosition_45 (by decide) (by have := (zpf_b cw ln).2; omega) (fun c_18 => ?_) (fun c_18 => ?_)
          · refine lv_aload_n hx hb dX6_errorPosition_63 rfl (lv_at hl 0 rfl) ?_
            refine z_get (ref := RX6) (C := RX6) (T := TX6) (N := 11) hx hb hts hin6 hown hG h0 rfl 6 (by decide) (by decide +kernel) rfl rfl dX6_errorPosition_64 ?_
            exact hret _ _ _ _ _ hS (hz) dX6_errorPosition_67 (by rw [hpl]) (⟨td, _, _, ⟨h0, h1, h2, h3, h4, h5, h6⟩⟩)
          · refine lv_aload_n hx hb dX6_errorPosition_48 rfl (lv_at hl 0 rfl) ?_
            refine z_get (ref := RX6) (C := RX6) (T := TX6) (N := 11) hx hb hts hin6 hown hG h0 rfl 9 (by decide) (by decide +kernel) rfl rfl dX6_errorPosition_49 ?_
            refine z_roSX (As := [.int (nI ((zpf cw ln).1))]) (rest := []) S hG (c_X6_isRing E) 1 gX6_errorPosition_X6_isRing rfl kX6_isRing.2 ⟨Nat.le_of_ble_eq_true rfl, Nat.le_of_ble_eq_true rfl⟩ ⟨Nat.zero_le _, Nat.zero_le _⟩ (trivial) rfl hl.1 rfl rfl (Nat.le_of_ble_eq_true rfl) dX6_errorPosition_52 ?_
            refine z_beq (tgt := 63) hx hb dX6_errorPosition_55 (by decide) (fun c_19 => ?_) (fun c_19 => by exfalso; rw [zpt_f hpl (by omega) c_19] at hT; cases hT)
            refine lv_aload_n hx hb dX6_errorPosition_63 rfl (lv_at hl 0 rfl) ?_
            refine z_get (ref := RX6) (C := RX6) (T := TX6) (N := 11) hx hb hts hin6 hown hG h0 rfl 6 (by decide) (by decide +kernel) rfl rfl dX6_errorPosition_64 ?_
            exact hret _ _ _ _ _ hS (hz) dX6_errorPosition_67 (by rw [hpl]) (⟨td, _, _, ⟨h0, h1, h2, h3, h4, h5, h6⟩⟩)
      · refine lv_aload_n hx hb dX6_errorPosition_20 rfl (lv_at hl 0 rfl) ?_
        refine lv_aload_n hx hb dX6_errorPosition_21 rfl (lv_at hl 0 rfl) ?_
        refine z_get (ref := RX6) (C := RX6) (T := TX6) (N := 11) hx hb hts hin6 hown hG h0 rfl 5 (by decide) (by decide +kernel) rfl rfl dX6_errorPosition_22 ?_
        refine lv_iload_n hx hb dX6_errorPosition_25 rfl (lv_at hl 1 rfl) ?_
        refine z_cald (j := i) hx hb hG h4 ⟨by omega, by omega⟩ dX6_errorPosition_26 ?_
        refine z_top (y := nI (cw i)) ((hbu i (by omega)).trans (hcd i (by omega)).2.2) ?_
        refine z_wrV (As := [.int (nI (cw i))]) (rest := []) (q := (RX6, TX6, 11)) S hG (c_X6_readOne E (f := (zpf cw i).2.2) hinj (zpf_b cw i) htd ⟨(hcd i (by omega)).1, (hcd i (by omega)).2.1⟩) 1 gX6_errorPosition_X6_readOne rfl kX6_readOne ⟨Nat.le_of_ble_eq_true rfl, Nat.le_of_ble_eq_true rfl⟩ ⟨Nat.zero_le _, Nat.zero_le _⟩ (⟨h0, h1, h2, h3, h4, h5, h6⟩) rfl h0 rfl hl.1 rfl rfl (Nat.le_of_ble_eq_true rfl) dX6_errorPosition_27 hS (fun _ h => h) (fun Hn locs h_21 q_20 o_22 hS => ?_)
        have hz : Hn.size = H.size := q_20.trans hz
        obtain ⟨td, ⟨h0, h1, h2, h3, h4, h5, h6⟩, htd⟩ := h_21
        refine z_bne (tgt := 35) hx hb dX6_errorPosition_30 (by decide) (fun c_23 => ?_) (fun c_23 => ?_)
        · refine lv_iinc (v := nI (i + 1)) (lv' := [(1, .int (nI (i + 1))), (0, .ref (am 0))]) hx hb dX6_errorPosition_35 hl (k := 1) rfl (z_inc1 _) (by decide) rfl (fun ls hl => ?_)
          refine lv_goto (tgt := 12) hx hb dX6_errorPosition_38 (by decide) ?_
          have hl9 := lv_sub hl [1, 0] (l' := [(0, .ref (am 0)), (1, .int (nI (i + 1)))]) rfl
          have e9_1 : (i + 1) = ((i + 1)) := by omega
          exact ih12 (i + 1) (by omega) (by omega) (zpe_s hno c_23) _ _ hS hz (⟨td, ⟨h0, h1, h2, h3, h4, h5, h6⟩, htd⟩) ls (by rw [← e9_1]; exact hl9)
        · refine lv_iload_n hx hb dX6_errorPosition_33 rfl (lv_at hl 1 rfl) ?_
          exact hret _ _ _ _ _ hS (hz) dX6_errorPosition_34 (by rw [zpl_is (by omega) hno c_23]) (⟨td, _, _, ⟨h0, h1, h2, h3, h4, h5, h6⟩⟩)
  exact L12 ((ln - (0)) + 1) (0) (Nat.lt_succ_self _) (Nat.zero_le _) (fun j hj => absurd hj (Nat.not_lt_zero j)) _ _ hS hz (⟨td, ⟨h_9, k_11, k_12, k_13, k_14, k_15, k_16⟩, fun j hj => absurd hj (Nat.not_lt_zero j)⟩) ls (lv_sub hl [1, 0] rfl)

set_option maxHeartbeats 4000000 in
set_option maxRecDepth 100000 in
theorem c_X6_errorPosition_0 (E : zEnv) {am : Nat → Nat} {nw sv : zS} {an : Bool} {hs : Nat → zS} {ct ln : Nat} {cd : Nat → Int32} {cw : Nat → Nat} (hok : zOk nw) (hinj : zInM am) (hct : ct ≤ 5) (hcd : ∀ j, j < ln → 33 ≤ cw j ∧ cw j ≤ 126 ∧ cd j = nI (cw j)) (hln : ln ≤ 60) (hT : zpt cw ln = true) : zWR E yX6_errorPosition wsX6_errorPosition 2 47 [.ref (am 0)] (fun H => zMW E am nw sv an hs ct ln cd H) (some (.int (-6))) (fun H => zMW E am nw sv an hs ct ln cd H) (zAM am) := by
  refine zWR.ofI (maxL := 2) rfl (Nat.le_of_ble_eq_true rfl) (fun p e s m args below meth c H Q hF hP hret ls hl => ?_)
  have S : CallFix p m c cX6_errorPosition 2 s args wsX6_errorPosition RX6 := hF.1
  have hG := hF.2
  obtain ⟨hx, hb, hml, hown, hts⟩ := id S
  have hS : va_S (zAM am) H H [] := va_S.rf
  obtain ⟨locs, hlocs⟩ : ∃ x : List Loc, x = [] := ⟨_, rfl⟩
  rw [← hlocs] at hS ⊢
  have hz : H.size = H.size := rfl
  obtain ⟨z, past, kept, buf, rg, td, tm, nb, ⟨h0, h1, h2, h3, h4, h5, h6⟩, hrep, hpa, hke, hbu⟩ := hP
  obtain ⟨r1, rwt, r3, r4, r5, r6, r7⟩ := id hrep
  have hl : lv_has ls 2 [(0, .ref (am 0))] := hl
  have hin6 : ∀ w ∈ u_ws RX6 TX6 11, w ∈ wsX6_errorPosition := by decide +kernel
  refine lv_aload_n hx hb dX6_errorPosition_0 rfl (lv_at hl 0 rfl) ?_
  refine lv_iconst (v := nI (0)) hx hb dX6_errorPosition_1 (by decide) ?_
  refine z_put (ref := RX6) (C := RX6) (T := TX6) (N := 11) hx hb hts hin6 tyX6_ok nmX6 hown hG h0 rfl 9 (by decide) (by decide +kernel) rfl rfl rfl rfl (Nat.le_of_ble_eq_true rfl) hS (⟨0, by decide, rfl⟩) dX6_errorPosition_2 (fun Hn locs h_1 o_2 hS => ?_)
  have k_3 := va_at.kept h1 (o_2.2 _ (hinj.ne (by decide) (by decide) (by decide)))
  have k_4 := va_at.kept h2 (o_2.2 _ (hinj.ne (by decide) (by decide) (by decide)))
  have k_5 := va_at.kept h3 (o_2.2 _ (hinj.ne (by decide) (by decide) (by decide)))
  have k_6 := va_at.kept h4 (o_2.2 _ (hinj.ne (by decide) (by decide) (by decide)))
  have k_7 := va_at.kept h5 (o_2.2 _ (hinj.ne (by decide) (by decide) (by decide)))
  have k_8 := va_at.kept h6 (o_2.2 _ (hinj.ne (by decide) (by decide) (by decide)))
  have hz : Hn.size = H.size := o_2.1.trans hz
  refine lv_aload_n hx hb dX6_errorPosition_5 rfl (lv_at hl 0 rfl) ?_
  refine lv_iconst (v := nI (0)) hx hb dX6_errorPosition_6 (by decide) ?_
  refine z_put (ref := RX6) (C := RX6) (T := TX6) (N := 11) hx hb hts hin6 tyX6_ok nmX6 hown hG h_1 rfl 10 (by decide) (by decide +kernel) rfl rfl rfl rfl (Nat.le_of_ble_eq_true rfl) hS (⟨0, by decide, rfl⟩) dX6_errorPosition_7 (fun Hn locs h_9 o_10 hS => ?_)
  have k_11 := va_at.kept k_3 (o_10.2 _ (hinj.ne (by decide) (by decide) (by decide)))
  have k_12 := va_at.kept k_4 (o_10.2 _ (hinj.ne (by decide) (by decide) (by decide)))
  have k_13 := va_at.kept k_5 (o_10.2 _ (hinj.ne (by decide) (by decide) (by decide)))
  have k_14 := va_at.kept k_6 (o_10.2 _ (hinj.ne (by decide) (by decide) (by decide)))
  have k_15 := va_at.kept k_7 (o_10.2 _ (hinj.ne (by decide) (by decide) (by decide)))
  have k_16 := va_at.kept k_8 (o_10.2 _ (hinj.ne (by decide) (by decide) (by decide)))
  have hz : Hn.size = H.size := o_10.1.trans hz
  refine lv_iconst (v := nI (0)) hx hb dX6_errorPosition_10 (by decide) ?_
  refine lv_istore_n (lv' := [(1, .int (nI (0))), (0, .ref (am 0))]) hx hb dX6_errorPosition_11 rfl hl (by decide) rfl (fun ls hl => ?_)
  have L12 : ∀ (dd : Nat) (i : Nat), ln - i < dd → (i ≤ ln) → (∀ j, j < i → zpe cw j = false) → ∀ (Hn : Heap) (locs : List Loc) (hS : va_S (zAM am) H Hn locs) (hz : Hn.size = H.size) (hX : ∃ td : Nat → Int32, zMX E am z past ct kept an buf ln rg td ((zpf cw i).1) ((zpf cw i).2.1) Hn ∧ (∀ j, j < (zpf cw i).1 → td j = (zpf cw i).2.2 j)) (ls : Array Slot), lv_has ls 2 [(0, .ref (am 0)), (1, .int (nI (i)))] → W p (zl E) e (zRm 2 47) s m args below meth c Hn locs 0 0 Q (F0 m 12 ls []) := by
    intro dd
    induction dd with
    | zero => intro i hdd; exact absurd hdd (Nat.not_lt_zero _)
    | succ dd ih12 =>
      intro i hdd12 hi hno Hn locs hS hz hX ls hl
      obtain ⟨td, ⟨h0, h1, h2, h3, h4, h5, h6⟩, htd⟩ := hX
      refine lv_iload_n hx hb dX6_errorPosition_12 rfl (lv_at hl 1 rfl) ?_
      refine lv_aload_n hx hb dX6_errorPosition_13 rfl (lv_at hl 0 rfl) ?_
      refine z_get (ref := RX6) (C := RX6) (T := TX6) (N := 11) hx hb hts hin6 hown hG h0 rfl 6 (by decide) (by decide +kernel) rfl rfl dX6_errorPosition_14 ?_
      refine z_cge (tgt := 41) hx hb dX6_errorPosition_17 (by decide) ⟨by omega, by omega⟩ (fun c_17 => ?_) (fun c_17 => ?_)
      · have e9 : ln = i := by omega
        · subst e9
          have hpl := zpl_no hno
          refine lv_aload_n hx hb dX6_errorPosition_41 rfl (lv_at hl 0 rfl) ?_
          refine z_get (ref := RX6) (C := RX6) (T := TX6) (N := 11) hx hb hts hin6 hown hG h0 rfl 10 (by decide) (by decide +kernel) rfl rfl dX6_errorPosition_42 ?_
          refine z_fne (tgt := 63) hx hb dX6_errorPosition_45 (by decide) (by have := (zpf_b cw ln).2; omega) (fun c_18 => by exfalso; have e9 := (zpt_2 hT).1; omega) (fun c_18 => ?_)
          refine lv_aload_n hx hb dX6_errorPosition_48 rfl (lv_at hl 0 rfl) ?_
          refine z_get (ref := RX6) (C := RX6) (T := TX6) (N := 11) hx hb hts hin6 hown hG h0 rfl 9 (by decide) (by decide +kernel) rfl rfl dX6_errorPosition_49 ?_
          refine z_roSX (As := [.int (nI ((zpf cw ln).1))]) (rest := []) S hG (c_X6_isRing E) 1 gX6_errorPosition_X6_isRing rfl kX6_isRing.2 ⟨Nat.le_of_ble_eq_true rfl, Nat.le_of_ble_eq_true rfl⟩ ⟨Nat.zero_le _, Nat.zero_le _⟩ (trivial) rfl hl.1 rfl rfl (Nat.le_of_ble_eq_true rfl) dX6_errorPosition_52 ?_
          refine z_beq (tgt := 63) hx hb dX6_errorPosition_55 (by decide) (fun c_19 => by exfalso; have e9 := (zpt_2 hT).2; rw [e9] at c_19; cases c_19) (fun c_19 => ?_)
          refine lv_bipush (v := (-6)) hx hb dX6_errorPosition_58 (by decide) ?_
          refine lv_goto (tgt := 67) hx hb dX6_errorPosition_60 (by decide) ?_
          exact hret _ _ _ _ _ hS (hz) dX6_errorPosition_67 (rfl) (⟨_, _, _, _, _, _, _, _, ⟨h0, h1, h2, h3, h4, h5, h6⟩, hrep, hpa, hke, hbu⟩)
      · refine lv_aload_n hx hb dX6_errorPosition_20 rfl (lv_at hl 0 rfl) ?_
        refine lv_aload_n hx hb dX6_errorPosition_21 rfl (lv_at hl 0 rfl) ?_
        refine z_get (ref := RX6) (C := RX6) (T := TX6) (N := 11) hx hb hts hin6 hown hG h0 rfl 5 (by decide) (by decide +kernel) rfl rfl dX6_errorPosition_22 ?_
        refine lv_iload_n hx hb dX6_errorPosition_25 rfl (lv_at hl 1 rfl) ?_
        refine z_cald (j := i) hx hb hG h4 ⟨by omega, by omega⟩ dX6_errorPosition_26 ?_
        refine z_top (y := nI (cw i)) ((hbu i (by omega)).trans (hcd i (by omega)).2.2) ?_
        refine z_wrV (As := [.int (nI (cw i))]) (rest := []) (q := (RX6, TX6, 11)) S hG (c_X6_readOne E (f := (zpf cw i).2.2) hinj (zpf_b cw i) htd ⟨(hcd i (by omega)).1, (hcd i (by omega)).2.1⟩) 1 gX6_errorPosition_X6_readOne rfl kX6_readOne ⟨Nat.le_of_ble_eq_true rfl, Nat.le_of_ble_eq_true rfl⟩ ⟨Nat.zero_le _, Nat.zero_le _⟩ (⟨h0, h1, h2, h3, h4, h5, h6⟩) rfl h0 rfl hl.1 rfl rfl (Nat.le_of_ble_eq_true rfl) dX6_errorPosition_27 hS (fun _ h => h) (fun Hn locs h_21 q_20 o_22 hS => ?_)
        have hz : Hn.size = H.size := q_20.trans hz
        obtain ⟨td, ⟨h0, h1, h2, h3, h4, h5, h6⟩, htd⟩ := h_21
        refine z_bne (tgt := 35) hx hb dX6_errorPosition_30 (by decide) (fun c_23 => ?_) (fun c_23 => by exfalso; have e9 := zpt_h hT; rw [zpl_is (by omega) hno c_23] at e9; omega)
        refine lv_iinc (v := nI (i + 1)) (lv' := [(1, .int (nI (i + 1))), (0, .ref (am 0))]) hx hb dX6_errorPosition_35 hl (k := 1) rfl (z_inc1 _) (by decide) rfl (fun ls hl => ?_)
        refine lv_goto (tgt := 12) hx hb dX6_errorPosition_38 (by decide) ?_
        have hl9 := lv_sub hl [1, 0] (l' := [(0, .ref (am 0)), (1, .int (nI (i + 1)))]) rfl
        have e9_1 : (i + 1) = ((i + 1)) := by omega
        exact ih12 (i + 1) (by omega) (by omega) (zpe_s hno c_23) _ _ hS hz (⟨td, ⟨h0, h1, h2, h3, h4, h5, h6⟩, htd⟩) ls (by rw [← e9_1]; exact hl9)
  exact L12 ((ln - (0)) + 1) (0) (Nat.lt_succ_self _) (Nat.zero_le _) (fun j hj => absurd hj (Nat.not_lt_zero j)) _ _ hS hz (⟨td, ⟨h_9, k_11, k_12, k_13, k_14, k_15, k_16⟩, fun j hj => absurd hj (Nat.not_lt_zero j)⟩) ls (lv_sub hl [1, 0] rfl)

set_option maxHeartbeats 4000000 in
set_option maxRecDepth 100000 in
theorem c_X6_errorPosition_1 (E : zEnv) {am : Nat → Nat} {nw sv : zS} {an : Bool} {hs : Nat → zS} {ct ln : Nat} {cd : Nat → Int32} {cw : Nat → Nat} (hok : zOk nw) (hinj : zInM am) (hct : ct ≤ 5) (hcd : ∀ j, j < ln → 33 ≤ cw j ∧ cw j ≤ 126 ∧ cd j = nI (cw j)) (hln : ln ≤ 60) (hT : zpt cw ln = false) : zWR E yX6_errorPosition wsX6_errorPosition 2 47 [.ref (am 0)] (fun H => zMW E am nw sv an hs ct ln cd H) (some (.int (nI (zpl cw ln)))) (fun H => zMW E am nw sv an hs ct ln cd H) (zAM am) := by
  refine zWR.ofI (maxL := 2) rfl (Nat.le_of_ble_eq_true rfl) (fun p e s m args below meth c H Q hF hP hret ls hl => ?_)
  have S : CallFix p m c cX6_errorPosition 2 s args wsX6_errorPosition RX6 := hF.1
  have hG := hF.2
  obtain ⟨hx, hb, hml, hown, hts⟩ := id S
  have hS : va_S (zAM am) H H [] := va_S.rf
  obtain ⟨locs, hlocs⟩ : ∃ x : List Loc, x = [] := ⟨_, rfl⟩
  rw [← hlocs] at hS ⊢
  have hz : H.size = H.size := rfl
  obtain ⟨z, past, kept, buf, rg, td, tm, nb, ⟨h0, h1, h2, h3, h4, h5, h6⟩, hrep, hpa, hke, hbu⟩ := hP
  obtain ⟨r1, rwt, r3, r4, r5, r6, r7⟩ := id hrep
  have hl : lv_has ls 2 [(0, .ref (am 0))] := hl
  have hin6 : ∀ w ∈ u_ws RX6 TX6 11, w ∈ wsX6_errorPosition := by decide +kernel
  refine lv_aload_n hx hb dX6_errorPosition_0 rfl (lv_at hl 0 rfl) ?_
  refine lv_iconst (v := nI (0)) hx hb dX6_errorPosition_1 (by decide) ?_
  refine z_put (ref := RX6) (C := RX6) (T := TX6) (N := 11) hx hb hts hin6 tyX6_ok nmX6 hown hG h0 rfl 9 (by decide) (by decide +kernel) rfl rfl rfl rfl (Nat.le_of_ble_eq_true rfl) hS (⟨0, by decide, rfl⟩) dX6_errorPosition_2 (fun Hn locs h_1 o_2 hS => ?_)
  have k_3 := va_at.kept h1 (o_2.2 _ (hinj.ne (by decide) (by decide) (by decide)))
  have k_4 := va_at.kept h2 (o_2.2 _ (hinj.ne (by decide) (by decide) (by decide)))
  have k_5 := va_at.kept h3 (o_2.2 _ (hinj.ne (by decide) (by decide) (by decide)))
  have k_6 := va_at.kept h4 (o_2.2 _ (hinj.ne (by decide) (by decide) (by decide)))
  have k_7 := va_at.kept h5 (o_2.2 _ (hinj.ne (by decide) (by decide) (by decide)))
  have k_8 := va_at.kept h6 (o_2.2 _ (hinj.ne (by decide) (by decide) (by decide)))
  have hz : Hn.size = H.size := o_2.1.trans hz
  refine lv_aload_n hx hb dX6_errorPosition_5 rfl (lv_at hl 0 rfl) ?_
  refine lv_iconst (v := nI (0)) hx hb dX6_errorPosition_6 (by decide) ?_
  refine z_put (ref := RX6) (C := RX6) (T := TX6) (N := 11) hx hb hts hin6 tyX6_ok nmX6 hown hG h_1 rfl 10 (by decide) (by decide +kernel) rfl rfl rfl rfl (Nat.le_of_ble_eq_true rfl) hS (⟨0, by decide, rfl⟩) dX6_errorPosition_7 (fun Hn locs h_9 o_10 hS => ?_)
  have k_11 := va_at.kept k_3 (o_10.2 _ (hinj.ne (by decide) (by decide) (by decide)))
  have k_12 := va_at.kept k_4 (o_10.2 _ (hinj.ne (by decide) (by decide) (by decide)))
  have k_13 := va_at.kept k_5 (o_10.2 _ (hinj.ne (by decide) (by decide) (by decide)))
  have k_14 := va_at.kept k_6 (o_10.2 _ (hinj.ne (by decide) (by decide) (by decide)))
  have k_15 := va_at.kept k_7 (o_10.2 _ (hinj.ne (by decide) (by decide) (by decide)))
  have k_16 := va_at.kept k_8 (o_10.2 _ (hinj.ne (by decide) (by decide) (by decide)))
  have hz : Hn.size = H.size := o_10.1.trans hz
  refine lv_iconst (v := nI (0)) hx hb dX6_errorPosition_10 (by decide) ?_
  refine lv_istore_n (lv' := [(1, .int (nI (0))), (0, .ref (am 0))]) hx hb dX6_errorPosition_11 rfl hl (by decide) rfl (fun ls hl => ?_)
  have L12 : ∀ (dd : Nat) (i : Nat), ln - i < dd → (i ≤ ln) → (∀ j, j < i → zpe cw j = false) → ∀ (Hn : Heap) (locs : List Loc) (hS : va_S (zAM am) H Hn locs) (hz : Hn.size = H.size) (hX : ∃ td : Nat → Int32, zMX E am z past ct kept an buf ln rg td ((zpf cw i).1) ((zpf cw i).2.1) Hn ∧ (∀ j, j < (zpf cw i).1 → td j = (zpf cw i).2.2 j)) (ls : Array Slot), lv_has ls 2 [(0, .ref (am 0)), (1, .int (nI (i)))] → W p (zl E) e (zRm 2 47) s m args below meth c Hn locs 0 0 Q (F0 m 12 ls []) := by
    intro dd
    induction dd with
    | zero => intro i hdd; exact absurd hdd (Nat.not_lt_zero _)
    | succ dd ih12 =>
      intro i hdd12 hi hno Hn locs hS hz hX ls hl
      obtain ⟨td, ⟨h0, h1, h2, h3, h4, h5, h6⟩, htd⟩ := hX
      refine lv_iload_n hx hb dX6_errorPosition_12 rfl (lv_at hl 1 rfl) ?_
      refine lv_aload_n hx hb dX6_errorPosition_13 rfl (lv_at hl 0 rfl) ?_
      refine z_get (ref := RX6) (C := RX6) (T := TX6) (N := 11) hx hb hts hin6 hown hG h0 rfl 6 (by decide) (by decide +kernel) rfl rfl dX6_errorPosition_14 ?_
      refine z_cge (tgt := 41) hx hb dX6_errorPosition_17 (by decide) ⟨by omega, by omega⟩ (fun c_17 => ?_) (fun c_17 => ?_)
      · have e9 : ln = i := by omega
        · subst e9
          have hpl := zpl_no hno
          refine lv_aload_n hx hb dX6_errorPosition_41 rfl (lv_at hl 0 rfl) ?_
          refine z_get (ref := RX6) (C := RX6) (T := TX6) (N := 11) hx hb hts hin6 hown hG h0 rfl 10 (by decide) (by decide +kernel) rfl rfl dX6_errorPosition_42 ?_
          refine z_fne (tgt := 63) hx hb dX6_errorPosition_45 (by decide) (by have := (zpf_b cw ln).2; omega) (fun c_18 => ?_) (fun c_18 => ?_)
          · refine lv_aload_n hx hb dX6_errorPosition_63 rfl (lv_at hl 0 rfl) ?_
            refine z_get (ref := RX6) (C := RX6) (T := TX6) (N := 11) hx hb hts hin6 hown hG h0 rfl 6 (by decide) (by decide +kernel) rfl rfl dX6_errorPosition_64 ?_
            exact hret _ _ _ _ _ hS (hz) dX6_errorPosition_67 (by rw [hpl]) (⟨_, _, _, _, _, _, _, _, ⟨h0, h1, h2, h3, h4, h5, h6⟩, hrep, hpa, hke, hbu⟩)
          · refine lv_aload_n hx hb dX6_errorPosition_48 rfl (lv_at hl 0 rfl) ?_
            refine z_get (ref := RX6) (C := RX6) (T := TX6) (N := 11) hx hb hts hin6 hown hG h0 rfl 9 (by decide) (by decide +kernel) rfl rfl dX6_errorPosition_49 ?_
            refine z_roSX (As := [.int (nI ((zpf cw ln).1))]) (rest := []) S hG (c_X6_isRing E) 1 gX6_errorPosition_X6_isRing rfl kX6_isRing.2 ⟨Nat.le_of_ble_eq_true rfl, Nat.le_of_ble_eq_true rfl⟩ ⟨Nat.zero_le _, Nat.zero_le _⟩ (trivial) rfl hl.1 rfl rfl (Nat.le_of_ble_eq_true rfl) dX6_errorPosition_52 ?_
            refine z_beq (tgt := 63) hx hb dX6_errorPosition_55 (by decide) (fun c_19 => ?_) (fun c_19 => by exfalso; rw [zpt_f hpl (by omega) c_19] at hT; cases hT)
            refine lv_aload_n hx hb dX6_errorPosition_63 rfl (lv_at hl 0 rfl) ?_
            refine z_get (ref := RX6) (C := RX6) (T := TX6) (N := 11) hx hb hts hin6 hown hG h0 rfl 6 (by decide) (by decide +kernel) rfl rfl dX6_errorPosition_64 ?_
            exact hret _ _ _ _ _ hS (hz) dX6_errorPosition_67 (by rw [hpl]) (⟨_, _, _, _, _, _, _, _, ⟨h0, h1, h2, h3, h4, h5, h6⟩, hrep, hpa, hke, hbu⟩)
      · refine lv_aload_n hx hb dX6_errorPosition_20 rfl (lv_at hl 0 rfl) ?_
        refine lv_aload_n hx hb dX6_errorPosition_21 rfl (lv_at hl 0 rfl) ?_
        refine z_get (ref := RX6) (C := RX6) (T := TX6) (N := 11) hx hb hts hin6 hown hG h0 rfl 5 (by decide) (by decide +kernel) rfl rfl dX6_errorPosition_22 ?_
        refine lv_iload_n hx hb dX6_errorPosition_25 rfl (lv_at hl 1 rfl) ?_
        refine z_cald (j := i) hx hb hG h4 ⟨by omega, by omega⟩ dX6_errorPosition_26 ?_
        refine z_top (y := nI (cw i)) ((hbu i (by omega)).trans (hcd i (by omega)).2.2) ?_
        refine z_wrV (As := [.int (nI (cw i))]) (rest := []) (q := (RX6, TX6, 11)) S hG (c_X6_readOne E (f := (zpf cw i).2.2) hinj (zpf_b cw i) htd ⟨(hcd i (by omega)).1, (hcd i (by omega)).2.1⟩) 1 gX6_errorPosition_X6_readOne rfl kX6_readOne ⟨Nat.le_of_ble_eq_true rfl, Nat.le_of_ble_eq_true rfl⟩ ⟨Nat.zero_le _, Nat.zero_le _⟩ (⟨h0, h1, h2, h3, h4, h5, h6⟩) rfl h0 rfl hl.1 rfl rfl (Nat.le_of_ble_eq_true rfl) dX6_errorPosition_27 hS (fun _ h => h) (fun Hn locs h_21 q_20 o_22 hS => ?_)
        have hz : Hn.size = H.size := q_20.trans hz
        obtain ⟨td, ⟨h0, h1, h2, h3, h4, h5, h6⟩, htd⟩ := h_21
        refine z_bne (tgt := 35) hx hb dX6_errorPosition_30 (by decide) (fun c_23 => ?_) (fun c_23 => ?_)
        · refine lv_iinc (v := nI (i + 1)) (lv' := [(1, .int (nI (i + 1))), (0, .ref (am 0))]) hx hb dX6_errorPosition_35 hl (k := 1) rfl (z_inc1 _) (by decide) rfl (fun ls hl => ?_)
          refine lv_goto (tgt := 12) hx hb dX6_errorPosition_38 (by decide) ?_
          have hl9 := lv_sub hl [1, 0] (l' := [(0, .ref (am 0)), (1, .int (nI (i + 1)))]) rfl
          have e9_1 : (i + 1) = ((i + 1)) := by omega
          exact ih12 (i + 1) (by omega) (by omega) (zpe_s hno c_23) _ _ hS hz (⟨td, ⟨h0, h1, h2, h3, h4, h5, h6⟩, htd⟩) ls (by rw [← e9_1]; exact hl9)
        · refine lv_iload_n hx hb dX6_errorPosition_33 rfl (lv_at hl 1 rfl) ?_
          exact hret _ _ _ _ _ hS (hz) dX6_errorPosition_34 (by rw [zpl_is (by omega) hno c_23]) (⟨_, _, _, _, _, _, _, _, ⟨h0, h1, h2, h3, h4, h5, h6⟩, hrep, hpa, hke, hbu⟩)
  exact L12 ((ln - (0)) + 1) (0) (Nat.lt_succ_self _) (Nat.zero_le _) (fun j hj => absurd hj (Nat.not_lt_zero j)) _ _ hS hz (⟨td, ⟨h_9, k_11, k_12, k_13, k_14, k_15, k_16⟩, fun j hj => absurd hj (Nat.not_lt_zero j)⟩) ls (lv_sub hl [1, 0] rfl)

set_option maxHeartbeats 4000000 in
set_option maxRecDepth 100000 in
theorem c_X6_read_0 (E : zEnv) {am : Nat → Nat} {nw sv : zS} {an : Bool} {hs : Nat → zS} {ct ln : Nat} {cd : Nat → Int32} {cw : Nat → Nat} (hok : zOk nw) (hinj : zInM am) (hct : ct ≤ 5) (hcd : ∀ j, j < ln → 33 ≤ cw j ∧ cw j ≤ 126 ∧ cd j = nI (cw j)) (hln : ln ≤ 60) (hT : zpt cw ln = false) : zWR E yX6_read wsX6_read 3 68 [.ref (am 0)] (fun H => zMW E am nw sv an hs ct ln cd H) (some (.int (-5))) (fun H => zMW E am nw sv an hs ct ln cd H) (zAM am) := by
  refine zWR.ofI (maxL := 4) rfl (Nat.le_of_ble_eq_true rfl) (fun p e s m args below meth c H Q hF hP hret ls hl => ?_)
  have S : CallFix p m c cX6_read 4 s args wsX6_read RX6 := hF.1
  have hG := hF.2
  obtain ⟨hx, hb, hml, hown, hts⟩ := id S
  have hS : va_S (zAM am) H H [] := va_S.rf
  obtain ⟨locs, hlocs⟩ : ∃ x : List Loc, x = [] := ⟨_, rfl⟩
  rw [← hlocs] at hS ⊢
  have hz : H.size = H.size := rfl
  obtain ⟨z, past, kept, buf, rg, td, tm, nb, ⟨h0, h1, h2, h3, h4, h5, h6⟩, hrep, hpa, hke, hbu⟩ := hP
  obtain ⟨r1, rwt, r3, r4, r5, r6, r7⟩ := id hrep
  have hl : lv_has ls 4 [(0, .ref (am 0))] := hl
  have hin6 : ∀ w ∈ u_ws RX6 TX6 11, w ∈ wsX6_read := by decide +kernel
  refine lv_aload_n hx hb dX6_read_0 rfl (lv_at hl 0 rfl) ?_
  refine z_wrV (As := []) (rest := []) (q := (RX6, TX6, 11)) S hG (c_X6_errorPosition_m0 E hinj hcd hln hbu hT) 0 gX6_read_X6_errorPosition rfl kX6_errorPosition ⟨Nat.le_of_ble_eq_true rfl, Nat.le_of_ble_eq_true rfl⟩ ⟨Nat.zero_le _, Nat.zero_le _⟩ (⟨h0, h1, h2, h3, h4, h5, h6⟩) rfl h0 rfl hl.1 rfl rfl (Nat.le_of_ble_eq_true rfl) dX6_read_1 hS (fun _ h => h) (fun Hn locs h_2 q_1 o_3 hS => ?_)
  have hz : Hn.size = H.size := q_1.trans hz
  obtain ⟨td, tm, nb, ⟨h0, h1, h2, h3, h4, h5, h6⟩⟩ := h_2
  refine lv_bipush (v := (-6)) hx hb dX6_read_4 (by decide) ?_
  refine lv_icmp_eq (tgt := 12) hx hb dX6_read_6 (by decide) (fun c_4 => by exfalso; exact zn60 (by have := zpl_le cw ln; omega) c_4) (fun c_4 => ?_)
  refine lv_bipush (v := (-5)) hx hb dX6_read_9 (by decide) ?_
  exact hret _ _ _ _ _ hS (hz) dX6_read_11 (rfl) (⟨_, _, _, _, _, _, _, _, ⟨h0, h1, h2, h3, h4, h5, h6⟩, hrep, hpa, hke, hbu⟩)

set_option maxHeartbeats 4000000 in
set_option maxRecDepth 100000 in
theorem c_X6_read_1 (E : zEnv) {am : Nat → Nat} {nw sv : zS} {an : Bool} {hs : Nat → zS} {ct ln : Nat} {cd : Nat → Int32} {cw : Nat → Nat} (hok : zOk nw) (hinj : zInM am) (hct : ct ≤ 5) (hcd : ∀ j, j < ln → 33 ≤ cw j ∧ cw j ≤ 126 ∧ cd j = nI (cw j)) (hln : ln ≤ 60) (hT : zpt cw ln = true) (hbx : zall (fun t => decide (nI (zcn (zpf cw ln).2.2 (nI (t + 1)) (zpf cw ln).1) ≤ zBx nw (t + 1))) 5 = false) : zWR E yX6_read wsX6_read 3 68 [.ref (am 0)] (fun H => zMW E am nw sv an hs ct ln cd H) (some (.int (-3))) (fun H => zMW E am nw sv an hs ct ln cd H) (zAM am) := by
  refine zWR.ofI (maxL := 4) rfl (Nat.le_of_ble_eq_true rfl) (fun p e s m args below meth c H Q hF hP hret ls hl => ?_)
  have S : CallFix p m c cX6_read 4 s args wsX6_read RX6 := hF.1
  have hG := hF.2
  obtain ⟨hx, hb, hml, hown, hts⟩ := id S
  have hS : va_S (zAM am) H H [] := va_S.rf
  obtain ⟨locs, hlocs⟩ : ∃ x : List Loc, x = [] := ⟨_, rfl⟩
  rw [← hlocs] at hS ⊢
  have hz : H.size = H.size := rfl
  obtain ⟨z, past, kept, buf, rg, td, tm, nb, ⟨h0, h1, h2, h3, h4, h5, h6⟩, hrep, hpa, hke, hbu⟩ := hP
  obtain ⟨r1, rwt, r3, r4, r5, r6, r7⟩ := id hrep
  have hT16 := (zpf_b cw ln).1
  have hl : lv_has ls 4 [(0, .ref (am 0))] := hl
  have hin6 : ∀ w ∈ u_ws RX6 TX6 11, w ∈ wsX6_read := by decide +kernel
  refine lv_aload_n hx hb dX6_read_0 rfl (lv_at hl 0 rfl) ?_
  refine z_wrV (As := []) (rest := []) (q := (RX6, TX6, 11)) S hG (c_X6_errorPosition_m1 E hinj hcd hln hbu hT) 0 gX6_read_X6_errorPosition rfl kX6_errorPosition ⟨Nat.le_of_ble_eq_true rfl, Nat.le_of_ble_eq_true rfl⟩ ⟨Nat.zero_le _, Nat.zero_le _⟩ (⟨h0, h1, h2, h3, h4, h5, h6⟩) rfl h0 rfl hl.1 rfl rfl (Nat.le_of_ble_eq_true rfl) dX6_read_1 hS (fun _ h => h) (fun Hn locs h_2 q_1 o_3 hS => ?_)
  have hz : Hn.size = H.size := q_1.trans hz
  obtain ⟨td, nb, ⟨h0, h1, h2, h3, h4, h5, h6⟩, htd⟩ := h_2
  refine lv_bipush (v := (-6)) hx hb dX6_read_4 (by decide) ?_
  refine lv_icmp_eq (tgt := 12) hx hb dX6_read_6 (by decide) (fun c_4 => ?_) (fun c_4 => by exfalso; exact c_4 rfl)
  refine lv_iconst (v := nI (1)) hx hb dX6_read_12 (by decide) ?_
  refine lv_istore_n (lv' := [(1, .int (nI (1))), (0, .ref (am 0))]) hx hb dX6_read_13 rfl hl (by decide) rfl (fun ls hl => ?_)
  have L14 : ∀ (dd : Nat) (t : Nat), 5 - t < dd → (t ≤ 5) → (zall (fun t => decide (nI (zcn (zpf cw ln).2.2 (nI (t + 1)) (zpf cw ln).1) ≤ zBx nw (t + 1))) t = true) → ∀ (Hn : Heap) (locs : List Loc) (hS : va_S (zAM am) H Hn locs) (hz : Hn.size = H.size) (hX : zMX E am z past ct kept an buf ln rg td ((zpf cw ln).1) nb Hn) (ls : Array Slot), lv_has ls 4 [(0, .ref (am 0)), (1, .int (nI (t + 1)))] → W p (zl E) e (zRm 3 68) s m args below meth c Hn locs 0 0 Q (F0 m 14 ls []) := by
    intro dd
    induction dd with
    | zero => intro t hdd; exact absurd hdd (Nat.not_lt_zero _)
    | succ dd ih14 =>
      intro t hdd14 ht5 hz5 Hn locs hS hz hX ls hl
      obtain ⟨h0, h1, h2, h3, h4, h5, h6⟩ := hX
      refine lv_iload_n hx hb dX6_read_14 rfl (lv_at hl 1 rfl) ?_
      refine lv_iconst (v := nI (5)) hx hb dX6_read_15 (by decide) ?_
      refine z_cgt (tgt := 78) hx hb dX6_read_16 (by decide) ⟨by omega, by omega⟩ (fun c_5 => by exfalso; rw [show t = 5 by omega, hbx] at hz5; cases hz5) (fun c_5 => ?_)
      refine lv_iconst (v := nI (0)) hx hb dX6_read_19 (by decide) ?_
      refine lv_istore_n (lv' := [(2, .int (nI (0))), (0, .ref (am 0)), (1, .int (nI (t + 1)))]) hx hb dX6_read_20 rfl hl (by decide) rfl (fun ls hl => ?_)
      refine lv_iconst (v := nI (0)) hx hb dX6_read_21 (by decide) ?_
      refine lv_istore_n (lv' := [(3, .int (nI (0))), (2, .int (nI (0))), (0, .ref (am 0)), (1, .int (nI (t + 1)))]) hx hb dX6_read_22 rfl hl (by decide) rfl (fun ls hl => ?_)
      have L23 : ∀ (dd : Nat) (j : Nat), (zpf cw ln).1 - j < dd → (j ≤ (zpf cw ln).1) → ∀ (Hn : Heap) (locs : List Loc) (hS : va_S (zAM am) H Hn locs) (hz : Hn.size = H.size) (hX : zMX E am z past ct kept an buf ln rg td ((zpf cw ln).1) nb Hn) (ls : Array Slot), lv_has ls 4 [(0, .ref (am 0)), (1, .int (nI (t + 1))), (2, .int (nI (zct (fun s9 => decide (td s9 = nI (t + 1))) j))), (3, .int (nI (j)))] → W p (zl E) e (zRm 3 68) s m args below meth c Hn locs 0 0 Q (F0 m 23 ls []) := by
        intro dd
        induction dd with
        | zero => intro j hdd; exact absurd hdd (Nat.not_lt_zero _)
        | succ dd ih23 =>
          intro j hdd23 hj Hn locs hS hz hX ls hl
          obtain ⟨h0, h1, h2, h3, h4, h5, h6⟩ := hX
          refine lv_iload_n hx hb dX6_read_23 rfl (lv_at hl 3 rfl) ?_
          refine lv_aload_n hx hb dX6_read_24 rfl (lv_at hl 0 rfl) ?_
          refine z_get (ref := RX6) (C := RX6) (T := TX6) (N := 11) hx hb hts hin6 hown hG h0 rfl 9 (by decide) (by decide +kernel) rfl rfl dX6_read_25 ?_
          refine z_cge (tgt := 55) hx hb dX6_read_28 (by decide) ⟨by omega, by omega⟩ (fun c_6 => ?_) (fun c_6 => ?_)
          · have e9 : (zpf cw ln).1 = j := by omega
            · subst e9
              refine lv_iload_n hx hb dX6_read_55 rfl (lv_at hl 2 rfl) ?_
              refine z_top (y := nI (zcn (zpf cw ln).2.2 (nI (t + 1)) (zpf cw ln).1)) (congrArg nI (zct_cong (fun s hs => decide_eq_decide.mpr (by rw [htd s hs])))) ?_
              refine lv_aload_n hx hb dX6_read_56 rfl (lv_at hl 0 rfl) ?_
              refine z_get (ref := RX6) (C := RX6) (T := TX6) (N := 11) hx hb hts hin6 hown hG h0 rfl 0 (by decide) (by decide +kernel) rfl rfl dX6_read_57 ?_
              refine lv_iconst (v := nI (0)) hx hb dX6_read_60 (by decide) ?_
              refine lv_iload_n hx hb dX6_read_61 rfl (lv_at hl 1 rfl) ?_
              refine z_iadd hx hb dX6_read_62 ?_
              refine lv_iconst (v := nI (1)) hx hb dX6_read_63 (by decide) ?_
              refine z_isub hx hb dX6_read_64 (by omega) ?_
              refine z_iald (j := (0 + (t + 1)) - 1) hx hb hG h1 ⟨by omega, by omega⟩ dX6_read_65 ?_
              refine z_top (y := (zBx nw (t + 1))) (r1 (t + 1) (by omega) (by omega)) ?_
              refine lv_icmp_le (tgt := 72) hx hb dX6_read_66 (by decide) (fun c_7 => ?_) (fun c_7 => ?_)
              · refine lv_iinc (v := nI (t + 1 + 1)) (lv' := [(1, .int (nI (t + 1 + 1))), (0, .ref (am 0)), (2, .int (nI (zct (fun s9 => decide (td s9 = nI (t + 1))) ((zpf cw ln).1)))), (3, .int (nI (((zpf cw ln).1))))]) hx hb dX6_read_72 hl (k := 1) rfl (z_inc1 _) (by decide) rfl (fun ls hl => ?_)
                refine lv_goto (tgt := 14) hx hb dX6_read_75 (by decide) ?_
                have hl9 := lv_sub hl [1, 0] (l' := [(0, .ref (am 0)), (1, .int (nI (t + 1 + 1)))]) rfl
                have e9_1 : (t + 1 + 1) = ((t + 1) + 1) := by omega
                exact ih14 (t + 1) (by omega) (by omega) (zall_t hz5 (decide_eq_true c_7)) _ _ hS hz (⟨h0, h1, h2, h3, h4, h5, h6⟩) ls (by rw [← e9_1]; exact hl9)
              · refine lv_bipush (v := (-3)) hx hb dX6_read_69 (by decide) ?_
                exact hret _ _ _ _ _ hS (hz) dX6_read_71 (rfl) (⟨_, _, _, _, _, _, _, _, ⟨h0, h1, h2, h3, h4, h5, h6⟩, hrep, hpa, hke, hbu⟩)
          · refine lv_iload_n hx hb dX6_read_31 rfl (lv_at hl 2 rfl) ?_
            refine lv_aload_n hx hb dX6_read_32 rfl (lv_at hl 0 rfl) ?_
            refine z_get (ref := RX6) (C := RX6) (T := TX6) (N := 11) hx hb hts hin6 hown hG h0 rfl 8 (by decide) (by decide +kernel) rfl rfl dX6_read_33 ?_
            refine lv_iload_n hx hb dX6_read_36 rfl (lv_at hl 3 rfl) ?_
            refine z_iald (j := j) hx hb hG h6 ⟨by omega, by omega⟩ dX6_read_37 ?_
            refine lv_iload_n hx hb dX6_read_38 rfl (lv_at hl 1 rfl) ?_
            refine lv_icmp_ne (tgt := 46) hx hb dX6_read_39 (by decide) (fun c_8 => ?_) (fun c_8 => ?_)
            · refine lv_iconst (v := nI (0)) hx hb dX6_read_46 (by decide) ?_
              refine z_iadd hx hb dX6_read_47 ?_
              refine lv_istore_n (lv' := [(2, .int (nI ((zct (fun s9 => decide (td s9 = nI (t + 1))) j) + 0))), (0, .ref (am 0)), (1, .int (nI (t + 1))), (3, .int (nI (j)))]) hx hb dX6_read_48 rfl hl (by decide) rfl (fun ls hl => ?_)
              refine lv_iinc (v := nI (j + 1)) (lv' := [(3, .int (nI (j + 1))), (2, .int (nI ((zct (fun s9 => decide (td s9 = nI (t + 1))) j) + 0))), (0, .ref (am 0)), (1, .int (nI (t + 1)))]) hx hb dX6_read_49 hl (k := 3) rfl (z_inc1 _) (by decide) rfl (fun ls hl => ?_)
              refine lv_goto (tgt := 23) hx hb dX6_read_52 (by decide) ?_
              have hl9 := lv_sub hl [2, 3, 1, 0] (l' := [(0, .ref (am 0)), (1, .int (nI (t + 1))), (2, .int (nI ((zct (fun s9 => decide (td s9 = nI (t + 1))) j) + 0))), (3, .int (nI (j + 1)))]) rfl
              have e9_2 : ((zct (fun s9 => decide (td s9 = nI (t + 1))) j) + 0) = (zct (fun s9 => decide (td s9 = nI (t + 1))) (j + 1)) := by first | exact zct_t (p := (fun s9 => decide (td s9 = nI (t + 1)))) (decide_eq_true c_8) | exact zct_f (p := (fun s9 => decide (td s9 = nI (t + 1)))) (decide_eq_false c_8)
              have e9_3 : (j + 1) = ((j + 1)) := by omega
              exact ih23 (j + 1) (by omega) (by omega) _ _ hS hz (⟨h0, h1, h2, h3, h4, h5, h6⟩) ls (by rw [← e9_2, ← e9_3]; exact hl9)
            · refine lv_iconst (v := nI (1)) hx hb dX6_read_42 (by decide) ?_
              refine lv_goto (tgt := 47) hx hb dX6_read_43 (by decide) ?_
              refine z_iadd hx hb dX6_read_47 ?_
              refine lv_istore_n (lv' := [(2, .int (nI ((zct (fun s9 => decide (td s9 = nI (t + 1))) j) + 1))), (0, .ref (am 0)), (1, .int (nI (t + 1))), (3, .int (nI (j)))]) hx hb dX6_read_48 rfl hl (by decide) rfl (fun ls hl => ?_)
              refine lv_iinc (v := nI (j + 1)) (lv' := [(3, .int (nI (j + 1))), (2, .int (nI ((zct (fun s9 => decide (td s9 = nI (t + 1))) j) + 1))), (0, .ref (am 0)), (1, .int (nI (t + 1)))]) hx hb dX6_read_49 hl (k := 3) rfl (z_inc1 _) (by decide) rfl (fun ls hl => ?_)
              refine lv_goto (tgt := 23) hx hb dX6_read_52 (by decide) ?_
              have hl9 := lv_sub hl [2, 3, 1, 0] (l' := [(0, .ref (am 0)), (1, .int (nI (t + 1))), (2, .int (nI ((zct (fun s9 => decide (td s9 = nI (t + 1))) j) + 1))), (3, .int (nI (j + 1)))]) rfl
              have e9_2 : ((zct (fun s9 => decide (td s9 = nI (t + 1))) j) + 1) = (zct (fun s9 => decide (td s9 = nI (t + 1))) (j + 1)) := by first | exact zct_t (p := (fun s9 => decide (td s9 = nI (t + 1)))) (decide_eq_true c_8) | exact zct_f (p := (fun s9 => decide (td s9 = nI (t + 1)))) (decide_eq_false c_8)
              have e9_3 : (j + 1) = ((j + 1)) := by omega
              exact ih23 (j + 1) (by omega) (by omega) _ _ hS hz (⟨h0, h1, h2, h3, h4, h5, h6⟩) ls (by rw [← e9_2, ← e9_3]; exact hl9)
      exact L23 (((zpf cw ln).1 - (0)) + 1) (0) (Nat.lt_succ_self _) (Nat.zero_le _) _ _ hS hz (⟨h0, h1, h2, h3, h4, h5, h6⟩) ls (lv_sub hl [2, 3, 1, 0] rfl)
  exact L14 ((5 - (0)) + 1) (0) (Nat.lt_succ_self _) (by decide) (rfl) _ _ hS hz (⟨h0, h1, h2, h3, h4, h5, h6⟩) ls (lv_sub hl [1, 0] rfl)

set_option maxHeartbeats 4000000 in
set_option maxRecDepth 100000 in
theorem c_X6_read_2 (E : zEnv) {am : Nat → Nat} {nw sv : zS} {an : Bool} {hs : Nat → zS} {ct ln : Nat} {cd : Nat → Int32} {cw : Nat → Nat} (hok : zOk nw) (hinj : zInM am) (hct : ct ≤ 5) (hcd : ∀ j, j < ln → 33 ≤ cw j ∧ cw j ≤ 126 ∧ cd j = nI (cw j)) (hln : ln ≤ 60) (hT : zpt cw ln = true) (hbx : zall (fun t => decide (nI (zcn (zpf cw ln).2.2 (nI (t + 1)) (zpf cw ln).1) ≤ zBx nw (t + 1))) 5 = true) (hfr : zfd (zSz nw) 6 = 6) : zWR E yX6_read wsX6_read 3 68 [.ref (am 0)] (fun H => zMW E am nw sv an hs ct ln cd H) (some (.int (-4))) (fun H => zMW E am nw sv an hs ct ln cd H) (zAM am) := by
  refine zWR.ofI (maxL := 4) rfl (Nat.le_of_ble_eq_true rfl) (fun p e s m args below meth c H Q hF hP hret ls hl => ?_)
  have S : CallFix p m c cX6_read 4 s args wsX6_read RX6 := hF.1
  have hG := hF.2
  obtain ⟨hx, hb, hml, hown, hts⟩ := id S
  have hS : va_S (zAM am) H H [] := va_S.rf
  obtain ⟨locs, hlocs⟩ : ∃ x : List Loc, x = [] := ⟨_, rfl⟩
  rw [← hlocs] at hS ⊢
  have hz : H.size = H.size := rfl
  obtain ⟨z, past, kept, buf, rg, td, tm, nb, ⟨h0, h1, h2, h3, h4, h5, h6⟩, hrep, hpa, hke, hbu⟩ := hP
  obtain ⟨r1, rwt, r3, r4, r5, r6, r7⟩ := id hrep
  have hT16 := (zpf_b cw ln).1
  have hl : lv_has ls 4 [(0, .ref (am 0))] := hl
  have hin6 : ∀ w ∈ u_ws RX6 TX6 11, w ∈ wsX6_read := by decide +kernel
  refine lv_aload_n hx hb dX6_read_0 rfl (lv_at hl 0 rfl) ?_
  refine z_wrV (As := []) (rest := []) (q := (RX6, TX6, 11)) S hG (c_X6_errorPosition_m1 E hinj hcd hln hbu hT) 0 gX6_read_X6_errorPosition rfl kX6_errorPosition ⟨Nat.le_of_ble_eq_true rfl, Nat.le_of_ble_eq_true rfl⟩ ⟨Nat.zero_le _, Nat.zero_le _⟩ (⟨h0, h1, h2, h3, h4, h5, h6⟩) rfl h0 rfl hl.1 rfl rfl (Nat.le_of_ble_eq_true rfl) dX6_read_1 hS (fun _ h => h) (fun Hn locs h_2 q_1 o_3 hS => ?_)
  have hz : Hn.size = H.size := q_1.trans hz
  obtain ⟨td, nb, ⟨h0, h1, h2, h3, h4, h5, h6⟩, htd⟩ := h_2
  refine lv_bipush (v := (-6)) hx hb dX6_read_4 (by decide) ?_
  refine lv_icmp_eq (tgt := 12) hx hb dX6_read_6 (by decide) (fun c_4 => ?_) (fun c_4 => by exfalso; exact c_4 rfl)
  refine lv_iconst (v := nI (1)) hx hb dX6_read_12 (by decide) ?_
  refine lv_istore_n (lv' := [(1, .int (nI (1))), (0, .ref (am 0))]) hx hb dX6_read_13 rfl hl (by decide) rfl (fun ls hl => ?_)
  have L14 : ∀ (dd : Nat) (t : Nat), 5 - t < dd → (t ≤ 5) → (zall (fun t => decide (nI (zcn (zpf cw ln).2.2 (nI (t + 1)) (zpf cw ln).1) ≤ zBx nw (t + 1))) t = true) → ∀ (Hn : Heap) (locs : List Loc) (hS : va_S (zAM am) H Hn locs) (hz : Hn.size = H.size) (hX : zMX E am z past ct kept an buf ln rg td ((zpf cw ln).1) nb Hn) (ls : Array Slot), lv_has ls 4 [(0, .ref (am 0)), (1, .int (nI (t + 1)))] → W p (zl E) e (zRm 3 68) s m args below meth c Hn locs 0 0 Q (F0 m 14 ls []) := by
    intro dd
    induction dd with
    | zero => intro t hdd; exact absurd hdd (Nat.not_lt_zero _)
    | succ dd ih14 =>
      intro t hdd14 ht5 hz5 Hn locs hS hz hX ls hl
      obtain ⟨h0, h1, h2, h3, h4, h5, h6⟩ := hX
      refine lv_iload_n hx hb dX6_read_14 rfl (lv_at hl 1 rfl) ?_
      refine lv_iconst (v := nI (5)) hx hb dX6_read_15 (by decide) ?_
      refine z_cgt (tgt := 78) hx hb dX6_read_16 (by decide) ⟨by omega, by omega⟩ (fun c_5 => ?_) (fun c_5 => ?_)
      · refine lv_aload_n hx hb dX6_read_78 rfl (lv_at hl 0 rfl) ?_
        refine z_roV (As := []) (rest := []) (q := (RX6, TX6, 11)) S hG (c_X6_free E (z := z) (fun t ht => (r3 t ht).1) hok.h16) 0 gX6_read_X6_free rfl kX6_free ⟨Nat.le_of_ble_eq_true rfl, Nat.le_of_ble_eq_true rfl⟩ ⟨Nat.zero_le _, Nat.zero_le _⟩ (⟨h0, h1⟩) rfl h0 rfl hl.1 rfl rfl (Nat.le_of_ble_eq_true rfl) dX6_read_79 ?_
        refine z_top (y := (-6)) (by rw [hfr]; rfl) ?_
        refine lv_istore_n (lv' := [(1, .int (-6)), (0, .ref (am 0))]) hx hb dX6_read_82 rfl hl (by decide) rfl (fun ls hl => ?_)
        refine lv_iload_n hx hb dX6_read_83 rfl (lv_at hl 0 rfl) ?_
        refine lv_bipush (v := (-6)) hx hb dX6_read_84 (by decide) ?_
        refine lv_icmp_ne (tgt := 92) hx hb dX6_read_86 (by decide) (fun c_6 => by exfalso; exact c_6 rfl) (fun c_6 => ?_)
        refine lv_bipush (v := (-4)) hx hb dX6_read_89 (by decide) ?_
        exact hret _ _ _ _ _ hS (hz) dX6_read_91 (rfl) (⟨_, _, _, _, _, _, _, _, ⟨h0, h1, h2, h3, h4, h5, h6⟩, hrep, hpa, hke, hbu⟩)
      · refine lv_iconst (v := nI (0)) hx hb dX6_read_19 (by decide) ?_
        refine lv_istore_n (lv' := [(2, .int (nI (0))), (0, .ref (am 0)), (1, .int (nI (t + 1)))]) hx hb dX6_read_20 rfl hl (by decide) rfl (fun ls hl => ?_)
        refine lv_iconst (v := nI (0)) hx hb dX6_read_21 (by decide) ?_
        refine lv_istore_n (lv' := [(3, .int (nI (0))), (2, .int (nI (0))), (0, .ref (am 0)), (1, .int (nI (t + 1)))]) hx hb dX6_read_22 rfl hl (by decide) rfl (fun ls hl => ?_)
        have L23 : ∀ (dd : Nat) (j : Nat), (zpf cw ln).1 - j < dd → (j ≤ (zpf cw ln).1) → ∀ (Hn : Heap) (locs : List Loc) (hS : va_S (zAM am) H Hn locs) (hz : Hn.size = H.size) (hX : zMX E am z past ct kept an buf ln rg td ((zpf cw ln).1) nb Hn) (ls : Array Slot), lv_has ls 4 [(0, .ref (am 0)), (1, .int (nI (t + 1))), (2, .int (nI (zct (fun s9 => decide (td s9 = nI (t + 1))) j))), (3, .int (nI (j)))] → W p (zl E) e (zRm 3 68) s m args below meth c Hn locs 0 0 Q (F0 m 23 ls []) := by
          intro dd
          induction dd with
          | zero => intro j hdd; exact absurd hdd (Nat.not_lt_zero _)
          | succ dd ih23 =>
            intro j hdd23 hj Hn locs hS hz hX ls hl
            obtain ⟨h0, h1, h2, h3, h4, h5, h6⟩ := hX
            refine lv_iload_n hx hb dX6_read_23 rfl (lv_at hl 3 rfl) ?_
            refine lv_aload_n hx hb dX6_read_24 rfl (lv_at hl 0 rfl) ?_
            refine z_get (ref := RX6) (C := RX6) (T := TX6) (N := 11) hx hb hts hin6 hown hG h0 rfl 9 (by decide) (by decide +kernel) rfl rfl dX6_read_25 ?_
            refine z_cge (tgt := 55) hx hb dX6_read_28 (by decide) ⟨by omega, by omega⟩ (fun c_7 => ?_) (fun c_7 => ?_)
            · have e9 : (zpf cw ln).1 = j := by omega
              · subst e9
                refine lv_iload_n hx hb dX6_read_55 rfl (lv_at hl 2 rfl) ?_
                refine z_top (y := nI (zcn (zpf cw ln).2.2 (nI (t + 1)) (zpf cw ln).1)) (congrArg nI (zct_cong (fun s hs => decide_eq_decide.mpr (by rw [htd s hs])))) ?_
                refine lv_aload_n hx hb dX6_read_56 rfl (lv_at hl 0 rfl) ?_
                refine z_get (ref := RX6) (C := RX6) (T := TX6) (N := 11) hx hb hts hin6 hown hG h0 rfl 0 (by decide) (by decide +kernel) rfl rfl dX6_read_57 ?_
                refine lv_iconst (v := nI (0)) hx hb dX6_read_60 (by decide) ?_
                refine lv_iload_n hx hb dX6_read_61 rfl (lv_at hl 1 rfl) ?_
                refine z_iadd hx hb dX6_read_62 ?_
                refine lv_iconst (v := nI (1)) hx hb dX6_read_63 (by decide) ?_
                refine z_isub hx hb dX6_read_64 (by omega) ?_
                refine z_iald (j := (0 + (t + 1)) - 1) hx hb hG h1 ⟨by omega, by omega⟩ dX6_read_65 ?_
                refine z_top (y := (zBx nw (t + 1))) (r1 (t + 1) (by omega) (by omega)) ?_
                refine lv_icmp_le (tgt := 72) hx hb dX6_read_66 (by decide) (fun c_8 => ?_) (fun c_8 => by exfalso; have e9 := zall_iff.mp hbx t (by omega); exact absurd (of_decide_eq_true e9) c_8)
                refine lv_iinc (v := nI (t + 1 + 1)) (lv' := [(1, .int (nI (t + 1 + 1))), (0, .ref (am 0)), (2, .int (nI (zct (fun s9 => decide (td s9 = nI (t + 1))) ((zpf cw ln).1)))), (3, .int (nI (((zpf cw ln).1))))]) hx hb dX6_read_72 hl (k := 1) rfl (z_inc1 _) (by decide) rfl (fun ls hl => ?_)
                refine lv_goto (tgt := 14) hx hb dX6_read_75 (by decide) ?_
                have hl9 := lv_sub hl [1, 0] (l' := [(0, .ref (am 0)), (1, .int (nI (t + 1 + 1)))]) rfl
                have e9_1 : (t + 1 + 1) = ((t + 1) + 1) := by omega
                exact ih14 (t + 1) (by omega) (by omega) (zall_t hz5 (decide_eq_true c_8)) _ _ hS hz (⟨h0, h1, h2, h3, h4, h5, h6⟩) ls (by rw [← e9_1]; exact hl9)
            · refine lv_iload_n hx hb dX6_read_31 rfl (lv_at hl 2 rfl) ?_
              refine lv_aload_n hx hb dX6_read_32 rfl (lv_at hl 0 rfl) ?_
              refine z_get (ref := RX6) (C := RX6) (T := TX6) (N := 11) hx hb hts hin6 hown hG h0 rfl 8 (by decide) (by decide +kernel) rfl rfl dX6_read_33 ?_
              refine lv_iload_n hx hb dX6_read_36 rfl (lv_at hl 3 rfl) ?_
              refine z_iald (j := j) hx hb hG h6 ⟨by omega, by omega⟩ dX6_read_37 ?_
              refine lv_iload_n hx hb dX6_read_38 rfl (lv_at hl 1 rfl) ?_
              refine lv_icmp_ne (tgt := 46) hx hb dX6_read_39 (by decide) (fun c_9 => ?_) (fun c_9 => ?_)
              · refine lv_iconst (v := nI (0)) hx hb dX6_read_46 (by decide) ?_
                refine z_iadd hx hb dX6_read_47 ?_
                refine lv_istore_n (lv' := [(2, .int (nI ((zct (fun s9 => decide (td s9 = nI (t + 1))) j) + 0))), (0, .ref (am 0)), (1, .int (nI (t + 1))), (3, .int (nI (j)))]) hx hb dX6_read_48 rfl hl (by decide) rfl (fun ls hl => ?_)
                refine lv_iinc (v := nI (j + 1)) (lv' := [(3, .int (nI (j + 1))), (2, .int (nI ((zct (fun s9 => decide (td s9 = nI (t + 1))) j) + 0))), (0, .ref (am 0)), (1, .int (nI (t + 1)))]) hx hb dX6_read_49 hl (k := 3) rfl (z_inc1 _) (by decide) rfl (fun ls hl => ?_)
                refine lv_goto (tgt := 23) hx hb dX6_read_52 (by decide) ?_
                have hl9 := lv_sub hl [2, 3, 1, 0] (l' := [(0, .ref (am 0)), (1, .int (nI (t + 1))), (2, .int (nI ((zct (fun s9 => decide (td s9 = nI (t + 1))) j) + 0))), (3, .int (nI (j + 1)))]) rfl
                have e9_2 : ((zct (fun s9 => decide (td s9 = nI (t + 1))) j) + 0) = (zct (fun s9 => decide (td s9 = nI (t + 1))) (j + 1)) := by first | exact zct_t (p := (fun s9 => decide (td s9 = nI (t + 1)))) (decide_eq_true c_9) | exact zct_f (p := (fun s9 => decide (td s9 = nI (t + 1)))) (decide_eq_false c_9)
                have e9_3 : (j + 1) = ((j + 1)) := by omega
                exact ih23 (j + 1) (by omega) (by omega) _ _ hS hz (⟨h0, h1, h2, h3, h4, h5, h6⟩) ls (by rw [← e9_2, ← e9_3]; exact hl9)
              · refine lv_iconst (v := nI (1)) hx hb dX6_read_42 (by decide) ?_
                refine lv_goto (tgt := 47) hx hb dX6_read_43 (by decide) ?_
                refine z_iadd hx hb dX6_read_47 ?_
                refine lv_istore_n (lv' := [(2, .int (nI ((zct (fun s9 => decide (td s9 = nI (t + 1))) j) + 1))), (0, .ref (am 0)), (1, .int (nI (t + 1))), (3, .int (nI (j)))]) hx hb dX6_read_48 rfl hl (by decide) rfl (fun ls hl => ?_)
                refine lv_iinc (v := nI (j + 1)) (lv' := [(3, .int (nI (j + 1))), (2, .int (nI ((zct (fun s9 => decide (td s9 = nI (t + 1))) j) + 1))), (0, .ref (am 0)), (1, .int (nI (t + 1)))]) hx hb dX6_read_49 hl (k := 3) rfl (z_inc1 _) (by decide) rfl (fun ls hl => ?_)
                refine lv_goto (tgt := 23) hx hb dX6_read_52 (by decide) ?_
                have hl9 := lv_sub hl [2, 3, 1, 0] (l' := [(0, .ref (am 0)), (1, .int (nI (t + 1))), (2, .int (nI ((zct (fun s9 => decide (td s9 = nI (t + 1))) j) + 1))), (3, .int (nI (j + 1)))]) rfl
                have e9_2 : ((zct (fun s9 => decide (td s9 = nI (t + 1))) j) + 1) = (zct (fun s9 => decide (td s9 = nI (t + 1))) (j + 1)) := by first | exact zct_t (p := (fun s9 => decide (td s9 = nI (t + 1)))) (decide_eq_true c_9) | exact zct_f (p := (fun s9 => decide (td s9 = nI (t + 1)))) (decide_eq_false c_9)
                have e9_3 : (j + 1) = ((j + 1)) := by omega
                exact ih23 (j + 1) (by omega) (by omega) _ _ hS hz (⟨h0, h1, h2, h3, h4, h5, h6⟩) ls (by rw [← e9_2, ← e9_3]; exact hl9)
        exact L23 (((zpf cw ln).1 - (0)) + 1) (0) (Nat.lt_succ_self _) (Nat.zero_le _) _ _ hS hz (⟨h0, h1, h2, h3, h4, h5, h6⟩) ls (lv_sub hl [2, 3, 1, 0] rfl)
  exact L14 ((5 - (0)) + 1) (0) (Nat.lt_succ_self _) (by decide) (rfl) _ _ hS hz (⟨h0, h1, h2, h3, h4, h5, h6⟩) ls (lv_sub hl [1, 0] rfl)

set_option maxHeartbeats 4000000 in
set_option maxRecDepth 100000 in
theorem c_X6_read_3 (E : zEnv) {am : Nat → Nat} {nw sv : zS} {an : Bool} {hs : Nat → zS} {ct ln : Nat} {cd : Nat → Int32} {cw : Nat → Nat} (hok : zOk nw) (hinj : zInM am) (hct : ct ≤ 5) (hcd : ∀ j, j < ln → 33 ≤ cw j ∧ cw j ≤ 126 ∧ cd j = nI (cw j)) (hln : ln ≤ 60) (hT : zpt cw ln = true) (hbx : zall (fun t => decide (nI (zcn (zpf cw ln).2.2 (nI (t + 1)) (zpf cw ln).1) ≤ zBx nw (t + 1))) 5 = true) (hfr : zfd (zSz nw) 6 < 6) : zWR E yX6_read wsX6_read 3 68 [.ref (am 0)] (fun H => zMW E am nw sv an hs ct ln cd H) (some (.int (nI (zfd (zSz nw) 6)))) (fun H => zMW E am (zsRg (zsBx nw (zto (zBx nw) (fun t => zcn (zpf cw ln).2.2 (nI t) (zpf cw ln).1) 5)) (zfd (zSz nw) 6) (zpf cw ln).1 (zpf cw ln).2.2) sv an (zrH hs ct nw) (zrC ct) 0 cd H) (zAM am) := by
  refine zWR.ofI (maxL := 4) rfl (Nat.le_of_ble_eq_true rfl) (fun p e s m args below meth c H Q hF hP hret ls hl => ?_)
  have S : CallFix p m c cX6_read 4 s args wsX6_read RX6 := hF.1
  have hG := hF.2
  obtain ⟨hx, hb, hml, hown, hts⟩ := id S
  have hS : va_S (zAM am) H H [] := va_S.rf
  obtain ⟨locs, hlocs⟩ : ∃ x : List Loc, x = [] := ⟨_, rfl⟩
  rw [← hlocs] at hS ⊢
  have hz : H.size = H.size := rfl
  obtain ⟨z, past, kept, buf, rg, td, tm, nb, ⟨h0, h1, h2, h3, h4, h5, h6⟩, hrep, hpa, hke, hbu⟩ := hP
  obtain ⟨r1, rwt, r3, r4, r5, r6, r7⟩ := id hrep
  have hT16 := (zpf_b cw ln).1
  have hlz : zmr (zlz z (zfd (zSz nw) 6) (zpf cw ln).1 16) (zfd (zSz nw) 6) (zpf cw ln).1 (fun _ => 0) := zlz_r hT16
  have hl : lv_has ls 4 [(0, .ref (am 0))] := hl
  have hin6 : ∀ w ∈ u_ws RX6 TX6 11, w ∈ wsX6_read := by decide +kernel
  refine lv_aload_n hx hb dX6_read_0 rfl (lv_at hl 0 rfl) ?_
  refine z_wrV (As := []) (rest := []) (q := (RX6, TX6, 11)) S hG (c_X6_errorPosition_m1 E hinj hcd hln hbu hT) 0 gX6_read_X6_errorPosition rfl kX6_errorPosition ⟨Nat.le_of_ble_eq_true rfl, Nat.le_of_ble_eq_true rfl⟩ ⟨Nat.zero_le _, Nat.zero_le _⟩ (⟨h0, h1, h2, h3, h4, h5, h6⟩) rfl h0 rfl hl.1 rfl rfl (Nat.le_of_ble_eq_true rfl) dX6_read_1 hS (fun _ h => h) (fun Hn locs h_2 q_1 o_3 hS => ?_)
  have hz : Hn.size = H.size := q_1.trans hz
  obtain ⟨td, nb, ⟨h0, h1, h2, h3, h4, h5, h6⟩, htd⟩ := h_2
  refine lv_bipush (v := (-6)) hx hb dX6_read_4 (by decide) ?_
  refine lv_icmp_eq (tgt := 12) hx hb dX6_read_6 (by decide) (fun c_4 => ?_) (fun c_4 => by exfalso; exact c_4 rfl)
  refine lv_iconst (v := nI (1)) hx hb dX6_read_12 (by decide) ?_
  refine lv_istore_n (lv' := [(1, .int (nI (1))), (0, .ref (am 0))]) hx hb dX6_read_13 rfl hl (by decide) rfl (fun ls hl => ?_)
  have L14 : ∀ (dd : Nat) (t : Nat), 5 - t < dd → (t ≤ 5) → (zall (fun t => decide (nI (zcn (zpf cw ln).2.2 (nI (t + 1)) (zpf cw ln).1) ≤ zBx nw (t + 1))) t = true) → ∀ (Hn : Heap) (locs : List Loc) (hS : va_S (zAM am) H Hn locs) (hz : Hn.size = H.size) (hX : zMX E am z past ct kept an buf ln rg td ((zpf cw ln).1) nb Hn) (ls : Array Slot), lv_has ls 4 [(0, .ref (am 0)), (1, .int (nI (t + 1)))] → W p (zl E) e (zRm 3 68) s m args below meth c Hn locs 0 0 Q (F0 m 14 ls []) := by
    intro dd
    induction dd with
    | zero => intro t hdd; exact absurd hdd (Nat.not_lt_zero _)
    | succ dd ih14 =>
      intro t hdd14 ht5 hz5 Hn locs hS hz hX ls hl
      obtain ⟨h0, h1, h2, h3, h4, h5, h6⟩ := hX
      refine lv_iload_n hx hb dX6_read_14 rfl (lv_at hl 1 rfl) ?_
      refine lv_iconst (v := nI (5)) hx hb dX6_read_15 (by decide) ?_
      refine z_cgt (tgt := 78) hx hb dX6_read_16 (by decide) ⟨by omega, by omega⟩ (fun c_5 => ?_) (fun c_5 => ?_)
      · refine lv_aload_n hx hb dX6_read_78 rfl (lv_at hl 0 rfl) ?_
        refine z_roV (As := []) (rest := []) (q := (RX6, TX6, 11)) S hG (c_X6_free E (z := z) (fun t ht => (r3 t ht).1) hok.h16) 0 gX6_read_X6_free rfl kX6_free ⟨Nat.le_of_ble_eq_true rfl, Nat.le_of_ble_eq_true rfl⟩ ⟨Nat.zero_le _, Nat.zero_le _⟩ (⟨h0, h1⟩) rfl h0 rfl hl.1 rfl rfl (Nat.le_of_ble_eq_true rfl) dX6_read_79 ?_
        refine z_top (y := nI (zfd (zSz nw) 6)) (zfi_n hfr) ?_
        refine lv_istore_n (lv' := [(1, .int (nI (zfd (zSz nw) 6))), (0, .ref (am 0))]) hx hb dX6_read_82 rfl hl (by decide) rfl (fun ls hl => ?_)
        refine lv_iload_n hx hb dX6_read_83 rfl (lv_at hl 0 rfl) ?_
        refine lv_bipush (v := (-6)) hx hb dX6_read_84 (by decide) ?_
        refine lv_icmp_ne (tgt := 92) hx hb dX6_read_86 (by decide) (fun c_6 => ?_) (fun c_6 => by exfalso; exact zn6 hfr c_6)
        refine lv_aload_n hx hb dX6_read_92 rfl (lv_at hl 1 rfl) ?_
        refine z_wrV (As := []) (rest := []) (q := (RX6, TX6, 11)) S hG (c_X6_record E hinj hct hok hrep hpa) 0 gX6_read_X6_record rfl kX6_record ⟨Nat.le_of_ble_eq_true rfl, Nat.le_of_ble_eq_true rfl⟩ ⟨Nat.zero_le _, Nat.zero_le _⟩ (⟨h0, h1, h2, h3, h4, h5, h6⟩) rfl h0 rfl hl.1 rfl rfl (Nat.le_of_ble_eq_true rfl) dX6_read_93 hS (fun _ h => h) (fun Hn locs h_8 q_7 o_9 hS => ?_)
        have hz : Hn.size = H.size := q_7.trans hz
        obtain ⟨past, ⟨h0, h1, h2, h3, h4, h5, h6⟩, hpa⟩ := h_8
        refine lv_aload_n hx hb dX6_read_96 rfl (lv_at hl 1 rfl) ?_
        refine lv_iload_n hx hb dX6_read_97 rfl (lv_at hl 0 rfl) ?_
        refine lv_aload_n hx hb dX6_read_98 rfl (lv_at hl 1 rfl) ?_
        refine z_get (ref := RX6) (C := RX6) (T := TX6) (N := 11) hx hb hts hin6 hown hG h0 rfl 9 (by decide) (by decide +kernel) rfl rfl dX6_read_99 ?_
        refine z_wrV (As := [.int (nI (zfd (zSz nw) 6)), .int (nI ((zpf cw ln).1))]) (rest := []) (q := (RX6, TX6, 11)) S hG (c_X6_lies E hinj (i := zfd (zSz nw) 6) (n := (zpf cw ln).1) hfr hT16) 2 gX6_read_X6_lies rfl kX6_lies ⟨Nat.le_of_ble_eq_true rfl, Nat.le_of_ble_eq_true rfl⟩ ⟨Nat.zero_le _, Nat.zero_le _⟩ (⟨h0, h1, h2, h3, h4, h5, h6⟩) rfl h0 rfl hl.1 rfl rfl (Nat.le_of_ble_eq_true rfl) dX6_read_102 hS (fun _ h => h) (fun Hn locs h_11 q_10 o_12 hS => ?_)
        have hz : Hn.size = H.size := q_10.trans hz
        obtain ⟨h0, h1, h2, h3, h4, h5, h6⟩ := h_11
        refine lv_iconst (v := nI (0)) hx hb dX6_read_105 (by decide) ?_
        refine lv_istore_n (lv' := [(2, .int (nI (0))), (1, .int (nI (zfd (zSz nw) 6))), (0, .ref (am 0))]) hx hb dX6_read_106 rfl hl (by decide) rfl (fun ls hl => ?_)
        have L107 : ∀ (dd : Nat) (j : Nat), (zpf cw ln).1 - j < dd → (j ≤ (zpf cw ln).1) → ∀ (Hn : Heap) (locs : List Loc) (hS : va_S (zAM am) H Hn locs) (hz : Hn.size = H.size) (hX : zMX E am (zwr (zlz z (zfd (zSz nw) 6) (zpf cw ln).1 16) (zfd (zSz nw) 6) td j) past (zrC ct) kept an buf ln rg td ((zpf cw ln).1) nb Hn) (ls : Array Slot), lv_has ls 4 [(0, .ref (am 0)), (1, .int (nI (zfd (zSz nw) 6))), (2, .int (nI (j)))] → W p (zl E) e (zRm 3 68) s m args below meth c Hn locs 0 0 Q (F0 m 107 ls []) := by
          intro dd
          induction dd with
          | zero => intro j hdd; exact absurd hdd (Nat.not_lt_zero _)
          | succ dd ih107 =>
            intro j hdd107 hj Hn locs hS hz hX ls hl
            obtain ⟨h0, h1, h2, h3, h4, h5, h6⟩ := hX
            refine lv_iload_n hx hb dX6_read_107 rfl (lv_at hl 2 rfl) ?_
            refine lv_aload_n hx hb dX6_read_108 rfl (lv_at hl 0 rfl) ?_
            refine z_get (ref := RX6) (C := RX6) (T := TX6) (N := 11) hx hb hts hin6 hown hG h0 rfl 9 (by decide) (by decide +kernel) rfl rfl dX6_read_109 ?_
            refine z_cge (tgt := 138) hx hb dX6_read_112 (by decide) ⟨by omega, by omega⟩ (fun c_13 => ?_) (fun c_13 => ?_)
            · obtain rfl : j = (zpf cw ln).1 := by omega
              refine lv_aload_n hx hb dX6_read_138 rfl (lv_at hl 0 rfl) ?_
              refine lv_iload_n hx hb dX6_read_139 rfl (lv_at hl 1 rfl) ?_
              refine lv_iconst (v := (-1)) hx hb dX6_read_140 (by decide) ?_
              refine z_wrV (As := [.int (nI (zfd (zSz nw) 6)), .int (-1)]) (rest := []) (q := (RX6, TX6, 11)) S hG (c_X6_move E (z := (zwr (zlz z (zfd (zSz nw) 6) (zpf cw ln).1 16) (zfd (zSz nw) 6) td (zpf cw ln).1)) (i := zfd (zSz nw) 6) (n := (zpf cw ln).1) (f := (zpf cw ln).2.2) (d9 := -1) hinj hfr hT16 ⟨(zwr_r hlz.1).1, fun s hs => ((zwr_r hlz.1).2 s hs).trans (htd s hs)⟩ (zpf_k cw ln)) 2 gX6_read_X6_move rfl kX6_move ⟨Nat.le_of_ble_eq_true rfl, Nat.le_of_ble_eq_true rfl⟩ ⟨Nat.zero_le _, Nat.zero_le _⟩ (⟨h0, h1, h2, h3, h4, h5, h6⟩) rfl h0 rfl hl.1 rfl rfl (Nat.le_of_ble_eq_true rfl) dX6_read_141 hS (fun _ h => h) (fun Hn locs h_15 q_14 o_16 hS => ?_)
              have hz : Hn.size = H.size := q_14.trans hz
              obtain ⟨h0, h1, h2, h3, h4, h5, h6⟩ := h_15
              refine lv_aload_n hx hb dX6_read_144 rfl (lv_at hl 0 rfl) ?_
              refine lv_iconst (v := nI (0)) hx hb dX6_read_145 (by decide) ?_
              refine z_put (ref := RX6) (C := RX6) (T := TX6) (N := 11) hx hb hts hin6 tyX6_ok nmX6 hown hG h0 rfl 6 (by decide) (by decide +kernel) rfl rfl rfl rfl (Nat.le_of_ble_eq_true rfl) hS (⟨0, by decide, rfl⟩) dX6_read_146 (fun Hn locs h_17 o_18 hS => ?_)
              have k_19 := va_at.kept h1 (o_18.2 _ (hinj.ne (by decide) (by decide) (by decide)))
              have k_20 := va_at.kept h2 (o_18.2 _ (hinj.ne (by decide) (by decide) (by decide)))
              have k_21 := va_at.kept h3 (o_18.2 _ (hinj.ne (by decide) (by decide) (by decide)))
              have k_22 := va_at.kept h4 (o_18.2 _ (hinj.ne (by decide) (by decide) (by decide)))
              have k_23 := va_at.kept h5 (o_18.2 _ (hinj.ne (by decide) (by decide) (by decide)))
              have k_24 := va_at.kept h6 (o_18.2 _ (hinj.ne (by decide) (by decide) (by decide)))
              have hz : Hn.size = H.size := o_18.1.trans hz
              refine lv_iload_n hx hb dX6_read_149 rfl (lv_at hl 1 rfl) ?_
              exact hret _ _ _ _ _ hS (hz) dX6_read_150 (rfl) (⟨_, _, _, _, _, _, _, _, ⟨h_17, k_19, k_20, k_21, k_22, k_23, k_24⟩, zRep_to (v := zsRg nw (zfd (zSz nw) 6) (zpf cw ln).1 (zpf cw ln).2.2) (zOkB_rg hok.B hfr hT16) (zpf_k cw ln) (zRep_rg hok.B hfr (fun q a b => (zwr_o hT16 a).trans (zlz_o a)) ⟨(zwr_r hlz.1).1, fun s hs => ((zwr_r hlz.1).2 s hs).trans (htd s hs)⟩ hrep), hpa, hke, fun j hj => absurd hj (Nat.not_lt_zero j)⟩)
            · refine lv_aload_n hx hb dX6_read_115 rfl (lv_at hl 0 rfl) ?_
              refine z_get (ref := RX6) (C := RX6) (T := TX6) (N := 11) hx hb hts hin6 hown hG h0 rfl 0 (by decide) (by decide +kernel) rfl rfl dX6_read_116 ?_
              refine lv_aload_n hx hb dX6_read_119 rfl (lv_at hl 0 rfl) ?_
              refine lv_iload_n hx hb dX6_read_120 rfl (lv_at hl 1 rfl) ?_
              refine lv_iload_n hx hb dX6_read_121 rfl (lv_at hl 2 rfl) ?_
              refine z_roV (As := [.int (nI (zfd (zSz nw) 6)), .int (nI (j))]) (rest := [.ref (am 1)]) (q := (RX6, TX6, 11)) S hG (c_X6_at E (z := (zwr (zlz z (zfd (zSz nw) 6) (zpf cw ln).1 16) (zfd (zSz nw) 6) td j)) (i := zfd (zSz nw) 6) (n := (zpf cw ln).1) (j := j) hfr (zwr_h hlz.1) ⟨by omega, hT16⟩) 2 gX6_read_X6_at rfl kX6_at ⟨Nat.le_of_ble_eq_true rfl, Nat.le_of_ble_eq_true rfl⟩ ⟨Nat.zero_le _, Nat.zero_le _⟩ (⟨h0, h1⟩) rfl h0 rfl hl.1 rfl rfl (Nat.le_of_ble_eq_true rfl) dX6_read_122 ?_
              refine lv_aload_n hx hb dX6_read_125 rfl (lv_at hl 0 rfl) ?_
              refine z_get (ref := RX6) (C := RX6) (T := TX6) (N := 11) hx hb hts hin6 hown hG h0 rfl 8 (by decide) (by decide +kernel) rfl rfl dX6_read_126 ?_
              refine lv_iload_n hx hb dX6_read_129 rfl (lv_at hl 2 rfl) ?_
              refine z_iald (j := j) hx hb hG h6 ⟨by omega, by omega⟩ dX6_read_130 ?_
              refine z_iast (j := 10 + 17 * (zfd (zSz nw) 6) + 1 + j) hx hb hG h1 ⟨by omega, by omega⟩ hS (⟨1, by decide, rfl⟩) dX6_read_131 (fun Hn locs h_25 o_26 hS => ?_)
              have k_27 := va_at.kept h0 (o_26.2 _ (hinj.ne (by decide) (by decide) (by decide)))
              have k_28 := va_at.kept h2 (o_26.2 _ (hinj.ne (by decide) (by decide) (by decide)))
              have k_29 := va_at.kept h3 (o_26.2 _ (hinj.ne (by decide) (by decide) (by decide)))
              have k_30 := va_at.kept h4 (o_26.2 _ (hinj.ne (by decide) (by decide) (by decide)))
              have k_31 := va_at.kept h5 (o_26.2 _ (hinj.ne (by decide) (by decide) (by decide)))
              have k_32 := va_at.kept h6 (o_26.2 _ (hinj.ne (by decide) (by decide) (by decide)))
              have hz : Hn.size = H.size := o_26.1.trans hz
              refine lv_iinc (v := nI (j + 1)) (lv' := [(2, .int (nI (j + 1))), (0, .ref (am 0)), (1, .int (nI (zfd (zSz nw) 6)))]) hx hb dX6_read_132 hl (k := 2) rfl (z_inc1 _) (by decide) rfl (fun ls hl => ?_)
              refine lv_goto (tgt := 107) hx hb dX6_read_135 (by decide) ?_
              have hl9 := lv_sub hl [1, 2, 0] (l' := [(0, .ref (am 0)), (1, .int (nI (zfd (zSz nw) 6))), (2, .int (nI (j + 1)))]) rfl
              have e9_2 : (j + 1) = ((j + 1)) := by omega
              exact ih107 (j + 1) (by omega) (by omega) _ _ hS hz (by rw [← zwr_s]; exact ⟨k_27, h_25, k_28, k_29, k_30, k_31, k_32⟩) ls (by rw [← e9_2]; exact hl9)
        exact L107 (((zpf cw ln).1 - (0)) + 1) (0) (Nat.lt_succ_self _) (Nat.zero_le _) _ _ hS hz (by rw [zwr_0]; exact ⟨h0, h1, h2, h3, h4, h5, h6⟩) ls (lv_sub hl [2, 1, 0] rfl)
      · refine lv_iconst (v := nI (0)) hx hb dX6_read_19 (by decide) ?_
        refine lv_istore_n (lv' := [(2, .int (nI (0))), (0, .ref (am 0)), (1, .int (nI (t + 1)))]) hx hb dX6_read_20 rfl hl (by decide) rfl (fun ls hl => ?_)
        refine lv_iconst (v := nI (0)) hx hb dX6_read_21 (by decide) ?_
        refine lv_istore_n (lv' := [(3, .int (nI (0))), (2, .int (nI (0))), (0, .ref (am 0)), (1, .int (nI (t + 1)))]) hx hb dX6_read_22 rfl hl (by decide) rfl (fun ls hl => ?_)
        have L23 : ∀ (dd : Nat) (j : Nat), (zpf cw ln).1 - j < dd → (j ≤ (zpf cw ln).1) → ∀ (Hn : Heap) (locs : List Loc) (hS : va_S (zAM am) H Hn locs) (hz : Hn.size = H.size) (hX : zMX E am z past ct kept an buf ln rg td ((zpf cw ln).1) nb Hn) (ls : Array Slot), lv_has ls 4 [(0, .ref (am 0)), (1, .int (nI (t + 1))), (2, .int (nI (zct (fun s9 => decide (td s9 = nI (t + 1))) j))), (3, .int (nI (j)))] → W p (zl E) e (zRm 3 68) s m args below meth c Hn locs 0 0 Q (F0 m 23 ls []) := by
          intro dd
          induction dd with
          | zero => intro j hdd; exact absurd hdd (Nat.not_lt_zero _)
          | succ dd ih23 =>
            intro j hdd23 hj Hn locs hS hz hX ls hl
            obtain ⟨h0, h1, h2, h3, h4, h5, h6⟩ := hX
            refine lv_iload_n hx hb dX6_read_23 rfl (lv_at hl 3 rfl) ?_
            refine lv_aload_n hx hb dX6_read_24 rfl (lv_at hl 0 rfl) ?_
            refine z_get (ref := RX6) (C := RX6) (T := TX6) (N := 11) hx hb hts hin6 hown hG h0 rfl 9 (by decide) (by decide +kernel) rfl rfl dX6_read_25 ?_
            refine z_cge (tgt := 55) hx hb dX6_read_28 (by decide) ⟨by omega, by omega⟩ (fun c_33 => ?_) (fun c_33 => ?_)
            · have e9 : (zpf cw ln).1 = j := by omega
              · subst e9
                refine lv_iload_n hx hb dX6_read_55 rfl (lv_at hl 2 rfl) ?_
                refine z_top (y := nI (zcn (zpf cw ln).2.2 (nI (t + 1)) (zpf cw ln).1)) (congrArg nI (zct_cong (fun s hs => decide_eq_decide.mpr (by rw [htd s hs])))) ?_
                refine lv_aload_n hx hb dX6_read_56 rfl (lv_at hl 0 rfl) ?_
                refine z_get (ref := RX6) (C := RX6) (T := TX6) (N := 11) hx hb hts hin6 hown hG h0 rfl 0 (by decide) (by decide +kernel) rfl rfl dX6_read_57 ?_
                refine lv_iconst (v := nI (0)) hx hb dX6_read_60 (by decide) ?_
                refine lv_iload_n hx hb dX6_read_61 rfl (lv_at hl 1 rfl) ?_
                refine z_iadd hx hb dX6_read_62 ?_
                refine lv_iconst (v := nI (1)) hx hb dX6_read_63 (by decide) ?_
                refine z_isub hx hb dX6_read_64 (by omega) ?_
                refine z_iald (j := (0 + (t + 1)) - 1) hx hb hG h1 ⟨by omega, by omega⟩ dX6_read_65 ?_
                refine z_top (y := (zBx nw (t + 1))) (r1 (t + 1) (by omega) (by omega)) ?_
                refine lv_icmp_le (tgt := 72) hx hb dX6_read_66 (by decide) (fun c_34 => ?_) (fun c_34 => by exfalso; have e9 := zall_iff.mp hbx t (by omega); exact absurd (of_decide_eq_true e9) c_34)
                refine lv_iinc (v := nI (t + 1 + 1)) (lv' := [(1, .int (nI (t + 1 + 1))), (0, .ref (am 0)), (2, .int (nI (zct (fun s9 => decide (td s9 = nI (t + 1))) ((zpf cw ln).1)))), (3, .int (nI (((zpf cw ln).1))))]) hx hb dX6_read_72 hl (k := 1) rfl (z_inc1 _) (by decide) rfl (fun ls hl => ?_)
                refine lv_goto (tgt := 14) hx hb dX6_read_75 (by decide) ?_
                have hl9 := lv_sub hl [1, 0] (l' := [(0, .ref (am 0)), (1, .int (nI (t + 1 + 1)))]) rfl
                have e9_1 : (t + 1 + 1) = ((t + 1) + 1) := by omega
                exact ih14 (t + 1) (by omega) (by omega) (zall_t hz5 (decide_eq_true c_34)) _ _ hS hz (⟨h0, h1, h2, h3, h4, h5, h6⟩) ls (by rw [← e9_1]; exact hl9)
            · refine lv_iload_n hx hb dX6_read_31 rfl (lv_at hl 2 rfl) ?_
              refine lv_aload_n hx hb dX6_read_32 rfl (lv_at hl 0 rfl) ?_
              refine z_get (ref := RX6) (C := RX6) (T := TX6) (N := 11) hx hb hts hin6 hown hG h0 rfl 8 (by decide) (by decide +kernel) rfl rfl dX6_read_33 ?_
              refine lv_iload_n hx hb dX6_read_36 rfl (lv_at hl 3 rfl) ?_
              refine z_iald (j := j) hx hb hG h6 ⟨by omega, by omega⟩ dX6_read_37 ?_
              refine lv_iload_n hx hb dX6_read_38 rfl (lv_at hl 1 rfl) ?_
              refine lv_icmp_ne (tgt := 46) hx hb dX6_read_39 (by decide) (fun c_35 => ?_) (fun c_35 => ?_)
              · refine lv_iconst (v := nI (0)) hx hb dX6_read_46 (by decide) ?_
                refine z_iadd hx hb dX6_read_47 ?_
                refine lv_istore_n (lv' := [(2, .int (nI ((zct (fun s9 => decide (td s9 = nI (t + 1))) j) + 0))), (0, .ref (am 0)), (1, .int (nI (t + 1))), (3, .int (nI (j)))]) hx hb dX6_read_48 rfl hl (by decide) rfl (fun ls hl => ?_)
                refine lv_iinc (v := nI (j + 1)) (lv' := [(3, .int (nI (j + 1))), (2, .int (nI ((zct (fun s9 => decide (td s9 = nI (t + 1))) j) + 0))), (0, .ref (am 0)), (1, .int (nI (t + 1)))]) hx hb dX6_read_49 hl (k := 3) rfl (z_inc1 _) (by decide) rfl (fun ls hl => ?_)
                refine lv_goto (tgt := 23) hx hb dX6_read_52 (by decide) ?_
                have hl9 := lv_sub hl [2, 3, 1, 0] (l' := [(0, .ref (am 0)), (1, .int (nI (t + 1))), (2, .int (nI ((zct (fun s9 => decide (td s9 = nI (t + 1))) j) + 0))), (3, .int (nI (j + 1)))]) rfl
                have e9_2 : ((zct (fun s9 => decide (td s9 = nI (t + 1))) j) + 0) = (zct (fun s9 => decide (td s9 = nI (t + 1))) (j + 1)) := by first | exact zct_t (p := (fun s9 => decide (td s9 = nI (t + 1)))) (decide_eq_true c_35) | exact zct_f (p := (fun s9 => decide (td s9 = nI (t + 1)))) (decide_eq_false c_35)
                have e9_3 : (j + 1) = ((j + 1)) := by omega
                exact ih23 (j + 1) (by omega) (by omega) _ _ hS hz (⟨h0, h1, h2, h3, h4, h5, h6⟩) ls (by rw [← e9_2, ← e9_3]; exact hl9)
              · refine lv_iconst (v := nI (1)) hx hb dX6_read_42 (by decide) ?_
                refine lv_goto (tgt := 47) hx hb dX6_read_43 (by decide) ?_
                refine z_iadd hx hb dX6_read_47 ?_
                refine lv_istore_n (lv' := [(2, .int (nI ((zct (fun s9 => decide (td s9 = nI (t + 1))) j) + 1))), (0, .ref (am 0)), (1, .int (nI (t + 1))), (3, .int (nI (j)))]) hx hb dX6_read_48 rfl hl (by decide) rfl (fun ls hl => ?_)
                refine lv_iinc (v := nI (j + 1)) (lv' := [(3, .int (nI (j + 1))), (2, .int (nI ((zct (fun s9 => decide (td s9 = nI (t + 1))) j) + 1))), (0, .ref (am 0)), (1, .int (nI (t + 1)))]) hx hb dX6_read_49 hl (k := 3) rfl (z_inc1 _) (by decide) rfl (fun ls hl => ?_)
                refine lv_goto (tgt := 23) hx hb dX6_read_52 (by decide) ?_
                have hl9 := lv_sub hl [2, 3, 1, 0] (l' := [(0, .ref (am 0)), (1, .int (nI (t + 1))), (2, .int (nI ((zct (fun s9 => decide (td s9 = nI (t + 1))) j) + 1))), (3, .int (nI (j + 1)))]) rfl
                have e9_2 : ((zct (fun s9 => decide (td s9 = nI (t + 1))) j) + 1) = (zct (fun s9 => decide (td s9 = nI (t + 1))) (j + 1)) := by first | exact zct_t (p := (fun s9 => decide (td s9 = nI (t + 1)))) (decide_eq_true c_35) | exact zct_f (p := (fun s9 => decide (td s9 = nI (t + 1)))) (decide_eq_false c_35)
                have e9_3 : (j + 1) = ((j + 1)) := by omega
                exact ih23 (j + 1) (by omega) (by omega) _ _ hS hz (⟨h0, h1, h2, h3, h4, h5, h6⟩) ls (by rw [← e9_2, ← e9_3]; exact hl9)
        exact L23 (((zpf cw ln).1 - (0)) + 1) (0) (Nat.lt_succ_self _) (Nat.zero_le _) _ _ hS hz (⟨h0, h1, h2, h3, h4, h5, h6⟩) ls (lv_sub hl [2, 3, 1, 0] rfl)
  exact L14 ((5 - (0)) + 1) (0) (Nat.lt_succ_self _) (by decide) (rfl) _ _ hS hz (⟨h0, h1, h2, h3, h4, h5, h6⟩) ls (lv_sub hl [1, 0] rfl)
