set_option maxHeartbeats 4000000 in
set_option maxRecDepth 100000 in
theorem lw_copy {p : Program} {e : Env} {s : State} {m : MethodId} {b L : Nat} {xs : Nat → Int32} {below : List Frame} {meth : Method} {c : Code} {E : zEnv} {ad : Nat → Nat} {ra ba ga ea ca : Nat} {Q : State → Prop} {i : Nat} (F : zLF E p s m c b L xs) (D : zLA ad ra ba ga ea ca s) (kk : zLJ p e s m b below meth c E ad ra ba ga ea ca Q i) {τ : zT} {rr : Nat → Nat} {bb gg : Nat → Int32} {ee : Nat → Nat} {cc : Nat → Int32} {H : Heap} {locs : List Loc} (hs : zLS E ad ra ba ga ea ca s τ rr bb gg ee cc H locs) {n9 k9 kd : Nat} {h9 : Int32} (hn9 : n9 < 6) (hk9 : 1 ≤ k9 ∧ k9 ≤ 5) (hr0 : ¬ zRn τ.1 n9 = 0) {ls : Array Slot} (hl : lv_has ls 22 [(0, .ref (b)), (1, .ref (ad 287)), (2, .ref (ra)), (3, .ref (ba)), (4, .ref (ga)), (5, .ref (ea)), (6, .ref (ca)), (7, .int (nI (zNl τ.1))), (8, .int (nI (i))), (9, .int (h9)), (10, .int (nI (kd))), (11, .int (nI (n9))), (12, .int (nI (k9))), (13, .int (-1)), (14, .int (nI (1))), (15, .int (zfm (zfd (zSz τ.1) 6)))]) : zLW p e s m b below meth c E Q H locs 692 ls [] := by
  obtain ⟨S, hG, hX, hbl, hL⟩ := id F
  obtain ⟨hinj, hA1, hdis, hge, hd1, hd2, hd3, hd4⟩ := id D
  obtain ⟨hx, hb, hml9, hown, hts⟩ := id S
  have hbA : ¬ (fun q : Nat => s.heap.size ≤ q) b := Nat.not_le.mpr hbl
  obtain ⟨hv, hCW0, hRW, hrel, hS⟩ := hs
  obtain ⟨nw, sv, an, hh, ct, ln, cd⟩ := τ
  have hCW : zCW E ad nw sv an hh ct ln cd H := hCW0
  have hrel : zRel nw rr bb gg ee cc := hrel
  have hok : zOk nw := hv.1
  have hct : ct ≤ 5 := hv.2.2.2.1
  obtain ⟨hr1, hr2, hr3, hr4, hr5⟩ := id hRW
  obtain ⟨f5, h5⟩ := zCW_recv hCW
  obtain ⟨e1r, e2r, e3r, e4r, e5r⟩ := id hrel
  have hml := hok.2.2.2.1
  have hnl := hok.2.2.2.2.1
  have hz : H.size = H.size := rfl
  have hl : lv_has ls 22 [(0, .ref (b)), (1, .ref (ad 287)), (2, .ref (ra)), (3, .ref (ba)), (4, .ref (ga)), (5, .ref (ea)), (6, .ref (ca)), (7, .int (nI (zNl nw))), (8, .int (nI (i))), (9, .int (h9)), (10, .int (nI (kd))), (11, .int (nI (n9))), (12, .int (nI (k9))), (13, .int (-1)), (14, .int (nI (1))), (15, .int (zfm (zfd (zSz nw) 6)))] := hl
  have hz0 : zSz nw n9 ≠ 0 := zRn_1 hr0
  have hs4 := hok.s4 hn9 hz0
  have hk4 := hok.k4 hn9
  have hb4 := hs4.b
  have hq4 := hs4.q
  obtain ⟨en, hen⟩ : ∃ y : Bool, y = zall (fun t => decide (nI (zcn (zKd nw n9) (nI (t + 1)) (zSz nw n9)) ≤ zBx nw (t + 1))) 5 := ⟨_, rfl⟩
  refine lv_aload_n hx hb dL_law_692 rfl (lv_at hl 3 rfl) ?_
  refine lv_aload_n hx hb dL_law_693 rfl (lv_at hl 2 rfl) ?_
  refine lv_iload hx hb dL_law_694 (lv_at hl 11 rfl) ?_
  refine z_lald (j := n9) hx hb hG hr1 ⟨by omega, by omega⟩ dL_law_696 ?_
  refine z_topl (y := lN (zLn (zKd nw n9) (zSz nw n9))) (congrArg lN ((e1r _ hn9).trans (zRn_e hz0))) ?_
  refine z_roSX (As := [.ref (ba), .long (lN (zLn (zKd nw n9) (zSz nw n9)))]) (rest := []) S hG (c_L_enough E (bb := bb) hs4 hk4) 2 gL_law_L_enough rfl kL_enough.2 ⟨Nat.le_of_ble_eq_true rfl, Nat.le_of_ble_eq_true rfl⟩ ⟨Nat.le_of_ble_eq_true rfl, Nat.le_of_ble_eq_true rfl⟩ (hr2) rfl hl.1 rfl rfl (Nat.le_of_ble_eq_true rfl) dL_law_697 ?_
  refine z_top (y := zb (en)) (by rw [hen]; exact congrArg zb (zall_cong fun t8 h8 => by rw [show bb t8 = zBx nw (t8 + 1) from (e2r (t8 + 1) (by omega) (by omega)).1])) ?_
  refine lv_istore (lv' := [(16, .int (zb (en))), (0, .ref (b)), (1, .ref (ad 287)), (2, .ref (ra)), (3, .ref (ba)), (4, .ref (ga)), (5, .ref (ea)), (6, .ref (ca)), (7, .int (nI (zNl nw))), (8, .int (nI (i))), (9, .int (h9)), (10, .int (nI (kd))), (11, .int (nI (n9))), (12, .int (nI (k9))), (13, .int (-1)), (14, .int (nI (1))), (15, .int (zfm (zfd (zSz nw) 6)))]) hx hb dL_law_700 hl (by decide) rfl (fun ls hl => ?_)
  rcases zbo_ca en with q1 | q1
  · rw [q1] at hl
    refine lv_aload_n hx hb dL_law_702 rfl (lv_at hl 2 rfl) ?_
    refine lv_iload hx hb dL_law_703 (lv_at hl 12 rfl) ?_
    refine z_wrV (As := [.int (nI (n9))]) (rest := []) (q := (RX5, TX5, 7)) S hG (c_X5_copy_1 E hok hinj hct hn9 hz0 (by rw [← hen]; exact q1)) 1 gL_law_X5_copy rfl kX5_copy ⟨Nat.le_of_ble_eq_true rfl, Nat.le_of_ble_eq_true rfl⟩ ⟨Nat.le_of_ble_eq_true rfl, Nat.le_of_ble_eq_true rfl⟩ (hCW) rfl h5 rfl hl.1 rfl rfl (Nat.le_of_ble_eq_true rfl) dL_law_705 hS (fun q h => hA1 q h) (fun Hn locs h_2 q_1 o_3 hS => ?_)
    have hz : Hn.size = H.size := q_1.trans hz
    have hCW := h_2
    have hr1 := va_at.kept hr1 (o_3 _ (hdis _ (Or.inl rfl)))
    have hr2 := va_at.kept hr2 (o_3 _ (hdis _ (Or.inr (Or.inl rfl))))
    have hr3 := va_at.kept hr3 (o_3 _ (hdis _ (Or.inr (Or.inr (Or.inl rfl)))))
    have hr4 := va_at.kept hr4 (o_3 _ (hdis _ (Or.inr (Or.inr (Or.inr (Or.inl rfl))))))
    have hr5 := va_at.kept hr5 (o_3 _ (hdis _ (Or.inr (Or.inr (Or.inr (Or.inr rfl))))))
    obtain ⟨f5, h5⟩ := zCW_recv hCW
    refine lv_iload hx hb dL_law_708 (lv_at hl 0 rfl) ?_
    refine z_bne (tgt := 718) hx hb dL_law_710 (by decide) (fun c_4 => by exfalso; cases c_4) (fun c_4 => ?_)
    refine lv_bipush (v := (-3)) hx hb dL_law_713 (by decide) ?_
    refine lv_goto (tgt := 730) hx hb dL_law_715 (by decide) ?_
    refine lv_icmp_ne (tgt := 737) hx hb dL_law_730 (by decide) (fun c_5 => by exfalso; exact c_5 rfl) (fun c_5 => ?_)
    refine lv_iconst (v := nI (1)) hx hb dL_law_733 (by decide) ?_
    refine lv_goto (tgt := 738) hx hb dL_law_734 (by decide) ?_
    refine lv_istore (lv' := [(14, .int (nI (1))), (16, .int (zb (false))), (0, .ref (b)), (1, .ref (ad 287)), (2, .ref (ra)), (3, .ref (ba)), (4, .ref (ga)), (5, .ref (ea)), (6, .ref (ca)), (7, .int (nI (zNl nw))), (8, .int (nI (i))), (9, .int (h9)), (10, .int (nI (kd))), (11, .int (nI (n9))), (12, .int (nI (k9))), (13, .int (-1)), (15, .int (zfm (zfd (zSz nw) 6)))]) hx hb dL_law_738 hl (by decide) rfl (fun ls hl => ?_)
    refine lv_iload hx hb dL_law_740 (lv_at hl 1 rfl) ?_
    refine z_beq (tgt := 791) hx hb dL_law_742 (by decide) (fun c_6 => ?_) (fun c_6 => by exfalso; cases c_6)
    refine lv_goto (tgt := 1734) hx hb dL_law_791 (by decide) ?_
    exact kk (nw, sv, an, hh, ct, ln, cd) (rr) (bb) (gg) (ee) (cc) _ _ ⟨hv, hCW, ⟨hr1, hr2, hr3, hr4, hr5⟩, hrel, hS⟩ n9 hn9 ls (lv_sub hl [2, 3, 4, 5, 6, 7, 8, 9, 10, 13, 0] rfl)
  · rw [q1] at hl
    refine lv_aload_n hx hb dL_law_702 rfl (lv_at hl 2 rfl) ?_
    rcases zfd_ca (zSz nw) with q2 | q2
    · rw [zfm_6 q2] at hl
      refine lv_iload hx hb dL_law_703 (lv_at hl 12 rfl) ?_
      refine z_wrV (As := [.int (nI (n9))]) (rest := []) (q := (RX5, TX5, 7)) S hG (c_X5_copy_2 E hok hinj hct hn9 hz0 (by rw [← hen]; exact q1) q2) 1 gL_law_X5_copy rfl kX5_copy ⟨Nat.le_of_ble_eq_true rfl, Nat.le_of_ble_eq_true rfl⟩ ⟨Nat.le_of_ble_eq_true rfl, Nat.le_of_ble_eq_true rfl⟩ (hCW) rfl h5 rfl hl.1 rfl rfl (Nat.le_of_ble_eq_true rfl) dL_law_705 hS (fun q h => hA1 q h) (fun Hn locs h_8 q_7 o_9 hS => ?_)
      have hz : Hn.size = H.size := q_7.trans hz
      have hCW := h_8
      have hr1 := va_at.kept hr1 (o_9 _ (hdis _ (Or.inl rfl)))
      have hr2 := va_at.kept hr2 (o_9 _ (hdis _ (Or.inr (Or.inl rfl))))
      have hr3 := va_at.kept hr3 (o_9 _ (hdis _ (Or.inr (Or.inr (Or.inl rfl)))))
      have hr4 := va_at.kept hr4 (o_9 _ (hdis _ (Or.inr (Or.inr (Or.inr (Or.inl rfl))))))
      have hr5 := va_at.kept hr5 (o_9 _ (hdis _ (Or.inr (Or.inr (Or.inr (Or.inr rfl))))))
      obtain ⟨f5, h5⟩ := zCW_recv hCW
      refine lv_iload hx hb dL_law_708 (lv_at hl 0 rfl) ?_
      refine z_bne (tgt := 718) hx hb dL_law_710 (by decide) (fun c_10 => ?_) (fun c_10 => by exfalso; cases c_10)
      refine lv_iload hx hb dL_law_718 (lv_at hl 16 rfl) ?_
      refine lv_if_ge (tgt := 728) hx hb dL_law_720 (by decide) (fun c_11 => by exfalso; exact absurd c_11 (by decide)) (fun c_11 => ?_)
      refine lv_bipush (v := (-4)) hx hb dL_law_723 (by decide) ?_
      refine lv_goto (tgt := 730) hx hb dL_law_725 (by decide) ?_
      refine lv_icmp_ne (tgt := 737) hx hb dL_law_730 (by decide) (fun c_12 => by exfalso; exact c_12 rfl) (fun c_12 => ?_)
      refine lv_iconst (v := nI (1)) hx hb dL_law_733 (by decide) ?_
      refine lv_goto (tgt := 738) hx hb dL_law_734 (by decide) ?_
      refine lv_istore (lv' := [(14, .int (nI (1))), (16, .int (zb (true))), (0, .ref (b)), (1, .ref (ad 287)), (2, .ref (ra)), (3, .ref (ba)), (4, .ref (ga)), (5, .ref (ea)), (6, .ref (ca)), (7, .int (nI (zNl nw))), (8, .int (nI (i))), (9, .int (h9)), (10, .int (nI (kd))), (11, .int (nI (n9))), (12, .int (nI (k9))), (13, .int (-1)), (15, .int (-1))]) hx hb dL_law_738 hl (by decide) rfl (fun ls hl => ?_)
      refine lv_iload hx hb dL_law_740 (lv_at hl 1 rfl) ?_
      refine z_beq (tgt := 791) hx hb dL_law_742 (by decide) (fun c_13 => by exfalso; cases c_13) (fun c_13 => ?_)
      refine lv_iload hx hb dL_law_745 (lv_at hl 16 rfl) ?_
      refine lv_if_lt (tgt := 791) hx hb dL_law_747 (by decide) (fun c_14 => ?_) (fun c_14 => by exfalso; exact c_14 (by decide))
      refine lv_goto (tgt := 1734) hx hb dL_law_791 (by decide) ?_
      exact kk (nw, sv, an, hh, ct, ln, cd) (rr) (bb) (gg) (ee) (cc) _ _ ⟨hv, hCW, ⟨hr1, hr2, hr3, hr4, hr5⟩, hrel, hS⟩ n9 hn9 ls (lv_sub hl [2, 3, 4, 5, 6, 7, 8, 9, 10, 13, 0] rfl)
    · rw [zfm_n q2] at hl
      refine lv_iload hx hb dL_law_703 (lv_at hl 12 rfl) ?_
      refine z_wrV (As := [.int (nI (n9))]) (rest := []) (q := (RX5, TX5, 7)) S hG (c_X5_copy_3 E hok hinj hct hn9 hz0 (by rw [← hen]; exact q1) q2) 1 gL_law_X5_copy rfl kX5_copy ⟨Nat.le_of_ble_eq_true rfl, Nat.le_of_ble_eq_true rfl⟩ ⟨Nat.le_of_ble_eq_true rfl, Nat.le_of_ble_eq_true rfl⟩ (hCW) rfl h5 rfl hl.1 rfl rfl (Nat.le_of_ble_eq_true rfl) dL_law_705 hS (fun q h => hA1 q h) (fun Hn locs h_16 q_15 o_17 hS => ?_)
      have hz : Hn.size = H.size := q_15.trans hz
      have hCW := h_16
      have hr1 := va_at.kept hr1 (o_17 _ (hdis _ (Or.inl rfl)))
      have hr2 := va_at.kept hr2 (o_17 _ (hdis _ (Or.inr (Or.inl rfl))))
      have hr3 := va_at.kept hr3 (o_17 _ (hdis _ (Or.inr (Or.inr (Or.inl rfl)))))
      have hr4 := va_at.kept hr4 (o_17 _ (hdis _ (Or.inr (Or.inr (Or.inr (Or.inl rfl))))))
      have hr5 := va_at.kept hr5 (o_17 _ (hdis _ (Or.inr (Or.inr (Or.inr (Or.inr rfl))))))
      obtain ⟨f5, h5⟩ := zCW_recv hCW
      refine lv_iload hx hb dL_law_708 (lv_at hl 0 rfl) ?_
      refine z_bne (tgt := 718) hx hb dL_law_710 (by decide) (fun c_18 => ?_) (fun c_18 => by exfalso; cases c_18)
      refine lv_iload hx hb dL_law_718 (lv_at hl 16 rfl) ?_
      refine z_fge (tgt := 728) hx hb dL_law_720 (by decide) (by omega) ?_
      refine lv_iload hx hb dL_law_728 (lv_at hl 16 rfl) ?_
      refine lv_icmp_ne (tgt := 737) hx hb dL_law_730 (by decide) (fun c_20 => by exfalso; exact c_20 rfl) (fun c_20 => ?_)
      refine lv_iconst (v := nI (1)) hx hb dL_law_733 (by decide) ?_
      refine lv_goto (tgt := 738) hx hb dL_law_734 (by decide) ?_
      refine lv_istore (lv' := [(14, .int (nI (1))), (16, .int (zb (true))), (0, .ref (b)), (1, .ref (ad 287)), (2, .ref (ra)), (3, .ref (ba)), (4, .ref (ga)), (5, .ref (ea)), (6, .ref (ca)), (7, .int (nI (zNl nw))), (8, .int (nI (i))), (9, .int (h9)), (10, .int (nI (kd))), (11, .int (nI (n9))), (12, .int (nI (k9))), (13, .int (-1)), (15, .int (nI (zfd (zSz nw) 6)))]) hx hb dL_law_738 hl (by decide) rfl (fun ls hl => ?_)
      refine lv_iload hx hb dL_law_740 (lv_at hl 1 rfl) ?_
      refine z_beq (tgt := 791) hx hb dL_law_742 (by decide) (fun c_21 => by exfalso; cases c_21) (fun c_21 => ?_)
      refine lv_iload hx hb dL_law_745 (lv_at hl 16 rfl) ?_
      refine z_flt (tgt := 791) hx hb dL_law_747 (by decide) (by omega) ?_
      refine lv_aload_n hx hb dL_law_750 rfl (lv_at hl 4 rfl) ?_
      refine lv_iload hx hb dL_law_751 (lv_at hl 16 rfl) ?_
      refine lv_aload_n hx hb dL_law_753 rfl (lv_at hl 4 rfl) ?_
      refine lv_iload hx hb dL_law_754 (lv_at hl 13 rfl) ?_
      refine z_lald (j := n9) hx hb hG hr1 ⟨by omega, by omega⟩ dL_law_756 ?_
      refine z_topl (y := lN (zLn (zKd nw n9) (zSz nw n9))) (congrArg lN ((e1r _ hn9).trans (zRn_e hz0))) ?_
      refine z_last (j := zfd (zSz nw) 6) hx hb hG hr1 ⟨by omega, by omega⟩ hS (hge _ (Or.inl rfl)) dL_law_757 (fun Hn locs h_23 o_24 hS => ?_)
      have hCW := zCW_kept hCW (fun q hq => o_24.2 q (fun e9 => hdis q (by rw [e9]; exact Or.inl rfl) hq))
      have hr1 := h_23
      have hr2 := va_at.kept hr2 (o_24.2 _ (by omega))
      have hr3 := va_at.kept hr3 (o_24.2 _ (by omega))
      have hr4 := va_at.kept hr4 (o_24.2 _ (by omega))
      have hr5 := va_at.kept hr5 (o_24.2 _ (by omega))
      obtain ⟨f5, h5⟩ := zCW_recv hCW
      have hz : Hn.size = H.size := o_24.1.trans hz
      refine lv_iconst (v := nI (1)) hx hb dL_law_758 (by decide) ?_
      refine lv_istore (lv' := [(17, .int (nI (1))), (14, .int (nI (1))), (16, .int (zb (true))), (0, .ref (b)), (1, .ref (ad 287)), (2, .ref (ra)), (3, .ref (ba)), (4, .ref (ga)), (5, .ref (ea)), (6, .ref (ca)), (7, .int (nI (zNl nw))), (8, .int (nI (i))), (9, .int (h9)), (10, .int (nI (kd))), (11, .int (nI (n9))), (12, .int (nI (k9))), (13, .int (-1)), (15, .int (nI (zfd (zSz nw) 6)))]) hx hb dL_law_759 hl (by decide) rfl (fun ls hl => ?_)
      have L761 : ∀ (dd : Nat) (k : Nat), 5 - k < dd → (k ≤ 5) → ∀ (Hn : Heap) (locs : List Loc) (hS : va_S (fun q => s.heap.size ≤ q) s.heap Hn locs) (hz : Hn.size = H.size) (hCW : zCW E ad (zsRg (zsBx nw (zto (zBx nw) (fun t => zcn (zKd nw n9) (nI t) (zSz nw n9)) 5)) (zfd (zSz nw) 6) (zSz nw n9) (zKd nw n9)) sv an (zrH hh ct nw) (zrC ct) ln cd Hn) (hr1 : zLo E ra 6 (zun rr (zfd (zSz nw) 6) (zLn (zKd nw n9) (zSz nw n9))) Hn) (hr2 : zat E ba (.inl (zI E, 10, .inl (zcs bb (fun t => zcn (zKd nw n9) (nI t) (zSz nw n9)) k))) Hn) (hr3 : zat E ga (.inl (zI E, 7, .inl (gg))) Hn) (hr4 : zLo E ea 10 ee Hn) (hr5 : zat E ca (.inl (zI E, 10, .inl cc)) Hn) (ls : Array Slot), lv_has ls 22 [(0, .ref (b)), (1, .ref (ad 287)), (2, .ref (ra)), (3, .ref (ba)), (4, .ref (ga)), (5, .ref (ea)), (6, .ref (ca)), (7, .int (nI (zNl nw))), (8, .int (nI (i))), (9, .int (h9)), (10, .int (nI (kd))), (11, .int (nI (n9))), (12, .int (nI (k9))), (13, .int (-1)), (14, .int (nI (1))), (15, .int (nI (zfd (zSz nw) 6))), (16, .int (zb (true))), (17, .int (nI (k + 1)))] → zLW p e s m b below meth c E Q Hn locs 761 ls [] := by
        intro dd
        induction dd with
        | zero => intro k hdd; exact absurd hdd (Nat.not_lt_zero _)
        | succ dd ih761 =>
          intro k hdd761 hk5 Hn locs hS hz hCW hr1 hr2 hr3 hr4 hr5 ls hl
          obtain ⟨f5, h5⟩ := zCW_recv hCW
          refine lv_iload hx hb dL_law_761 (lv_at hl 17 rfl) ?_
          refine lv_iconst (v := nI (5)) hx hb dL_law_763 (by decide) ?_
          refine z_cgt (tgt := 791) hx hb dL_law_764 (by decide) ⟨by omega, by omega⟩ (fun c_25 => ?_) (fun c_25 => ?_)
          · refine lv_goto (tgt := 1734) hx hb dL_law_791 (by decide) ?_
            exact kk (ztR (nw, sv, an, hh, ct, ln, cd) (zsRg (zsBx nw (zto (zBx nw) (fun t => zcn (zKd nw n9) (nI t) (zSz nw n9)) 5)) (zfd (zSz nw) 6) (zSz nw n9) (zKd nw n9))) (zun rr (zfd (zSz nw) 6) (zLn (zKd nw n9) (zSz nw n9))) (zcs bb (fun t => zcn (zKd nw n9) (nI t) (zSz nw n9)) k) (gg) (ee) (cc) _ _ ⟨zInv_r hv (zOk_rg (zOk_bx hok (zto_k hok (by rw [← hen]; exact q1) hb4.2.1)) q2 (Or.inr hs4) hk4), hCW, ⟨hr1, hr2, hr3, hr4, hr5⟩, (by rw [show k = 5 by omega]; exact zR_rg (zR_to hrel) q2 (fun e9 => absurd e9 hz0) (fun _ => rfl)), hS⟩ n9 hn9 ls (lv_sub hl [0, 1, 2, 3, 4, 5, 6, 7, 8, 11, 14] rfl)
          · refine lv_aload_n hx hb dL_law_767 rfl (lv_at hl 3 rfl) ?_
            refine lv_iload hx hb dL_law_768 (lv_at hl 17 rfl) ?_
            refine lv_iconst (v := nI (1)) hx hb dL_law_770 (by decide) ?_
            refine z_isub hx hb dL_law_771 (by omega) ?_
            refine z_top (y := nI (k)) (by rw [Nat.add_sub_cancel]) ?_
            refine lv_dup2_11 hx hb dL_law_772 rfl rfl ?_
            refine z_iald (j := k) hx hb hG hr2 ⟨by omega, by omega⟩ dL_law_773 ?_
            refine lv_aload_n hx hb dL_law_774 rfl (lv_at hl 2 rfl) ?_
            refine lv_iload hx hb dL_law_775 (lv_at hl 11 rfl) ?_
            refine z_lald (j := n9) hx hb hG hr1 ⟨by omega, by omega⟩ dL_law_777 ?_
            refine z_topl (y := lN (zLn (zKd nw n9) (zSz nw n9))) (congrArg lN ((zun_n (fun e9 => hz0 (by rw [e9]; exact zfd_0 rfl q2))).trans ((e1r _ hn9).trans (zRn_e hz0)))) ?_
            refine lv_iload hx hb dL_law_778 (lv_at hl 17 rfl) ?_
            refine z_roSX (As := [.long (lN (zLn (zKd nw n9) (zSz nw n9))), .int (nI (k + 1))]) (rest := [.int ((zcs bb (fun t => zcn (zKd nw n9) (nI t) (zSz nw n9)) k) k), .int (nI (k)), .ref (ba)]) S hG (c_L_charms E (x := nI (k + 1)) hs4 hk4) 2 gL_law_L_charms rfl kL_charms.2 ⟨Nat.le_of_ble_eq_true rfl, Nat.le_of_ble_eq_true rfl⟩ ⟨Nat.le_of_ble_eq_true rfl, Nat.le_of_ble_eq_true rfl⟩ (trivial) rfl hl.1 rfl rfl (Nat.le_of_ble_eq_true rfl) dL_law_780 ?_
            refine lv_isub hx hb dL_law_783 ?_
            refine z_iast (j := k) hx hb hG hr2 ⟨by omega, by omega⟩ hS (hge _ (Or.inr (Or.inl rfl))) dL_law_784 (fun Hn locs h_26 o_27 hS => ?_)
            have hCW := zCW_kept hCW (fun q hq => o_27.2 q (fun e9 => hdis q (by rw [e9]; exact Or.inr (Or.inl rfl)) hq))
            have hr1 := va_at.kept hr1 (o_27.2 _ (by omega))
            have hr2 := h_26
            have hr3 := va_at.kept hr3 (o_27.2 _ (by omega))
            have hr4 := va_at.kept hr4 (o_27.2 _ (by omega))
            have hr5 := va_at.kept hr5 (o_27.2 _ (by omega))
            obtain ⟨f5, h5⟩ := zCW_recv hCW
            have hz : Hn.size = H.size := o_27.1.trans hz
            refine lv_iinc (v := nI (k + 1 + 1)) (lv' := [(17, .int (nI (k + 1 + 1))), (0, .ref (b)), (1, .ref (ad 287)), (2, .ref (ra)), (3, .ref (ba)), (4, .ref (ga)), (5, .ref (ea)), (6, .ref (ca)), (7, .int (nI (zNl nw))), (8, .int (nI (i))), (9, .int (h9)), (10, .int (nI (kd))), (11, .int (nI (n9))), (12, .int (nI (k9))), (13, .int (-1)), (14, .int (nI (1))), (15, .int (nI (zfd (zSz nw) 6))), (16, .int (zb (true)))]) hx hb dL_law_785 hl (k := 17) rfl (z_inc1 _) (by decide) rfl (fun ls hl => ?_)
            refine lv_goto (tgt := 761) hx hb dL_law_788 (by decide) ?_
            have hl9 := lv_sub hl [1, 2, 3, 4, 5, 6, 7, 8, 9, 10, 11, 12, 13, 14, 15, 16, 17, 0] (l' := [(0, .ref (b)), (1, .ref (ad 287)), (2, .ref (ra)), (3, .ref (ba)), (4, .ref (ga)), (5, .ref (ea)), (6, .ref (ca)), (7, .int (nI (zNl nw))), (8, .int (nI (i))), (9, .int (h9)), (10, .int (nI (kd))), (11, .int (nI (n9))), (12, .int (nI (k9))), (13, .int (-1)), (14, .int (nI (1))), (15, .int (nI (zfd (zSz nw) 6))), (16, .int (zb (true))), (17, .int (nI (k + 1 + 1)))]) rfl
            have e9_17 : (k + 1 + 1) = ((k + 1) + 1) := by omega
            exact ih761 (k + 1) (by omega) (by omega) _ _ hS hz (hCW) (hr1) (by rw [← zcs_s]; exact hr2) (hr3) (hr4) (hr5) ls (by rw [← e9_17]; exact hl9)
      exact L761 ((5 - (0)) + 1) (0) (Nat.lt_succ_self _) (by omega) _ _ hS hz (hCW) (hr1) (by rw [← zcs_0]; exact hr2) (hr3) (hr4) (hr5) ls (lv_sub hl [3, 4, 5, 6, 7, 8, 9, 10, 11, 12, 13, 14, 15, 16, 1, 17, 2, 0] rfl)

set_option maxHeartbeats 4000000 in
set_option maxRecDepth 100000 in
theorem lw_remove {p : Program} {e : Env} {s : State} {m : MethodId} {b L : Nat} {xs : Nat → Int32} {below : List Frame} {meth : Method} {c : Code} {E : zEnv} {ad : Nat → Nat} {ra ba ga ea ca : Nat} {Q : State → Prop} {i : Nat} (F : zLF E p s m c b L xs) (D : zLA ad ra ba ga ea ca s) (kk : zLJ p e s m b below meth c E ad ra ba ga ea ca Q i) {τ : zT} {rr : Nat → Nat} {bb gg : Nat → Int32} {ee : Nat → Nat} {cc : Nat → Int32} {H : Heap} {locs : List Loc} (hs : zLS E ad ra ba ga ea ca s τ rr bb gg ee cc H locs) {n9 k9 kd : Nat} {h9 : Int32} (hn9 : n9 < 6) (hk9 : 1 ≤ k9 ∧ k9 ≤ 5) (hr0 : ¬ zRn τ.1 n9 = 0) {ls : Array Slot} (hl : lv_has ls 22 [(0, .ref (b)), (1, .ref (ad 287)), (2, .ref (ra)), (3, .ref (ba)), (4, .ref (ga)), (5, .ref (ea)), (6, .ref (ca)), (7, .int (nI (zNl τ.1))), (8, .int (nI (i))), (9, .int (h9)), (10, .int (nI (kd))), (11, .int (nI (n9))), (12, .int (nI (k9))), (13, .int (-1)), (14, .int (nI (1))), (15, .int (zfm (zfd (zSz τ.1) 6)))]) : zLW p e s m b below meth c E Q H locs 813 ls [] := by
  obtain ⟨S, hG, hX, hbl, hL⟩ := id F
  obtain ⟨hinj, hA1, hdis, hge, hd1, hd2, hd3, hd4⟩ := id D
  obtain ⟨hx, hb, hml9, hown, hts⟩ := id S
  have hbA : ¬ (fun q : Nat => s.heap.size ≤ q) b := Nat.not_le.mpr hbl
  obtain ⟨hv, hCW0, hRW, hrel, hS⟩ := hs
  obtain ⟨nw, sv, an, hh, ct, ln, cd⟩ := τ
  have hCW : zCW E ad nw sv an hh ct ln cd H := hCW0
  have hrel : zRel nw rr bb gg ee cc := hrel
  have hok : zOk nw := hv.1
  have hct : ct ≤ 5 := hv.2.2.2.1
  obtain ⟨hr1, hr2, hr3, hr4, hr5⟩ := id hRW
  obtain ⟨f5, h5⟩ := zCW_recv hCW
  obtain ⟨e1r, e2r, e3r, e4r, e5r⟩ := id hrel
  have hml := hok.2.2.2.1
  have hnl := hok.2.2.2.2.1
  have hz : H.size = H.size := rfl
  have hl : lv_has ls 22 [(0, .ref (b)), (1, .ref (ad 287)), (2, .ref (ra)), (3, .ref (ba)), (4, .ref (ga)), (5, .ref (ea)), (6, .ref (ca)), (7, .int (nI (zNl nw))), (8, .int (nI (i))), (9, .int (h9)), (10, .int (nI (kd))), (11, .int (nI (n9))), (12, .int (nI (k9))), (13, .int (-1)), (14, .int (nI (1))), (15, .int (zfm (zfd (zSz nw) 6)))] := hl
  have hz0 : zSz nw n9 ≠ 0 := zRn_1 hr0
  have hs4 := hok.s4 hn9 hz0
  have hk4 := hok.k4 hn9
  have hb4 := hs4.b
  have hq4 := hs4.q
  obtain ⟨rm, hrm⟩ : ∃ y : Bool, y = zall (fun t => decide (zBx nw (t + 1) + nI (zcn (zKd nw n9) (nI (t + 1)) (zSz nw n9)) ≤ nI 99)) 5 := ⟨_, rfl⟩
  refine lv_aload_n hx hb dL_law_813 rfl (lv_at hl 3 rfl) ?_
  refine lv_aload_n hx hb dL_law_814 rfl (lv_at hl 2 rfl) ?_
  refine lv_iload hx hb dL_law_815 (lv_at hl 11 rfl) ?_
  refine z_lald (j := n9) hx hb hG hr1 ⟨by omega, by omega⟩ dL_law_817 ?_
  refine z_topl (y := lN (zLn (zKd nw n9) (zSz nw n9))) (congrArg lN ((e1r _ hn9).trans (zRn_e hz0))) ?_
  refine z_roSX (As := [.ref (ba), .long (lN (zLn (zKd nw n9) (zSz nw n9)))]) (rest := []) S hG (c_L_room E (bb := bb) hs4 hk4) 2 gL_law_L_room rfl kL_room.2 ⟨Nat.le_of_ble_eq_true rfl, Nat.le_of_ble_eq_true rfl⟩ ⟨Nat.le_of_ble_eq_true rfl, Nat.le_of_ble_eq_true rfl⟩ (hr2) rfl hl.1 rfl rfl (Nat.le_of_ble_eq_true rfl) dL_law_818 ?_
  refine z_top (y := zb (rm)) (by rw [hrm]; exact congrArg zb (zall_cong fun t8 h8 => by rw [show bb t8 = zBx nw (t8 + 1) from (e2r (t8 + 1) (by omega) (by omega)).1])) ?_
  refine lv_istore (lv' := [(16, .int (zb (rm))), (0, .ref (b)), (1, .ref (ad 287)), (2, .ref (ra)), (3, .ref (ba)), (4, .ref (ga)), (5, .ref (ea)), (6, .ref (ca)), (7, .int (nI (zNl nw))), (8, .int (nI (i))), (9, .int (h9)), (10, .int (nI (kd))), (11, .int (nI (n9))), (12, .int (nI (k9))), (13, .int (-1)), (14, .int (nI (1))), (15, .int (zfm (zfd (zSz nw) 6)))]) hx hb dL_law_821 hl (by decide) rfl (fun ls hl => ?_)
  rcases zbo_ca rm with q1 | q1
  · rw [q1] at hl
    refine lv_aload_n hx hb dL_law_823 rfl (lv_at hl 2 rfl) ?_
    refine lv_iload hx hb dL_law_824 (lv_at hl 12 rfl) ?_
    refine z_wrV (As := [.int (nI (n9))]) (rest := []) (q := (RX5, TX5, 7)) S hG (c_X5_remove_1 E hok hinj hct hn9 hz0 (by rw [← hrm]; exact q1)) 1 gL_law_X5_remove rfl kX5_remove ⟨Nat.le_of_ble_eq_true rfl, Nat.le_of_ble_eq_true rfl⟩ ⟨Nat.le_of_ble_eq_true rfl, Nat.le_of_ble_eq_true rfl⟩ (hCW) rfl h5 rfl hl.1 rfl rfl (Nat.le_of_ble_eq_true rfl) dL_law_826 hS (fun q h => hA1 q h) (fun Hn locs h_2 q_1 o_3 hS => ?_)
    have hz : Hn.size = H.size := q_1.trans hz
    have hCW := h_2
    have hr1 := va_at.kept hr1 (o_3 _ (hdis _ (Or.inl rfl)))
    have hr2 := va_at.kept hr2 (o_3 _ (hdis _ (Or.inr (Or.inl rfl))))
    have hr3 := va_at.kept hr3 (o_3 _ (hdis _ (Or.inr (Or.inr (Or.inl rfl)))))
    have hr4 := va_at.kept hr4 (o_3 _ (hdis _ (Or.inr (Or.inr (Or.inr (Or.inl rfl))))))
    have hr5 := va_at.kept hr5 (o_3 _ (hdis _ (Or.inr (Or.inr (Or.inr (Or.inr rfl))))))
    obtain ⟨f5, h5⟩ := zCW_recv hCW
    refine lv_iload hx hb dL_law_829 (lv_at hl 0 rfl) ?_
    refine z_beq (tgt := 853) hx hb dL_law_831 (by decide) (fun c_4 => ?_) (fun c_4 => by exfalso; cases c_4)
    refine lv_bipush (v := (-3)) hx hb dL_law_853 (by decide) ?_
    refine lv_icmp_ne (tgt := 862) hx hb dL_law_855 (by decide) (fun c_5 => by exfalso; exact c_5 rfl) (fun c_5 => ?_)
    refine lv_iconst (v := nI (1)) hx hb dL_law_858 (by decide) ?_
    refine lv_goto (tgt := 863) hx hb dL_law_859 (by decide) ?_
    refine lv_istore (lv' := [(14, .int (nI (1))), (16, .int (zb (false))), (0, .ref (b)), (1, .ref (ad 287)), (2, .ref (ra)), (3, .ref (ba)), (4, .ref (ga)), (5, .ref (ea)), (6, .ref (ca)), (7, .int (nI (zNl nw))), (8, .int (nI (i))), (9, .int (h9)), (10, .int (nI (kd))), (11, .int (nI (n9))), (12, .int (nI (k9))), (13, .int (-1)), (15, .int (zfm (zfd (zSz nw) 6)))]) hx hb dL_law_863 hl (by decide) rfl (fun ls hl => ?_)
    refine lv_iconst (v := nI (1)) hx hb dL_law_865 (by decide) ?_
    refine lv_istore (lv' := [(17, .int (nI (1))), (14, .int (nI (1))), (16, .int (zb (false))), (0, .ref (b)), (1, .ref (ad 287)), (2, .ref (ra)), (3, .ref (ba)), (4, .ref (ga)), (5, .ref (ea)), (6, .ref (ca)), (7, .int (nI (zNl nw))), (8, .int (nI (i))), (9, .int (h9)), (10, .int (nI (kd))), (11, .int (nI (n9))), (12, .int (nI (k9))), (13, .int (-1)), (15, .int (zfm (zfd (zSz nw) 6)))]) hx hb dL_law_866 hl (by decide) rfl (fun ls hl => ?_)
    have L868 : ∀ (dd : Nat) (k : Nat), k < dd → (k ≤ 5) → ∀ (Hn : Heap) (locs : List Loc) (hS : va_S (fun q => s.heap.size ≤ q) s.heap Hn locs) (hz : Hn.size = H.size) (hCW : zCW E ad nw sv an hh ct ln cd Hn) (hr1 : zLo E ra 6 (rr) Hn) (hr2 : zat E ba (.inl (zI E, 10, .inl (bb))) Hn) (hr3 : zat E ga (.inl (zI E, 7, .inl (gg))) Hn) (hr4 : zLo E ea 10 ee Hn) (hr5 : zat E ca (.inl (zI E, 10, .inl cc)) Hn) (ls : Array Slot), lv_has ls 22 [(0, .ref (b)), (1, .ref (ad 287)), (2, .ref (ra)), (3, .ref (ba)), (4, .ref (ga)), (5, .ref (ea)), (6, .ref (ca)), (7, .int (nI (zNl nw))), (8, .int (nI (i))), (9, .int (h9)), (10, .int (nI (kd))), (11, .int (nI (n9))), (12, .int (nI (k9))), (13, .int (-1)), (14, .int (nI (1))), (15, .int (zfm (zfd (zSz nw) 6))), (16, .int (zb (false))), (17, .int (nI (k + 1)))] → zLW p e s m b below meth c E Q Hn locs 868 ls [] := by
      intro dd
      induction dd with
      | zero => intro k hdd; exact absurd hdd (Nat.not_lt_zero _)
      | succ dd ih868 =>
        intro k hdd868 hk5 Hn locs hS hz hCW hr1 hr2 hr3 hr4 hr5 ls hl
        obtain ⟨f5, h5⟩ := zCW_recv hCW
        refine lv_iload hx hb dL_law_868 (lv_at hl 17 rfl) ?_
        refine lv_iconst (v := nI (5)) hx hb dL_law_870 (by decide) ?_
        refine z_cgt (tgt := 903) hx hb dL_law_871 (by decide) ⟨by omega, by omega⟩ (fun c_6 => ?_) (fun c_6 => ?_)
        · refine lv_aload_n hx hb dL_law_903 rfl (lv_at hl 2 rfl) ?_
          refine lv_iload hx hb dL_law_904 (lv_at hl 11 rfl) ?_
          refine lv_iload hx hb dL_law_906 (lv_at hl 16 rfl) ?_
          refine z_beq (tgt := 915) hx hb dL_law_908 (by decide) (fun c_7 => ?_) (fun c_7 => by exfalso; cases c_7)
          refine lv_aload_n hx hb dL_law_915 rfl (lv_at hl 2 rfl) ?_
          refine lv_iload hx hb dL_law_916 (lv_at hl 11 rfl) ?_
          refine z_lald (j := n9) hx hb hG hr1 ⟨by omega, by omega⟩ dL_law_918 ?_
          refine z_topl (y := lN (zLn (zKd nw n9) (zSz nw n9))) (congrArg lN ((e1r _ hn9).trans (zRn_e hz0))) ?_
          refine z_last (j := n9) hx hb hG hr1 ⟨by omega, by omega⟩ hS (hge _ (Or.inl rfl)) dL_law_919 (fun Hn locs h_8 o_9 hS => ?_)
          have hCW := zCW_kept hCW (fun q hq => o_9.2 q (fun e9 => hdis q (by rw [e9]; exact Or.inl rfl) hq))
          have hr1 := h_8
          have hr2 := va_at.kept hr2 (o_9.2 _ (by omega))
          have hr3 := va_at.kept hr3 (o_9.2 _ (by omega))
          have hr4 := va_at.kept hr4 (o_9.2 _ (by omega))
          have hr5 := va_at.kept hr5 (o_9.2 _ (by omega))
          obtain ⟨f5, h5⟩ := zCW_recv hCW
          have hz : Hn.size = H.size := o_9.1.trans hz
          refine lv_goto (tgt := 1734) hx hb dL_law_920 (by decide) ?_
          exact kk (nw, sv, an, hh, ct, ln, cd) (zun rr n9 (zLn (zKd nw n9) (zSz nw n9))) (bb) (gg) (ee) (cc) _ _ ⟨hv, hCW, ⟨hr1, hr2, hr3, hr4, hr5⟩, zR_same hrel hn9 (zRn_e hz0).symm, hS⟩ n9 hn9 ls (lv_sub hl [0, 1, 2, 3, 4, 5, 6, 7, 8, 11, 14] rfl)
        · refine lv_iload hx hb dL_law_874 (lv_at hl 16 rfl) ?_
          refine z_beq (tgt := 903) hx hb dL_law_876 (by decide) (fun c_10 => ?_) (fun c_10 => by exfalso; cases c_10)
          refine lv_aload_n hx hb dL_law_903 rfl (lv_at hl 2 rfl) ?_
          refine lv_iload hx hb dL_law_904 (lv_at hl 11 rfl) ?_
          refine lv_iload hx hb dL_law_906 (lv_at hl 16 rfl) ?_
          refine z_beq (tgt := 915) hx hb dL_law_908 (by decide) (fun c_11 => ?_) (fun c_11 => by exfalso; cases c_11)
          refine lv_aload_n hx hb dL_law_915 rfl (lv_at hl 2 rfl) ?_
          refine lv_iload hx hb dL_law_916 (lv_at hl 11 rfl) ?_
          refine z_lald (j := n9) hx hb hG hr1 ⟨by omega, by omega⟩ dL_law_918 ?_
          refine z_topl (y := lN (zLn (zKd nw n9) (zSz nw n9))) (congrArg lN ((e1r _ hn9).trans (zRn_e hz0))) ?_
          refine z_last (j := n9) hx hb hG hr1 ⟨by omega, by omega⟩ hS (hge _ (Or.inl rfl)) dL_law_919 (fun Hn locs h_12 o_13 hS => ?_)
          have hCW := zCW_kept hCW (fun q hq => o_13.2 q (fun e9 => hdis q (by rw [e9]; exact Or.inl rfl) hq))
          have hr1 := h_12
          have hr2 := va_at.kept hr2 (o_13.2 _ (by omega))
          have hr3 := va_at.kept hr3 (o_13.2 _ (by omega))
          have hr4 := va_at.kept hr4 (o_13.2 _ (by omega))
          have hr5 := va_at.kept hr5 (o_13.2 _ (by omega))
          obtain ⟨f5, h5⟩ := zCW_recv hCW
          have hz : Hn.size = H.size := o_13.1.trans hz
          refine lv_goto (tgt := 1734) hx hb dL_law_920 (by decide) ?_
          exact kk (nw, sv, an, hh, ct, ln, cd) (zun rr n9 (zLn (zKd nw n9) (zSz nw n9))) (bb) (gg) (ee) (cc) _ _ ⟨hv, hCW, ⟨hr1, hr2, hr3, hr4, hr5⟩, zR_same hrel hn9 (zRn_e hz0).symm, hS⟩ n9 hn9 ls (lv_sub hl [0, 1, 2, 3, 4, 5, 6, 7, 8, 11, 14] rfl)
    exact L868 (((0)) + 1) (0) (Nat.lt_succ_self _) (by omega) _ _ hS hz (hCW) (hr1) (hr2) (hr3) (hr4) (hr5) ls (lv_sub hl [3, 4, 5, 6, 7, 8, 9, 10, 11, 12, 13, 14, 15, 16, 1, 17, 2, 0] rfl)
  · rw [q1] at hl
    refine lv_aload_n hx hb dL_law_823 rfl (lv_at hl 2 rfl) ?_
    refine lv_iload hx hb dL_law_824 (lv_at hl 12 rfl) ?_
    refine z_wrV (As := [.int (nI (n9))]) (rest := []) (q := (RX5, TX5, 7)) S hG (c_X5_remove_2 E hok hinj hct hn9 hz0 (by rw [← hrm]; exact q1)) 1 gL_law_X5_remove rfl kX5_remove ⟨Nat.le_of_ble_eq_true rfl, Nat.le_of_ble_eq_true rfl⟩ ⟨Nat.le_of_ble_eq_true rfl, Nat.le_of_ble_eq_true rfl⟩ (hCW) rfl h5 rfl hl.1 rfl rfl (Nat.le_of_ble_eq_true rfl) dL_law_826 hS (fun q h => hA1 q h) (fun Hn locs h_15 q_14 o_16 hS => ?_)
    have hz : Hn.size = H.size := q_14.trans hz
    have hCW := h_15
    have hr1 := va_at.kept hr1 (o_16 _ (hdis _ (Or.inl rfl)))
    have hr2 := va_at.kept hr2 (o_16 _ (hdis _ (Or.inr (Or.inl rfl))))
    have hr3 := va_at.kept hr3 (o_16 _ (hdis _ (Or.inr (Or.inr (Or.inl rfl)))))
    have hr4 := va_at.kept hr4 (o_16 _ (hdis _ (Or.inr (Or.inr (Or.inr (Or.inl rfl))))))
    have hr5 := va_at.kept hr5 (o_16 _ (hdis _ (Or.inr (Or.inr (Or.inr (Or.inr rfl))))))
    obtain ⟨f5, h5⟩ := zCW_recv hCW
    refine lv_iload hx hb dL_law_829 (lv_at hl 0 rfl) ?_
    refine z_beq (tgt := 853) hx hb dL_law_831 (by decide) (fun c_17 => by exfalso; cases c_17) (fun c_17 => ?_)
    refine lv_aload_n hx hb dL_law_834 rfl (lv_at hl 3 rfl) ?_
    refine lv_iload hx hb dL_law_835 (lv_at hl 12 rfl) ?_
    refine z_lald (j := n9) hx hb hG hr1 ⟨by omega, by omega⟩ dL_law_837 ?_
    refine z_topl (y := lN (zLn (zKd nw n9) (zSz nw n9))) (congrArg lN ((e1r _ hn9).trans (zRn_e hz0))) ?_
    refine z_roSX (As := [.long (lN (zLn (zKd nw n9) (zSz nw n9)))]) (rest := [.int (nI ((zSz nw n9) - zcn (zKd nw n9) 0 (zSz nw n9)))]) S hG (c_L_slots E hs4 hk4) 1 gL_law_L_slots rfl kL_slots.2 ⟨Nat.le_of_ble_eq_true rfl, Nat.le_of_ble_eq_true rfl⟩ ⟨Nat.le_of_ble_eq_true rfl, Nat.le_of_ble_eq_true rfl⟩ (trivial) rfl hl.1 rfl rfl (Nat.le_of_ble_eq_true rfl) dL_law_838 ?_
    refine lv_aload_n hx hb dL_law_841 rfl (lv_at hl 3 rfl) ?_
    refine lv_iload hx hb dL_law_842 (lv_at hl 12 rfl) ?_
    refine z_lald (j := n9) hx hb hG hr1 ⟨by omega, by omega⟩ dL_law_844 ?_
    refine z_topl (y := lN (zLn (zKd nw n9) (zSz nw n9))) (congrArg lN ((e1r _ hn9).trans (zRn_e hz0))) ?_
    refine lv_iconst (v := nI (0)) hx hb dL_law_845 (by decide) ?_
    refine z_roSX (As := [.long (lN (zLn (zKd nw n9) (zSz nw n9))), .int (nI (0))]) (rest := [.int (nI (zSz nw n9)), .int (nI ((zSz nw n9) - zcn (zKd nw n9) 0 (zSz nw n9)))]) S hG (c_L_charms E (x := nI 0) hs4 hk4) 2 gL_law_L_charms rfl kL_charms.2 ⟨Nat.le_of_ble_eq_true rfl, Nat.le_of_ble_eq_true rfl⟩ ⟨Nat.le_of_ble_eq_true rfl, Nat.le_of_ble_eq_true rfl⟩ (trivial) rfl hl.1 rfl rfl (Nat.le_of_ble_eq_true rfl) dL_law_846 ?_
    refine z_isub hx hb dL_law_849 (zcn_le _ _ _) ?_
    refine lv_goto (tgt := 855) hx hb dL_law_850 (by decide) ?_
    refine lv_icmp_ne (tgt := 862) hx hb dL_law_855 (by decide) (fun c_18 => by exfalso; exact c_18 rfl) (fun c_18 => ?_)
    refine lv_iconst (v := nI (1)) hx hb dL_law_858 (by decide) ?_
    refine lv_goto (tgt := 863) hx hb dL_law_859 (by decide) ?_
    refine lv_istore (lv' := [(14, .int (nI (1))), (16, .int (zb (true))), (0, .ref (b)), (1, .ref (ad 287)), (2, .ref (ra)), (3, .ref (ba)), (4, .ref (ga)), (5, .ref (ea)), (6, .ref (ca)), (7, .int (nI (zNl nw))), (8, .int (nI (i))), (9, .int (h9)), (10, .int (nI (kd))), (11, .int (nI (n9))), (12, .int (nI (k9))), (13, .int (-1)), (15, .int (zfm (zfd (zSz nw) 6)))]) hx hb dL_law_863 hl (by decide) rfl (fun ls hl => ?_)
    refine lv_iconst (v := nI (1)) hx hb dL_law_865 (by decide) ?_
    refine lv_istore (lv' := [(17, .int (nI (1))), (14, .int (nI (1))), (16, .int (zb (true))), (0, .ref (b)), (1, .ref (ad 287)), (2, .ref (ra)), (3, .ref (ba)), (4, .ref (ga)), (5, .ref (ea)), (6, .ref (ca)), (7, .int (nI (zNl nw))), (8, .int (nI (i))), (9, .int (h9)), (10, .int (nI (kd))), (11, .int (nI (n9))), (12, .int (nI (k9))), (13, .int (-1)), (15, .int (zfm (zfd (zSz nw) 6)))]) hx hb dL_law_866 hl (by decide) rfl (fun ls hl => ?_)
    have L868 : ∀ (dd : Nat) (k : Nat), 5 - k < dd → (k ≤ 5) → ∀ (Hn : Heap) (locs : List Loc) (hS : va_S (fun q => s.heap.size ≤ q) s.heap Hn locs) (hz : Hn.size = H.size) (hCW : zCW E ad (zsRg (zsBx nw (zti (zBx nw) (fun t => zcn (zKd nw n9) (nI t) (zSz nw n9)) 5)) n9 0 (fun _ => 0)) sv an (zrH hh ct nw) (zrC ct) ln cd Hn) (hr1 : zLo E ra 6 (rr) Hn) (hr2 : zat E ba (.inl (zI E, 10, .inl (zca bb (fun t => zcn (zKd nw n9) (nI t) (zSz nw n9)) k))) Hn) (hr3 : zat E ga (.inl (zI E, 7, .inl (gg))) Hn) (hr4 : zLo E ea 10 ee Hn) (hr5 : zat E ca (.inl (zI E, 10, .inl cc)) Hn) (ls : Array Slot), lv_has ls 22 [(0, .ref (b)), (1, .ref (ad 287)), (2, .ref (ra)), (3, .ref (ba)), (4, .ref (ga)), (5, .ref (ea)), (6, .ref (ca)), (7, .int (nI (zNl nw))), (8, .int (nI (i))), (9, .int (h9)), (10, .int (nI (kd))), (11, .int (nI (n9))), (12, .int (nI (k9))), (13, .int (-1)), (14, .int (nI (1))), (15, .int (zfm (zfd (zSz nw) 6))), (16, .int (zb (true))), (17, .int (nI (k + 1)))] → zLW p e s m b below meth c E Q Hn locs 868 ls [] := by
      intro dd
      induction dd with
      | zero => intro k hdd; exact absurd hdd (Nat.not_lt_zero _)
      | succ dd ih868 =>
        intro k hdd868 hk5 Hn locs hS hz hCW hr1 hr2 hr3 hr4 hr5 ls hl
        obtain ⟨f5, h5⟩ := zCW_recv hCW
        refine lv_iload hx hb dL_law_868 (lv_at hl 17 rfl) ?_
        refine lv_iconst (v := nI (5)) hx hb dL_law_870 (by decide) ?_
        refine z_cgt (tgt := 903) hx hb dL_law_871 (by decide) ⟨by omega, by omega⟩ (fun c_19 => ?_) (fun c_19 => ?_)
        · refine lv_aload_n hx hb dL_law_903 rfl (lv_at hl 2 rfl) ?_
          refine lv_iload hx hb dL_law_904 (lv_at hl 11 rfl) ?_
          refine lv_iload hx hb dL_law_906 (lv_at hl 16 rfl) ?_
          refine z_beq (tgt := 915) hx hb dL_law_908 (by decide) (fun c_20 => by exfalso; cases c_20) (fun c_20 => ?_)
          refine lv_lconst (v := lN 0) hx hb dL_law_911 rfl ?_
          refine lv_goto (tgt := 919) hx hb dL_law_912 (by decide) ?_
          refine z_last (j := n9) hx hb hG hr1 ⟨by omega, by omega⟩ hS (hge _ (Or.inl rfl)) dL_law_919 (fun Hn locs h_21 o_22 hS => ?_)
          have hCW := zCW_kept hCW (fun q hq => o_22.2 q (fun e9 => hdis q (by rw [e9]; exact Or.inl rfl) hq))
          have hr1 := h_21
          have hr2 := va_at.kept hr2 (o_22.2 _ (by omega))
          have hr3 := va_at.kept hr3 (o_22.2 _ (by omega))
          have hr4 := va_at.kept hr4 (o_22.2 _ (by omega))
          have hr5 := va_at.kept hr5 (o_22.2 _ (by omega))
          obtain ⟨f5, h5⟩ := zCW_recv hCW
          have hz : Hn.size = H.size := o_22.1.trans hz
          refine lv_goto (tgt := 1734) hx hb dL_law_920 (by decide) ?_
          exact kk (ztR (nw, sv, an, hh, ct, ln, cd) (zsRg (zsBx nw (zti (zBx nw) (fun t => zcn (zKd nw n9) (nI t) (zSz nw n9)) 5)) n9 0 (fun _ => 0))) (zun rr n9 0) (zca bb (fun t => zcn (zKd nw n9) (nI t) (zSz nw n9)) k) (gg) (ee) (cc) _ _ ⟨zInv_r hv (zOk_rg (zOk_bx hok (zti_k hok (by rw [← hrm]; exact q1) hb4.2.1)) hn9 (Or.inl rfl) (fun _ h8 => absurd h8 (Nat.not_lt_zero _))), hCW, ⟨hr1, hr2, hr3, hr4, hr5⟩, (by rw [show k = 5 by omega]; exact zR_rg (zR_ti hrel) hn9 (fun _ => rfl) (fun e9 => absurd rfl e9)), hS⟩ n9 hn9 ls (lv_sub hl [0, 1, 2, 3, 4, 5, 6, 7, 8, 11, 14] rfl)
        · refine lv_iload hx hb dL_law_874 (lv_at hl 16 rfl) ?_
          refine z_beq (tgt := 903) hx hb dL_law_876 (by decide) (fun c_23 => by exfalso; cases c_23) (fun c_23 => ?_)
          refine lv_aload_n hx hb dL_law_879 rfl (lv_at hl 3 rfl) ?_
          refine lv_iload hx hb dL_law_880 (lv_at hl 17 rfl) ?_
          refine lv_iconst (v := nI (1)) hx hb dL_law_882 (by decide) ?_
          refine z_isub hx hb dL_law_883 (by omega) ?_
          refine z_top (y := nI (k)) (by rw [Nat.add_sub_cancel]) ?_
          refine lv_dup2_11 hx hb dL_law_884 rfl rfl ?_
          refine z_iald (j := k) hx hb hG hr2 ⟨by omega, by omega⟩ dL_law_885 ?_
          refine lv_aload_n hx hb dL_law_886 rfl (lv_at hl 2 rfl) ?_
          refine lv_iload hx hb dL_law_887 (lv_at hl 11 rfl) ?_
          refine z_lald (j := n9) hx hb hG hr1 ⟨by omega, by omega⟩ dL_law_889 ?_
          refine z_topl (y := lN (zLn (zKd nw n9) (zSz nw n9))) (congrArg lN ((e1r _ hn9).trans (zRn_e hz0))) ?_
          refine lv_iload hx hb dL_law_890 (lv_at hl 17 rfl) ?_
          refine z_roSX (As := [.long (lN (zLn (zKd nw n9) (zSz nw n9))), .int (nI (k + 1))]) (rest := [.int ((zca bb (fun t => zcn (zKd nw n9) (nI t) (zSz nw n9)) k) k), .int (nI (k)), .ref (ba)]) S hG (c_L_charms E (x := nI (k + 1)) hs4 hk4) 2 gL_law_L_charms rfl kL_charms.2 ⟨Nat.le_of_ble_eq_true rfl, Nat.le_of_ble_eq_true rfl⟩ ⟨Nat.le_of_ble_eq_true rfl, Nat.le_of_ble_eq_true rfl⟩ (trivial) rfl hl.1 rfl rfl (Nat.le_of_ble_eq_true rfl) dL_law_892 ?_
          refine lv_iadd hx hb dL_law_895 ?_
          refine z_iast (j := k) hx hb hG hr2 ⟨by omega, by omega⟩ hS (hge _ (Or.inr (Or.inl rfl))) dL_law_896 (fun Hn locs h_24 o_25 hS => ?_)
          have hCW := zCW_kept hCW (fun q hq => o_25.2 q (fun e9 => hdis q (by rw [e9]; exact Or.inr (Or.inl rfl)) hq))
          have hr1 := va_at.kept hr1 (o_25.2 _ (by omega))
          have hr2 := h_24
          have hr3 := va_at.kept hr3 (o_25.2 _ (by omega))
          have hr4 := va_at.kept hr4 (o_25.2 _ (by omega))
          have hr5 := va_at.kept hr5 (o_25.2 _ (by omega))
          obtain ⟨f5, h5⟩ := zCW_recv hCW
          have hz : Hn.size = H.size := o_25.1.trans hz
          refine lv_iinc (v := nI (k + 1 + 1)) (lv' := [(17, .int (nI (k + 1 + 1))), (0, .ref (b)), (1, .ref (ad 287)), (2, .ref (ra)), (3, .ref (ba)), (4, .ref (ga)), (5, .ref (ea)), (6, .ref (ca)), (7, .int (nI (zNl nw))), (8, .int (nI (i))), (9, .int (h9)), (10, .int (nI (kd))), (11, .int (nI (n9))), (12, .int (nI (k9))), (13, .int (-1)), (14, .int (nI (1))), (15, .int (zfm (zfd (zSz nw) 6))), (16, .int (zb (true)))]) hx hb dL_law_897 hl (k := 17) rfl (z_inc1 _) (by decide) rfl (fun ls hl => ?_)
          refine lv_goto (tgt := 868) hx hb dL_law_900 (by decide) ?_
          have hl9 := lv_sub hl [1, 2, 3, 4, 5, 6, 7, 8, 9, 10, 11, 12, 13, 14, 15, 16, 17, 0] (l' := [(0, .ref (b)), (1, .ref (ad 287)), (2, .ref (ra)), (3, .ref (ba)), (4, .ref (ga)), (5, .ref (ea)), (6, .ref (ca)), (7, .int (nI (zNl nw))), (8, .int (nI (i))), (9, .int (h9)), (10, .int (nI (kd))), (11, .int (nI (n9))), (12, .int (nI (k9))), (13, .int (-1)), (14, .int (nI (1))), (15, .int (zfm (zfd (zSz nw) 6))), (16, .int (zb (true))), (17, .int (nI (k + 1 + 1)))]) rfl
          have e9_17 : (k + 1 + 1) = ((k + 1) + 1) := by omega
          exact ih868 (k + 1) (by omega) (by omega) _ _ hS hz (hCW) (hr1) (by rw [← zca_s]; exact hr2) (hr3) (hr4) (hr5) ls (by rw [← e9_17]; exact hl9)
    exact L868 ((5 - (0)) + 1) (0) (Nat.lt_succ_self _) (by omega) _ _ hS hz (hCW) (hr1) (by rw [← zca_0]; exact hr2) (hr3) (hr4) (hr5) ls (lv_sub hl [3, 4, 5, 6, 7, 8, 9, 10, 11, 12, 13, 14, 15, 16, 1, 17, 2, 0] rfl)

set_option maxHeartbeats 4000000 in
set_option maxRecDepth 100000 in
theorem lw_hang {p : Program} {e : Env} {s : State} {m : MethodId} {b L : Nat} {xs : Nat → Int32} {below : List Frame} {meth : Method} {c : Code} {E : zEnv} {ad : Nat → Nat} {ra ba ga ea ca : Nat} {Q : State → Prop} {i : Nat} (F : zLF E p s m c b L xs) (D : zLA ad ra ba ga ea ca s) (kk : zLJ p e s m b below meth c E ad ra ba ga ea ca Q i) {τ : zT} {rr : Nat → Nat} {bb gg : Nat → Int32} {ee : Nat → Nat} {cc : Nat → Int32} {H : Heap} {locs : List Loc} (hs : zLS E ad ra ba ga ea ca s τ rr bb gg ee cc H locs) {n9 k9 kd : Nat} {h9 : Int32} (hn9 : n9 < 6) (hk9 : 1 ≤ k9 ∧ k9 ≤ 5) (hr0 : ¬ zRn τ.1 n9 = 0) {ls : Array Slot} (hl : lv_has ls 22 [(0, .ref (b)), (1, .ref (ad 287)), (2, .ref (ra)), (3, .ref (ba)), (4, .ref (ga)), (5, .ref (ea)), (6, .ref (ca)), (7, .int (nI (zNl τ.1))), (8, .int (nI (i))), (9, .int (h9)), (10, .int (nI (kd))), (11, .int (nI (n9))), (12, .int (nI (k9))), (13, .int (-1)), (14, .int (nI (1))), (15, .int (zfm (zfd (zSz τ.1) 6)))]) : zLW p e s m b below meth c E Q H locs 930 ls [] := by
  obtain ⟨S, hG, hX, hbl, hL⟩ := id F
  obtain ⟨hinj, hA1, hdis, hge, hd1, hd2, hd3, hd4⟩ := id D
  obtain ⟨hx, hb, hml9, hown, hts⟩ := id S
  have hbA : ¬ (fun q : Nat => s.heap.size ≤ q) b := Nat.not_le.mpr hbl
  obtain ⟨hv, hCW0, hRW, hrel, hS⟩ := hs
  obtain ⟨nw, sv, an, hh, ct, ln, cd⟩ := τ
  have hCW : zCW E ad nw sv an hh ct ln cd H := hCW0
  have hrel : zRel nw rr bb gg ee cc := hrel
  have hok : zOk nw := hv.1
  have hct : ct ≤ 5 := hv.2.2.2.1
  obtain ⟨hr1, hr2, hr3, hr4, hr5⟩ := id hRW
  obtain ⟨f5, h5⟩ := zCW_recv hCW
  obtain ⟨e1r, e2r, e3r, e4r, e5r⟩ := id hrel
  have hml := hok.2.2.2.1
  have hnl := hok.2.2.2.2.1
  have hz : H.size = H.size := rfl
  have hl : lv_has ls 22 [(0, .ref (b)), (1, .ref (ad 287)), (2, .ref (ra)), (3, .ref (ba)), (4, .ref (ga)), (5, .ref (ea)), (6, .ref (ca)), (7, .int (nI (zNl nw))), (8, .int (nI (i))), (9, .int (h9)), (10, .int (nI (kd))), (11, .int (nI (n9))), (12, .int (nI (k9))), (13, .int (-1)), (14, .int (nI (1))), (15, .int (zfm (zfd (zSz nw) 6)))] := hl
  have hz0 : zSz nw n9 ≠ 0 := zRn_1 hr0
  have hs4 := hok.s4 hn9 hz0
  have hk4 := hok.k4 hn9
  have hb4 := hs4.b
  have hq4 := hs4.q
  obtain ⟨sl, hsl0⟩ : ∃ y : Nat, y = zlw (h9 >>> (nI (11) &&& 31)) (zSz nw n9) := ⟨_, rfl⟩
  have hsl : sl < (zSz nw n9) := by rw [hsl0]; exact zlw_lt _ hb4.1
  obtain ⟨bj, hbj, ebj⟩ := hok.2.2.1 k9 hk9.1 hk9.2
  refine lv_iload hx hb dL_law_930 (lv_at hl 9 rfl) ?_
  refine lv_bipush (v := nI (11)) hx hb dL_law_932 (by decide) ?_
  refine lv_ishr hx hb dL_law_934 ?_
  refine lv_aload_n hx hb dL_law_935 rfl (lv_at hl 2 rfl) ?_
  refine lv_iload hx hb dL_law_936 (lv_at hl 11 rfl) ?_
  refine z_lald (j := n9) hx hb hG hr1 ⟨by omega, by omega⟩ dL_law_938 ?_
  refine z_topl (y := lN (zLn (zKd nw n9) (zSz nw n9))) (congrArg lN ((e1r _ hn9).trans (zRn_e hz0))) ?_
  refine z_roSX (As := [.long (lN (zLn (zKd nw n9) (zSz nw n9)))]) (rest := [.int ((h9) >>> (nI (11) &&& 31))]) S hG (c_L_slots E hs4 hk4) 1 gL_law_L_slots rfl kL_slots.2 ⟨Nat.le_of_ble_eq_true rfl, Nat.le_of_ble_eq_true rfl⟩ ⟨Nat.le_of_ble_eq_true rfl, Nat.le_of_ble_eq_true rfl⟩ (trivial) rfl hl.1 rfl rfl (Nat.le_of_ble_eq_true rfl) dL_law_939 ?_
  refine z_roSX (As := [.int ((h9) >>> (nI (11) &&& 31)), .int (nI (zSz nw n9))]) (rest := []) S hG (c_L_low E (v := h9 >>> (nI (11) &&& 31)) (n := (zSz nw n9)) ⟨by omega, by omega⟩) 2 gL_law_L_low rfl kL_low.2 ⟨Nat.le_of_ble_eq_true rfl, Nat.le_of_ble_eq_true rfl⟩ ⟨Nat.le_of_ble_eq_true rfl, Nat.le_of_ble_eq_true rfl⟩ (trivial) rfl hl.1 rfl rfl (Nat.le_of_ble_eq_true rfl) dL_law_942 ?_
  refine z_top (y := nI (sl)) (by rw [hsl0]) ?_
  refine lv_istore (lv' := [(16, .int (nI (sl))), (0, .ref (b)), (1, .ref (ad 287)), (2, .ref (ra)), (3, .ref (ba)), (4, .ref (ga)), (5, .ref (ea)), (6, .ref (ca)), (7, .int (nI (zNl nw))), (8, .int (nI (i))), (9, .int (h9)), (10, .int (nI (kd))), (11, .int (nI (n9))), (12, .int (nI (k9))), (13, .int (-1)), (14, .int (nI (1))), (15, .int (zfm (zfd (zSz nw) 6)))]) hx hb dL_law_945 hl (by decide) rfl (fun ls hl => ?_)
  refine lv_aload_n hx hb dL_law_947 rfl (lv_at hl 3 rfl) ?_
  refine lv_iload hx hb dL_law_948 (lv_at hl 12 rfl) ?_
  refine z_lald (j := n9) hx hb hG hr1 ⟨by omega, by omega⟩ dL_law_950 ?_
  refine z_topl (y := lN (zLn (zKd nw n9) (zSz nw n9))) (congrArg lN ((e1r _ hn9).trans (zRn_e hz0))) ?_
  refine lv_iload hx hb dL_law_951 (lv_at hl 0 rfl) ?_
  refine z_roSX (As := [.long (lN (zLn (zKd nw n9) (zSz nw n9))), .int (nI (sl))]) (rest := []) S hG (c_L_kind E (j := sl) hs4 hk4 (by omega)) 2 gL_law_L_kind rfl kL_kind.2 ⟨Nat.le_of_ble_eq_true rfl, Nat.le_of_ble_eq_true rfl⟩ ⟨Nat.le_of_ble_eq_true rfl, Nat.le_of_ble_eq_true rfl⟩ (trivial) rfl hl.1 rfl rfl (Nat.le_of_ble_eq_true rfl) dL_law_953 ?_
  refine lv_if_ne (tgt := 972) hx hb dL_law_956 (by decide) (fun c_1 => ?_) (fun c_1 => ?_)
  · refine lv_iconst (v := nI (0)) hx hb dL_law_972 (by decide) ?_
    refine lv_istore (lv' := [(17, .int (nI (0))), (16, .int (nI (sl))), (0, .ref (b)), (1, .ref (ad 287)), (2, .ref (ra)), (3, .ref (ba)), (4, .ref (ga)), (5, .ref (ea)), (6, .ref (ca)), (7, .int (nI (zNl nw))), (8, .int (nI (i))), (9, .int (h9)), (10, .int (nI (kd))), (11, .int (nI (n9))), (12, .int (nI (k9))), (13, .int (-1)), (14, .int (nI (1))), (15, .int (zfm (zfd (zSz nw) 6)))]) hx hb dL_law_973 hl (by decide) rfl (fun ls hl => ?_)
    refine lv_aload_n hx hb dL_law_975 rfl (lv_at hl 3 rfl) ?_
    refine lv_iload hx hb dL_law_976 (lv_at hl 13 rfl) ?_
    refine lv_iload hx hb dL_law_978 (lv_at hl 1 rfl) ?_
    refine lv_iload hx hb dL_law_980 (lv_at hl 14 rfl) ?_
    refine z_wrV (As := [.int (nI (n9)), .int (nI (sl)), .int (nI (k9))]) (rest := []) (q := (RX5, TX5, 7)) S hG (c_X5_hang_3 E (r := n9) (j := sl) (w := k9) hok hinj hct hn9 hz0 hsl hk9 (by assumption)) 3 gL_law_X5_hang rfl kX5_hang ⟨Nat.le_of_ble_eq_true rfl, Nat.le_of_ble_eq_true rfl⟩ ⟨Nat.le_of_ble_eq_true rfl, Nat.le_of_ble_eq_true rfl⟩ (hCW) rfl h5 rfl hl.1 rfl rfl (Nat.le_of_ble_eq_true rfl) dL_law_982 hS (fun q h => hA1 q h) (fun Hn locs h_3 q_2 o_4 hS => ?_)
    have hz : Hn.size = H.size := q_2.trans hz
    have hCW := h_3
    have hr1 := va_at.kept hr1 (o_4 _ (hdis _ (Or.inl rfl)))
    have hr2 := va_at.kept hr2 (o_4 _ (hdis _ (Or.inr (Or.inl rfl))))
    have hr3 := va_at.kept hr3 (o_4 _ (hdis _ (Or.inr (Or.inr (Or.inl rfl)))))
    have hr4 := va_at.kept hr4 (o_4 _ (hdis _ (Or.inr (Or.inr (Or.inr (Or.inl rfl))))))
    have hr5 := va_at.kept hr5 (o_4 _ (hdis _ (Or.inr (Or.inr (Or.inr (Or.inr rfl))))))
    obtain ⟨f5, h5⟩ := zCW_recv hCW
    refine lv_iload hx hb dL_law_985 (lv_at hl 0 rfl) ?_
    refine z_feq (tgt := 1001) hx hb dL_law_987 (by decide) (by omega) (fun c_5 => ?_) (fun c_5 => by exfalso; omega)
    refine lv_bipush (v := (-3)) hx hb dL_law_1001 (by decide) ?_
    refine lv_icmp_ne (tgt := 1010) hx hb dL_law_1003 (by decide) (fun c_6 => by exfalso; exact c_6 rfl) (fun c_6 => ?_)
    refine lv_iconst (v := nI (1)) hx hb dL_law_1006 (by decide) ?_
    refine lv_goto (tgt := 1011) hx hb dL_law_1007 (by decide) ?_
    refine lv_istore (lv' := [(14, .int (nI (1))), (17, .int (nI (0))), (16, .int (nI (sl))), (0, .ref (b)), (1, .ref (ad 287)), (2, .ref (ra)), (3, .ref (ba)), (4, .ref (ga)), (5, .ref (ea)), (6, .ref (ca)), (7, .int (nI (zNl nw))), (8, .int (nI (i))), (9, .int (h9)), (10, .int (nI (kd))), (11, .int (nI (n9))), (12, .int (nI (k9))), (13, .int (-1)), (15, .int (zfm (zfd (zSz nw) 6)))]) hx hb dL_law_1011 hl (by decide) rfl (fun ls hl => ?_)
    refine lv_aload_n hx hb dL_law_1013 rfl (lv_at hl 6 rfl) ?_
    refine lv_iload hx hb dL_law_1014 (lv_at hl 15 rfl) ?_
    refine lv_iconst (v := nI (1)) hx hb dL_law_1016 (by decide) ?_
    refine z_isub hx hb dL_law_1017 (by omega) ?_
    refine lv_dup2_11 hx hb dL_law_1018 rfl rfl ?_
    refine z_iald (j := k9 - 1) hx hb hG hr2 ⟨by omega, by omega⟩ dL_law_1019 ?_
    refine z_top (y := nI (bj)) ((e2r k9 hk9.1 hk9.2).1.trans ebj) ?_
    refine lv_iload hx hb dL_law_1020 (lv_at hl 1 rfl) ?_
    refine z_feq (tgt := 1029) hx hb dL_law_1022 (by decide) (by omega) (fun c_7 => ?_) (fun c_7 => by exfalso; omega)
    refine lv_iconst (v := nI (0)) hx hb dL_law_1029 (by decide) ?_
    refine z_isub hx hb dL_law_1030 (by omega) ?_
    refine z_iast (j := k9 - 1) hx hb hG hr2 ⟨by omega, by omega⟩ hS (hge _ (Or.inr (Or.inl rfl))) dL_law_1031 (fun Hn locs h_8 o_9 hS => ?_)
    have hCW := zCW_kept hCW (fun q hq => o_9.2 q (fun e9 => hdis q (by rw [e9]; exact Or.inr (Or.inl rfl)) hq))
    have hr1 := va_at.kept hr1 (o_9.2 _ (by omega))
    have hr2 := h_8
    have hr3 := va_at.kept hr3 (o_9.2 _ (by omega))
    have hr4 := va_at.kept hr4 (o_9.2 _ (by omega))
    have hr5 := va_at.kept hr5 (o_9.2 _ (by omega))
    obtain ⟨f5, h5⟩ := zCW_recv hCW
    have hz : Hn.size = H.size := o_9.1.trans hz
    refine lv_aload_n hx hb dL_law_1032 rfl (lv_at hl 5 rfl) ?_
    refine lv_iload hx hb dL_law_1033 (lv_at hl 14 rfl) ?_
    refine lv_iload hx hb dL_law_1035 (lv_at hl 1 rfl) ?_
    refine z_feq (tgt := 1054) hx hb dL_law_1037 (by decide) (by omega) (fun c_10 => ?_) (fun c_10 => by exfalso; omega)
    refine lv_aload_n hx hb dL_law_1054 rfl (lv_at hl 5 rfl) ?_
    refine lv_iload hx hb dL_law_1055 (lv_at hl 14 rfl) ?_
    refine z_lald (j := n9) hx hb hG hr1 ⟨by omega, by omega⟩ dL_law_1057 ?_
    refine z_topl (y := lN (zLn (zKd nw n9) (zSz nw n9))) (congrArg lN ((e1r _ hn9).trans (zRn_e hz0))) ?_
    refine z_last (j := n9) hx hb hG hr1 ⟨by omega, by omega⟩ hS (hge _ (Or.inl rfl)) dL_law_1058 (fun Hn locs h_11 o_12 hS => ?_)
    have hCW := zCW_kept hCW (fun q hq => o_12.2 q (fun e9 => hdis q (by rw [e9]; exact Or.inl rfl) hq))
    have hr1 := h_11
    have hr2 := va_at.kept hr2 (o_12.2 _ (by omega))
    have hr3 := va_at.kept hr3 (o_12.2 _ (by omega))
    have hr4 := va_at.kept hr4 (o_12.2 _ (by omega))
    have hr5 := va_at.kept hr5 (o_12.2 _ (by omega))
    obtain ⟨f5, h5⟩ := zCW_recv hCW
    have hz : Hn.size = H.size := o_12.1.trans hz
    refine lv_goto (tgt := 1734) hx hb dL_law_1059 (by decide) ?_
    exact kk (nw, sv, an, hh, ct, ln, cd) (zun rr n9 (zLn (zKd nw n9) (zSz nw n9))) (upd bb (k9 - 1) (nI (bj - 0))) (gg) (ee) (cc) _ _ ⟨hv, hCW, ⟨hr1, hr2, hr3, hr4, hr5⟩, zR_b0 (zR_same hrel hn9 (zRn_e hz0).symm) hk9 (by rw [ebj]; rfl), hS⟩ n9 hn9 ls (lv_sub hl [3, 4, 5, 6, 7, 8, 9, 10, 11, 14, 0] rfl)
  · refine lv_aload_n hx hb dL_law_959 rfl (lv_at hl 4 rfl) ?_
    refine lv_iload hx hb dL_law_960 (lv_at hl 13 rfl) ?_
    refine lv_iconst (v := nI (1)) hx hb dL_law_962 (by decide) ?_
    refine z_isub hx hb dL_law_963 (by omega) ?_
    refine z_iald (j := k9 - 1) hx hb hG hr2 ⟨by omega, by omega⟩ dL_law_964 ?_
    refine z_top (y := nI (bj)) ((e2r k9 hk9.1 hk9.2).1.trans ebj) ?_
    refine z_fle (tgt := 972) hx hb dL_law_965 (by decide) (by omega) (fun c_13 => ?_) (fun c_13 => ?_)
    · refine lv_iconst (v := nI (0)) hx hb dL_law_972 (by decide) ?_
      refine lv_istore (lv' := [(17, .int (nI (0))), (16, .int (nI (sl))), (0, .ref (b)), (1, .ref (ad 287)), (2, .ref (ra)), (3, .ref (ba)), (4, .ref (ga)), (5, .ref (ea)), (6, .ref (ca)), (7, .int (nI (zNl nw))), (8, .int (nI (i))), (9, .int (h9)), (10, .int (nI (kd))), (11, .int (nI (n9))), (12, .int (nI (k9))), (13, .int (-1)), (14, .int (nI (1))), (15, .int (zfm (zfd (zSz nw) 6)))]) hx hb dL_law_973 hl (by decide) rfl (fun ls hl => ?_)
      refine lv_aload_n hx hb dL_law_975 rfl (lv_at hl 3 rfl) ?_
      refine lv_iload hx hb dL_law_976 (lv_at hl 13 rfl) ?_
      refine lv_iload hx hb dL_law_978 (lv_at hl 1 rfl) ?_
      refine lv_iload hx hb dL_law_980 (lv_at hl 14 rfl) ?_
      refine z_wrV (As := [.int (nI (n9)), .int (nI (sl)), .int (nI (k9))]) (rest := []) (q := (RX5, TX5, 7)) S hG (c_X5_hang_4 E (r := n9) (j := sl) (w := k9) hok hinj hct hn9 hz0 hsl hk9 (by assumption) (by rw [ebj, show bj = 0 by omega]; rfl)) 3 gL_law_X5_hang rfl kX5_hang ⟨Nat.le_of_ble_eq_true rfl, Nat.le_of_ble_eq_true rfl⟩ ⟨Nat.le_of_ble_eq_true rfl, Nat.le_of_ble_eq_true rfl⟩ (hCW) rfl h5 rfl hl.1 rfl rfl (Nat.le_of_ble_eq_true rfl) dL_law_982 hS (fun q h => hA1 q h) (fun Hn locs h_15 q_14 o_16 hS => ?_)
      have hz : Hn.size = H.size := q_14.trans hz
      have hCW := h_15
      have hr1 := va_at.kept hr1 (o_16 _ (hdis _ (Or.inl rfl)))
      have hr2 := va_at.kept hr2 (o_16 _ (hdis _ (Or.inr (Or.inl rfl))))
      have hr3 := va_at.kept hr3 (o_16 _ (hdis _ (Or.inr (Or.inr (Or.inl rfl)))))
      have hr4 := va_at.kept hr4 (o_16 _ (hdis _ (Or.inr (Or.inr (Or.inr (Or.inl rfl))))))
      have hr5 := va_at.kept hr5 (o_16 _ (hdis _ (Or.inr (Or.inr (Or.inr (Or.inr rfl))))))
      obtain ⟨f5, h5⟩ := zCW_recv hCW
      refine lv_iload hx hb dL_law_985 (lv_at hl 0 rfl) ?_
      refine z_feq (tgt := 1001) hx hb dL_law_987 (by decide) (by omega) (fun c_17 => ?_) (fun c_17 => by exfalso; omega)
      refine lv_bipush (v := (-3)) hx hb dL_law_1001 (by decide) ?_
      refine lv_icmp_ne (tgt := 1010) hx hb dL_law_1003 (by decide) (fun c_18 => by exfalso; exact c_18 rfl) (fun c_18 => ?_)
      refine lv_iconst (v := nI (1)) hx hb dL_law_1006 (by decide) ?_
      refine lv_goto (tgt := 1011) hx hb dL_law_1007 (by decide) ?_
      refine lv_istore (lv' := [(14, .int (nI (1))), (17, .int (nI (0))), (16, .int (nI (sl))), (0, .ref (b)), (1, .ref (ad 287)), (2, .ref (ra)), (3, .ref (ba)), (4, .ref (ga)), (5, .ref (ea)), (6, .ref (ca)), (7, .int (nI (zNl nw))), (8, .int (nI (i))), (9, .int (h9)), (10, .int (nI (kd))), (11, .int (nI (n9))), (12, .int (nI (k9))), (13, .int (-1)), (15, .int (zfm (zfd (zSz nw) 6)))]) hx hb dL_law_1011 hl (by decide) rfl (fun ls hl => ?_)
      refine lv_aload_n hx hb dL_law_1013 rfl (lv_at hl 6 rfl) ?_
      refine lv_iload hx hb dL_law_1014 (lv_at hl 15 rfl) ?_
      refine lv_iconst (v := nI (1)) hx hb dL_law_1016 (by decide) ?_
      refine z_isub hx hb dL_law_1017 (by omega) ?_
      refine lv_dup2_11 hx hb dL_law_1018 rfl rfl ?_
      refine z_iald (j := k9 - 1) hx hb hG hr2 ⟨by omega, by omega⟩ dL_law_1019 ?_
      refine z_top (y := nI (bj)) ((e2r k9 hk9.1 hk9.2).1.trans ebj) ?_
      refine lv_iload hx hb dL_law_1020 (lv_at hl 1 rfl) ?_
      refine z_feq (tgt := 1029) hx hb dL_law_1022 (by decide) (by omega) (fun c_19 => ?_) (fun c_19 => by exfalso; omega)
      refine lv_iconst (v := nI (0)) hx hb dL_law_1029 (by decide) ?_
      refine z_isub hx hb dL_law_1030 (by omega) ?_
      refine z_iast (j := k9 - 1) hx hb hG hr2 ⟨by omega, by omega⟩ hS (hge _ (Or.inr (Or.inl rfl))) dL_law_1031 (fun Hn locs h_20 o_21 hS => ?_)
      have hCW := zCW_kept hCW (fun q hq => o_21.2 q (fun e9 => hdis q (by rw [e9]; exact Or.inr (Or.inl rfl)) hq))
      have hr1 := va_at.kept hr1 (o_21.2 _ (by omega))
      have hr2 := h_20
      have hr3 := va_at.kept hr3 (o_21.2 _ (by omega))
      have hr4 := va_at.kept hr4 (o_21.2 _ (by omega))
      have hr5 := va_at.kept hr5 (o_21.2 _ (by omega))
      obtain ⟨f5, h5⟩ := zCW_recv hCW
      have hz : Hn.size = H.size := o_21.1.trans hz
      refine lv_aload_n hx hb dL_law_1032 rfl (lv_at hl 5 rfl) ?_
      refine lv_iload hx hb dL_law_1033 (lv_at hl 14 rfl) ?_
      refine lv_iload hx hb dL_law_1035 (lv_at hl 1 rfl) ?_
      refine z_feq (tgt := 1054) hx hb dL_law_1037 (by decide) (by omega) (fun c_22 => ?_) (fun c_22 => by exfalso; omega)
      refine lv_aload_n hx hb dL_law_1054 rfl (lv_at hl 5 rfl) ?_
      refine lv_iload hx hb dL_law_1055 (lv_at hl 14 rfl) ?_
      refine z_lald (j := n9) hx hb hG hr1 ⟨by omega, by omega⟩ dL_law_1057 ?_
      refine z_topl (y := lN (zLn (zKd nw n9) (zSz nw n9))) (congrArg lN ((e1r _ hn9).trans (zRn_e hz0))) ?_
      refine z_last (j := n9) hx hb hG hr1 ⟨by omega, by omega⟩ hS (hge _ (Or.inl rfl)) dL_law_1058 (fun Hn locs h_23 o_24 hS => ?_)
      have hCW := zCW_kept hCW (fun q hq => o_24.2 q (fun e9 => hdis q (by rw [e9]; exact Or.inl rfl) hq))
      have hr1 := h_23
      have hr2 := va_at.kept hr2 (o_24.2 _ (by omega))
      have hr3 := va_at.kept hr3 (o_24.2 _ (by omega))
      have hr4 := va_at.kept hr4 (o_24.2 _ (by omega))
      have hr5 := va_at.kept hr5 (o_24.2 _ (by omega))
      obtain ⟨f5, h5⟩ := zCW_recv hCW
      have hz : Hn.size = H.size := o_24.1.trans hz
      refine lv_goto (tgt := 1734) hx hb dL_law_1059 (by decide) ?_
      exact kk (nw, sv, an, hh, ct, ln, cd) (zun rr n9 (zLn (zKd nw n9) (zSz nw n9))) (upd bb (k9 - 1) (nI (bj - 0))) (gg) (ee) (cc) _ _ ⟨hv, hCW, ⟨hr1, hr2, hr3, hr4, hr5⟩, zR_b0 (zR_same hrel hn9 (zRn_e hz0).symm) hk9 (by rw [ebj]; rfl), hS⟩ n9 hn9 ls (lv_sub hl [3, 4, 5, 6, 7, 8, 9, 10, 11, 14, 0] rfl)
    · refine lv_iconst (v := nI (1)) hx hb dL_law_968 (by decide) ?_
      refine lv_goto (tgt := 973) hx hb dL_law_969 (by decide) ?_
      refine lv_istore (lv' := [(17, .int (nI (1))), (16, .int (nI (sl))), (0, .ref (b)), (1, .ref (ad 287)), (2, .ref (ra)), (3, .ref (ba)), (4, .ref (ga)), (5, .ref (ea)), (6, .ref (ca)), (7, .int (nI (zNl nw))), (8, .int (nI (i))), (9, .int (h9)), (10, .int (nI (kd))), (11, .int (nI (n9))), (12, .int (nI (k9))), (13, .int (-1)), (14, .int (nI (1))), (15, .int (zfm (zfd (zSz nw) 6)))]) hx hb dL_law_973 hl (by decide) rfl (fun ls hl => ?_)
      refine lv_aload_n hx hb dL_law_975 rfl (lv_at hl 3 rfl) ?_
      refine lv_iload hx hb dL_law_976 (lv_at hl 13 rfl) ?_
      refine lv_iload hx hb dL_law_978 (lv_at hl 1 rfl) ?_
      refine lv_iload hx hb dL_law_980 (lv_at hl 14 rfl) ?_
      refine z_wrV (As := [.int (nI (n9)), .int (nI (sl)), .int (nI (k9))]) (rest := []) (q := (RX5, TX5, 7)) S hG (c_X5_hang_5 E (r := n9) (j := sl) (w := k9) (u := bj - 1) hok hinj hct hn9 hz0 hsl hk9 (by assumption) ⟨by rw [ebj, show bj - 1 + 1 = bj by omega], by omega⟩) 3 gL_law_X5_hang rfl kX5_hang ⟨Nat.le_of_ble_eq_true rfl, Nat.le_of_ble_eq_true rfl⟩ ⟨Nat.le_of_ble_eq_true rfl, Nat.le_of_ble_eq_true rfl⟩ (hCW) rfl h5 rfl hl.1 rfl rfl (Nat.le_of_ble_eq_true rfl) dL_law_982 hS (fun q h => hA1 q h) (fun Hn locs h_26 q_25 o_27 hS => ?_)
      have hz : Hn.size = H.size := q_25.trans hz
      have hCW := h_26
      have hr1 := va_at.kept hr1 (o_27 _ (hdis _ (Or.inl rfl)))
      have hr2 := va_at.kept hr2 (o_27 _ (hdis _ (Or.inr (Or.inl rfl))))
      have hr3 := va_at.kept hr3 (o_27 _ (hdis _ (Or.inr (Or.inr (Or.inl rfl)))))
      have hr4 := va_at.kept hr4 (o_27 _ (hdis _ (Or.inr (Or.inr (Or.inr (Or.inl rfl))))))
      have hr5 := va_at.kept hr5 (o_27 _ (hdis _ (Or.inr (Or.inr (Or.inr (Or.inr rfl))))))
      obtain ⟨f5, h5⟩ := zCW_recv hCW
      refine lv_iload hx hb dL_law_985 (lv_at hl 0 rfl) ?_
      refine z_feq (tgt := 1001) hx hb dL_law_987 (by decide) (by omega) (fun c_28 => by exfalso; omega) (fun c_28 => ?_)
      refine lv_aload_n hx hb dL_law_990 rfl (lv_at hl 5 rfl) ?_
      refine lv_iload hx hb dL_law_991 (lv_at hl 14 rfl) ?_
      refine lv_iconst (v := nI (1)) hx hb dL_law_993 (by decide) ?_
      refine z_isub hx hb dL_law_994 (by omega) ?_
      refine z_iald (j := k9 - 1) hx hb hG hr2 ⟨by omega, by omega⟩ dL_law_995 ?_
      refine z_top (y := nI (bj)) ((e2r k9 hk9.1 hk9.2).1.trans ebj) ?_
      refine lv_iconst (v := nI (1)) hx hb dL_law_996 (by decide) ?_
      refine z_isub hx hb dL_law_997 (by omega) ?_
      refine lv_goto (tgt := 1003) hx hb dL_law_998 (by decide) ?_
      refine lv_icmp_ne (tgt := 1010) hx hb dL_law_1003 (by decide) (fun c_29 => by exfalso; exact c_29 rfl) (fun c_29 => ?_)
      refine lv_iconst (v := nI (1)) hx hb dL_law_1006 (by decide) ?_
      refine lv_goto (tgt := 1011) hx hb dL_law_1007 (by decide) ?_
      refine lv_istore (lv' := [(14, .int (nI (1))), (17, .int (nI (1))), (16, .int (nI (sl))), (0, .ref (b)), (1, .ref (ad 287)), (2, .ref (ra)), (3, .ref (ba)), (4, .ref (ga)), (5, .ref (ea)), (6, .ref (ca)), (7, .int (nI (zNl nw))), (8, .int (nI (i))), (9, .int (h9)), (10, .int (nI (kd))), (11, .int (nI (n9))), (12, .int (nI (k9))), (13, .int (-1)), (15, .int (zfm (zfd (zSz nw) 6)))]) hx hb dL_law_1011 hl (by decide) rfl (fun ls hl => ?_)
      refine lv_aload_n hx hb dL_law_1013 rfl (lv_at hl 6 rfl) ?_
      refine lv_iload hx hb dL_law_1014 (lv_at hl 15 rfl) ?_
      refine lv_iconst (v := nI (1)) hx hb dL_law_1016 (by decide) ?_
      refine z_isub hx hb dL_law_1017 (by omega) ?_
      refine lv_dup2_11 hx hb dL_law_1018 rfl rfl ?_
      refine z_iald (j := k9 - 1) hx hb hG hr2 ⟨by omega, by omega⟩ dL_law_1019 ?_
      refine z_top (y := nI (bj)) ((e2r k9 hk9.1 hk9.2).1.trans ebj) ?_
      refine lv_iload hx hb dL_law_1020 (lv_at hl 1 rfl) ?_
      refine z_feq (tgt := 1029) hx hb dL_law_1022 (by decide) (by omega) (fun c_30 => by exfalso; omega) (fun c_30 => ?_)
      refine lv_iconst (v := nI (1)) hx hb dL_law_1025 (by decide) ?_
      refine lv_goto (tgt := 1030) hx hb dL_law_1026 (by decide) ?_
      refine z_isub hx hb dL_law_1030 (by omega) ?_
      refine z_iast (j := k9 - 1) hx hb hG hr2 ⟨by omega, by omega⟩ hS (hge _ (Or.inr (Or.inl rfl))) dL_law_1031 (fun Hn locs h_31 o_32 hS => ?_)
      have hCW := zCW_kept hCW (fun q hq => o_32.2 q (fun e9 => hdis q (by rw [e9]; exact Or.inr (Or.inl rfl)) hq))
      have hr1 := va_at.kept hr1 (o_32.2 _ (by omega))
      have hr2 := h_31
      have hr3 := va_at.kept hr3 (o_32.2 _ (by omega))
      have hr4 := va_at.kept hr4 (o_32.2 _ (by omega))
      have hr5 := va_at.kept hr5 (o_32.2 _ (by omega))
      obtain ⟨f5, h5⟩ := zCW_recv hCW
      have hz : Hn.size = H.size := o_32.1.trans hz
      refine lv_aload_n hx hb dL_law_1032 rfl (lv_at hl 5 rfl) ?_
      refine lv_iload hx hb dL_law_1033 (lv_at hl 14 rfl) ?_
      refine lv_iload hx hb dL_law_1035 (lv_at hl 1 rfl) ?_
      refine z_feq (tgt := 1054) hx hb dL_law_1037 (by decide) (by omega) (fun c_33 => by exfalso; omega) (fun c_33 => ?_)
      refine lv_aload_n hx hb dL_law_1040 rfl (lv_at hl 5 rfl) ?_
      refine lv_iload hx hb dL_law_1041 (lv_at hl 14 rfl) ?_
      refine z_lald (j := n9) hx hb hG hr1 ⟨by omega, by omega⟩ dL_law_1043 ?_
      refine z_topl (y := lN (zLn (zKd nw n9) (zSz nw n9))) (congrArg lN ((e1r _ hn9).trans (zRn_e hz0))) ?_
      refine lv_iload hx hb dL_law_1044 (lv_at hl 2 rfl) ?_
      refine lv_iload hx hb dL_law_1046 (lv_at hl 15 rfl) ?_
      refine z_roSX (As := [.long (lN (zLn (zKd nw n9) (zSz nw n9))), .int (nI (sl)), .int (nI (k9))]) (rest := [.int (nI (n9)), .ref (ra)]) S hG (c_L_lay E (j := sl) (x := nI k9) hs4 hk4 hsl ⟨k9, hk9.2, rfl⟩) 3 gL_law_L_lay rfl kL_lay.2 ⟨Nat.le_of_ble_eq_true rfl, Nat.le_of_ble_eq_true rfl⟩ ⟨Nat.le_of_ble_eq_true rfl, Nat.le_of_ble_eq_true rfl⟩ (trivial) rfl hl.1 rfl rfl (Nat.le_of_ble_eq_true rfl) dL_law_1048 ?_
      refine lv_goto (tgt := 1058) hx hb dL_law_1051 (by decide) ?_
      refine z_last (j := n9) hx hb hG hr1 ⟨by omega, by omega⟩ hS (hge _ (Or.inl rfl)) dL_law_1058 (fun Hn locs h_34 o_35 hS => ?_)
      have hCW := zCW_kept hCW (fun q hq => o_35.2 q (fun e9 => hdis q (by rw [e9]; exact Or.inl rfl) hq))
      have hr1 := h_34
      have hr2 := va_at.kept hr2 (o_35.2 _ (by omega))
      have hr3 := va_at.kept hr3 (o_35.2 _ (by omega))
      have hr4 := va_at.kept hr4 (o_35.2 _ (by omega))
      have hr5 := va_at.kept hr5 (o_35.2 _ (by omega))
      obtain ⟨f5, h5⟩ := zCW_recv hCW
      have hz : Hn.size = H.size := o_35.1.trans hz
      refine lv_goto (tgt := 1734) hx hb dL_law_1059 (by decide) ?_
      exact kk (ztR (nw, sv, an, hh, ct, ln, cd) (zsBx (zsRg nw n9 (zSz nw n9) (upd (zKd nw n9) sl (nI k9))) (upd (zBx nw) k9 (nI (bj - 1))))) (zun rr n9 (zLn (upd (zKd nw n9) sl (nI k9)) (zSz nw n9))) (upd bb (k9 - 1) (nI (bj - 1))) (gg) (ee) (cc) _ _ ⟨zInv_r hv (zOk_bx1 (zOk_rg hok hn9 (Or.inr hs4) (zup_k hk9.2 hk4)) (by omega)), hCW, ⟨hr1, hr2, hr3, hr4, hr5⟩, zR_b1 (zR_rg hrel hn9 (fun e9 => absurd e9 hz0) (fun _ => rfl)) hk9, hS⟩ n9 hn9 ls (lv_sub hl [3, 4, 5, 6, 7, 8, 9, 10, 11, 14, 0] rfl)

set_option maxHeartbeats 4000000 in
set_option maxRecDepth 100000 in
theorem lw_takeOff {p : Program} {e : Env} {s : State} {m : MethodId} {b L : Nat} {xs : Nat → Int32} {below : List Frame} {meth : Method} {c : Code} {E : zEnv} {ad : Nat → Nat} {ra ba ga ea ca : Nat} {Q : State → Prop} {i : Nat} (F : zLF E p s m c b L xs) (D : zLA ad ra ba ga ea ca s) (kk : zLJ p e s m b below meth c E ad ra ba ga ea ca Q i) {τ : zT} {rr : Nat → Nat} {bb gg : Nat → Int32} {ee : Nat → Nat} {cc : Nat → Int32} {H : Heap} {locs : List Loc} (hs : zLS E ad ra ba ga ea ca s τ rr bb gg ee cc H locs) {n9 k9 kd : Nat} {h9 : Int32} (hn9 : n9 < 6) (hk9 : 1 ≤ k9 ∧ k9 ≤ 5) (hr0 : ¬ zRn τ.1 n9 = 0) {ls : Array Slot} (hl : lv_has ls 22 [(0, .ref (b)), (1, .ref (ad 287)), (2, .ref (ra)), (3, .ref (ba)), (4, .ref (ga)), (5, .ref (ea)), (6, .ref (ca)), (7, .int (nI (zNl τ.1))), (8, .int (nI (i))), (9, .int (h9)), (10, .int (nI (kd))), (11, .int (nI (n9))), (12, .int (nI (k9))), (13, .int (-1)), (14, .int (nI (1))), (15, .int (zfm (zfd (zSz τ.1) 6)))]) : zLW p e s m b below meth c E Q H locs 1069 ls [] := by
  obtain ⟨S, hG, hX, hbl, hL⟩ := id F
  obtain ⟨hinj, hA1, hdis, hge, hd1, hd2, hd3, hd4⟩ := id D
  obtain ⟨hx, hb, hml9, hown, hts⟩ := id S
  have hbA : ¬ (fun q : Nat => s.heap.size ≤ q) b := Nat.not_le.mpr hbl
  obtain ⟨hv, hCW0, hRW, hrel, hS⟩ := hs
  obtain ⟨nw, sv, an, hh, ct, ln, cd⟩ := τ
  have hCW : zCW E ad nw sv an hh ct ln cd H := hCW0
  have hrel : zRel nw rr bb gg ee cc := hrel
  have hok : zOk nw := hv.1
  have hct : ct ≤ 5 := hv.2.2.2.1
  obtain ⟨hr1, hr2, hr3, hr4, hr5⟩ := id hRW
  obtain ⟨f5, h5⟩ := zCW_recv hCW
  obtain ⟨e1r, e2r, e3r, e4r, e5r⟩ := id hrel
  have hml := hok.2.2.2.1
  have hnl := hok.2.2.2.2.1
  have hz : H.size = H.size := rfl
  have hl : lv_has ls 22 [(0, .ref (b)), (1, .ref (ad 287)), (2, .ref (ra)), (3, .ref (ba)), (4, .ref (ga)), (5, .ref (ea)), (6, .ref (ca)), (7, .int (nI (zNl nw))), (8, .int (nI (i))), (9, .int (h9)), (10, .int (nI (kd))), (11, .int (nI (n9))), (12, .int (nI (k9))), (13, .int (-1)), (14, .int (nI (1))), (15, .int (zfm (zfd (zSz nw) 6)))] := hl
  have hz0 : zSz nw n9 ≠ 0 := zRn_1 hr0
  have hs4 := hok.s4 hn9 hz0
  have hk4 := hok.k4 hn9
  have hb4 := hs4.b
  have hq4 := hs4.q
  obtain ⟨sl, hsl0⟩ : ∃ y : Nat, y = zlw (h9 >>> (nI (11) &&& 31)) (zSz nw n9) := ⟨_, rfl⟩
  have hsl : sl < (zSz nw n9) := by rw [hsl0]; exact zlw_lt _ hb4.1
  obtain ⟨hd, hd5, ehd⟩ := hk4 sl hsl
  obtain ⟨bj, ebj⟩ : ∃ bj : Nat, 1 ≤ hd → bj ≤ 99 ∧ zBx nw hd = nI bj := by
    rcases Nat.eq_zero_or_pos hd with q9 | q9
    · exact ⟨0, fun h8 => by omega⟩
    · obtain ⟨j8, a8, b8⟩ := hok.2.2.1 hd q9 hd5
      exact ⟨j8, fun _ => ⟨a8, b8⟩⟩
  refine lv_iload hx hb dL_law_1069 (lv_at hl 9 rfl) ?_
  refine lv_bipush (v := nI (11)) hx hb dL_law_1071 (by decide) ?_
  refine lv_ishr hx hb dL_law_1073 ?_
  refine lv_aload_n hx hb dL_law_1074 rfl (lv_at hl 2 rfl) ?_
  refine lv_iload hx hb dL_law_1075 (lv_at hl 11 rfl) ?_
  refine z_lald (j := n9) hx hb hG hr1 ⟨by omega, by omega⟩ dL_law_1077 ?_
  refine z_topl (y := lN (zLn (zKd nw n9) (zSz nw n9))) (congrArg lN ((e1r _ hn9).trans (zRn_e hz0))) ?_
  refine z_roSX (As := [.long (lN (zLn (zKd nw n9) (zSz nw n9)))]) (rest := [.int ((h9) >>> (nI (11) &&& 31))]) S hG (c_L_slots E hs4 hk4) 1 gL_law_L_slots rfl kL_slots.2 ⟨Nat.le_of_ble_eq_true rfl, Nat.le_of_ble_eq_true rfl⟩ ⟨Nat.le_of_ble_eq_true rfl, Nat.le_of_ble_eq_true rfl⟩ (trivial) rfl hl.1 rfl rfl (Nat.le_of_ble_eq_true rfl) dL_law_1078 ?_
  refine z_roSX (As := [.int ((h9) >>> (nI (11) &&& 31)), .int (nI (zSz nw n9))]) (rest := []) S hG (c_L_low E (v := h9 >>> (nI (11) &&& 31)) (n := (zSz nw n9)) ⟨by omega, by omega⟩) 2 gL_law_L_low rfl kL_low.2 ⟨Nat.le_of_ble_eq_true rfl, Nat.le_of_ble_eq_true rfl⟩ ⟨Nat.le_of_ble_eq_true rfl, Nat.le_of_ble_eq_true rfl⟩ (trivial) rfl hl.1 rfl rfl (Nat.le_of_ble_eq_true rfl) dL_law_1081 ?_
  refine z_top (y := nI (sl)) (by rw [hsl0]) ?_
  refine lv_istore (lv' := [(16, .int (nI (sl))), (0, .ref (b)), (1, .ref (ad 287)), (2, .ref (ra)), (3, .ref (ba)), (4, .ref (ga)), (5, .ref (ea)), (6, .ref (ca)), (7, .int (nI (zNl nw))), (8, .int (nI (i))), (9, .int (h9)), (10, .int (nI (kd))), (11, .int (nI (n9))), (12, .int (nI (k9))), (13, .int (-1)), (14, .int (nI (1))), (15, .int (zfm (zfd (zSz nw) 6)))]) hx hb dL_law_1084 hl (by decide) rfl (fun ls hl => ?_)
  refine lv_aload_n hx hb dL_law_1086 rfl (lv_at hl 3 rfl) ?_
  refine lv_iload hx hb dL_law_1087 (lv_at hl 12 rfl) ?_
  refine z_lald (j := n9) hx hb hG hr1 ⟨by omega, by omega⟩ dL_law_1089 ?_
  refine z_topl (y := lN (zLn (zKd nw n9) (zSz nw n9))) (congrArg lN ((e1r _ hn9).trans (zRn_e hz0))) ?_
  refine lv_iload hx hb dL_law_1090 (lv_at hl 0 rfl) ?_
  refine z_roSX (As := [.long (lN (zLn (zKd nw n9) (zSz nw n9))), .int (nI (sl))]) (rest := []) S hG (c_L_kind E (j := sl) hs4 hk4 (by omega)) 2 gL_law_L_kind rfl kL_kind.2 ⟨Nat.le_of_ble_eq_true rfl, Nat.le_of_ble_eq_true rfl⟩ ⟨Nat.le_of_ble_eq_true rfl, Nat.le_of_ble_eq_true rfl⟩ (trivial) rfl hl.1 rfl rfl (Nat.le_of_ble_eq_true rfl) dL_law_1092 ?_
  refine z_top (y := nI (hd)) (ehd) ?_
  refine lv_istore (lv' := [(17, .int (nI (hd))), (16, .int (nI (sl))), (0, .ref (b)), (1, .ref (ad 287)), (2, .ref (ra)), (3, .ref (ba)), (4, .ref (ga)), (5, .ref (ea)), (6, .ref (ca)), (7, .int (nI (zNl nw))), (8, .int (nI (i))), (9, .int (h9)), (10, .int (nI (kd))), (11, .int (nI (n9))), (12, .int (nI (k9))), (13, .int (-1)), (14, .int (nI (1))), (15, .int (zfm (zfd (zSz nw) 6)))]) hx hb dL_law_1095 hl (by decide) rfl (fun ls hl => ?_)
  refine lv_iload hx hb dL_law_1097 (lv_at hl 0 rfl) ?_
  refine z_fle (tgt := 1117) hx hb dL_law_1099 (by decide) (by omega) (fun c_1 => ?_) (fun c_1 => ?_)
  · refine lv_iconst (v := nI (0)) hx hb dL_law_1117 (by decide) ?_
    refine lv_istore (lv' := [(18, .int (nI (0))), (17, .int (nI (hd))), (16, .int (nI (sl))), (0, .ref (b)), (1, .ref (ad 287)), (2, .ref (ra)), (3, .ref (ba)), (4, .ref (ga)), (5, .ref (ea)), (6, .ref (ca)), (7, .int (nI (zNl nw))), (8, .int (nI (i))), (9, .int (h9)), (10, .int (nI (kd))), (11, .int (nI (n9))), (12, .int (nI (k9))), (13, .int (-1)), (14, .int (nI (1))), (15, .int (zfm (zfd (zSz nw) 6)))]) hx hb dL_law_1118 hl (by decide) rfl (fun ls hl => ?_)
    refine lv_aload_n hx hb dL_law_1120 rfl (lv_at hl 4 rfl) ?_
    refine lv_iload hx hb dL_law_1121 (lv_at hl 14 rfl) ?_
    refine lv_iload hx hb dL_law_1123 (lv_at hl 2 rfl) ?_
    refine z_wrV (As := [.int (nI (n9)), .int (nI (sl))]) (rest := []) (q := (RX5, TX5, 7)) S hG (c_X5_takeOff_2 E (r := n9) (j := sl) hok hinj hct hn9 hz0 hsl (by rw [ehd, show hd = 0 by omega])) 2 gL_law_X5_takeOff rfl kX5_takeOff ⟨Nat.le_of_ble_eq_true rfl, Nat.le_of_ble_eq_true rfl⟩ ⟨Nat.le_of_ble_eq_true rfl, Nat.le_of_ble_eq_true rfl⟩ (hCW) rfl h5 rfl hl.1 rfl rfl (Nat.le_of_ble_eq_true rfl) dL_law_1125 hS (fun q h => hA1 q h) (fun Hn locs h_3 q_2 o_4 hS => ?_)
    have hz : Hn.size = H.size := q_2.trans hz
    have hCW := h_3
    have hr1 := va_at.kept hr1 (o_4 _ (hdis _ (Or.inl rfl)))
    have hr2 := va_at.kept hr2 (o_4 _ (hdis _ (Or.inr (Or.inl rfl))))
    have hr3 := va_at.kept hr3 (o_4 _ (hdis _ (Or.inr (Or.inr (Or.inl rfl)))))
    have hr4 := va_at.kept hr4 (o_4 _ (hdis _ (Or.inr (Or.inr (Or.inr (Or.inl rfl))))))
    have hr5 := va_at.kept hr5 (o_4 _ (hdis _ (Or.inr (Or.inr (Or.inr (Or.inr rfl))))))
    obtain ⟨f5, h5⟩ := zCW_recv hCW
    refine lv_iload hx hb dL_law_1128 (lv_at hl 0 rfl) ?_
    refine z_feq (tgt := 1138) hx hb dL_law_1130 (by decide) (by omega) (fun c_5 => ?_) (fun c_5 => by exfalso; omega)
    refine lv_bipush (v := (-3)) hx hb dL_law_1138 (by decide) ?_
    refine lv_icmp_ne (tgt := 1147) hx hb dL_law_1140 (by decide) (fun c_6 => by exfalso; exact c_6 rfl) (fun c_6 => ?_)
    refine lv_iconst (v := nI (1)) hx hb dL_law_1143 (by decide) ?_
    refine lv_goto (tgt := 1148) hx hb dL_law_1144 (by decide) ?_
    refine lv_istore (lv' := [(14, .int (nI (1))), (18, .int (nI (0))), (17, .int (nI (hd))), (16, .int (nI (sl))), (0, .ref (b)), (1, .ref (ad 287)), (2, .ref (ra)), (3, .ref (ba)), (4, .ref (ga)), (5, .ref (ea)), (6, .ref (ca)), (7, .int (nI (zNl nw))), (8, .int (nI (i))), (9, .int (h9)), (10, .int (nI (kd))), (11, .int (nI (n9))), (12, .int (nI (k9))), (13, .int (-1)), (15, .int (zfm (zfd (zSz nw) 6)))]) hx hb dL_law_1148 hl (by decide) rfl (fun ls hl => ?_)
    refine lv_iload hx hb dL_law_1150 (lv_at hl 1 rfl) ?_
    refine z_feq (tgt := 1179) hx hb dL_law_1152 (by decide) (by omega) (fun c_7 => ?_) (fun c_7 => by exfalso; omega)
    refine lv_goto (tgt := 1734) hx hb dL_law_1179 (by decide) ?_
    exact kk (nw, sv, an, hh, ct, ln, cd) (rr) (bb) (gg) (ee) (cc) _ _ ⟨hv, hCW, ⟨hr1, hr2, hr3, hr4, hr5⟩, hrel, hS⟩ n9 hn9 ls (lv_sub hl [4, 5, 6, 7, 8, 9, 10, 11, 12, 15, 0] rfl)
  · refine lv_aload_n hx hb dL_law_1102 rfl (lv_at hl 5 rfl) ?_
    refine lv_iload hx hb dL_law_1103 (lv_at hl 0 rfl) ?_
    refine lv_iconst (v := nI (1)) hx hb dL_law_1105 (by decide) ?_
    refine z_isub hx hb dL_law_1106 (by omega) ?_
    refine z_iald (j := hd - 1) hx hb hG hr2 ⟨by omega, by omega⟩ dL_law_1107 ?_
    refine z_top (y := nI (bj)) ((e2r hd (by omega) hd5).1.trans (ebj (by omega)).2) ?_
    refine lv_bipush (v := nI (99)) hx hb dL_law_1108 (by decide) ?_
    refine z_cge (tgt := 1117) hx hb dL_law_1110 (by decide) ⟨by have h8 := (ebj (by omega)).1; omega, by omega⟩ (fun c_8 => ?_) (fun c_8 => ?_)
    · refine lv_iconst (v := nI (0)) hx hb dL_law_1117 (by decide) ?_
      refine lv_istore (lv' := [(18, .int (nI (0))), (17, .int (nI (hd))), (16, .int (nI (sl))), (0, .ref (b)), (1, .ref (ad 287)), (2, .ref (ra)), (3, .ref (ba)), (4, .ref (ga)), (5, .ref (ea)), (6, .ref (ca)), (7, .int (nI (zNl nw))), (8, .int (nI (i))), (9, .int (h9)), (10, .int (nI (kd))), (11, .int (nI (n9))), (12, .int (nI (k9))), (13, .int (-1)), (14, .int (nI (1))), (15, .int (zfm (zfd (zSz nw) 6)))]) hx hb dL_law_1118 hl (by decide) rfl (fun ls hl => ?_)
      refine lv_aload_n hx hb dL_law_1120 rfl (lv_at hl 4 rfl) ?_
      refine lv_iload hx hb dL_law_1121 (lv_at hl 14 rfl) ?_
      refine lv_iload hx hb dL_law_1123 (lv_at hl 2 rfl) ?_
      refine z_wrV (As := [.int (nI (n9)), .int (nI (sl))]) (rest := []) (q := (RX5, TX5, 7)) S hG (c_X5_takeOff_3 E (r := n9) (j := sl) (w := hd) hok hinj hct hn9 hz0 hsl ⟨by omega, hd5⟩ ehd (by rw [(ebj (by omega)).2, show bj = 99 by have h8 := (ebj (by omega)).1; omega])) 2 gL_law_X5_takeOff rfl kX5_takeOff ⟨Nat.le_of_ble_eq_true rfl, Nat.le_of_ble_eq_true rfl⟩ ⟨Nat.le_of_ble_eq_true rfl, Nat.le_of_ble_eq_true rfl⟩ (hCW) rfl h5 rfl hl.1 rfl rfl (Nat.le_of_ble_eq_true rfl) dL_law_1125 hS (fun q h => hA1 q h) (fun Hn locs h_10 q_9 o_11 hS => ?_)
      have hz : Hn.size = H.size := q_9.trans hz
      have hCW := h_10
      have hr1 := va_at.kept hr1 (o_11 _ (hdis _ (Or.inl rfl)))
      have hr2 := va_at.kept hr2 (o_11 _ (hdis _ (Or.inr (Or.inl rfl))))
      have hr3 := va_at.kept hr3 (o_11 _ (hdis _ (Or.inr (Or.inr (Or.inl rfl)))))
      have hr4 := va_at.kept hr4 (o_11 _ (hdis _ (Or.inr (Or.inr (Or.inr (Or.inl rfl))))))
      have hr5 := va_at.kept hr5 (o_11 _ (hdis _ (Or.inr (Or.inr (Or.inr (Or.inr rfl))))))
      obtain ⟨f5, h5⟩ := zCW_recv hCW
      refine lv_iload hx hb dL_law_1128 (lv_at hl 0 rfl) ?_
      refine z_feq (tgt := 1138) hx hb dL_law_1130 (by decide) (by omega) (fun c_12 => ?_) (fun c_12 => by exfalso; omega)
      refine lv_bipush (v := (-3)) hx hb dL_law_1138 (by decide) ?_
      refine lv_icmp_ne (tgt := 1147) hx hb dL_law_1140 (by decide) (fun c_13 => by exfalso; exact c_13 rfl) (fun c_13 => ?_)
      refine lv_iconst (v := nI (1)) hx hb dL_law_1143 (by decide) ?_
      refine lv_goto (tgt := 1148) hx hb dL_law_1144 (by decide) ?_
      refine lv_istore (lv' := [(14, .int (nI (1))), (18, .int (nI (0))), (17, .int (nI (hd))), (16, .int (nI (sl))), (0, .ref (b)), (1, .ref (ad 287)), (2, .ref (ra)), (3, .ref (ba)), (4, .ref (ga)), (5, .ref (ea)), (6, .ref (ca)), (7, .int (nI (zNl nw))), (8, .int (nI (i))), (9, .int (h9)), (10, .int (nI (kd))), (11, .int (nI (n9))), (12, .int (nI (k9))), (13, .int (-1)), (15, .int (zfm (zfd (zSz nw) 6)))]) hx hb dL_law_1148 hl (by decide) rfl (fun ls hl => ?_)
      refine lv_iload hx hb dL_law_1150 (lv_at hl 1 rfl) ?_
      refine z_feq (tgt := 1179) hx hb dL_law_1152 (by decide) (by omega) (fun c_14 => ?_) (fun c_14 => by exfalso; omega)
      refine lv_goto (tgt := 1734) hx hb dL_law_1179 (by decide) ?_
      exact kk (nw, sv, an, hh, ct, ln, cd) (rr) (bb) (gg) (ee) (cc) _ _ ⟨hv, hCW, ⟨hr1, hr2, hr3, hr4, hr5⟩, hrel, hS⟩ n9 hn9 ls (lv_sub hl [4, 5, 6, 7, 8, 9, 10, 11, 12, 15, 0] rfl)
    · refine lv_iconst (v := nI (1)) hx hb dL_law_1113 (by decide) ?_
      refine lv_goto (tgt := 1118) hx hb dL_law_1114 (by decide) ?_
      refine lv_istore (lv' := [(18, .int (nI (1))), (17, .int (nI (hd))), (16, .int (nI (sl))), (0, .ref (b)), (1, .ref (ad 287)), (2, .ref (ra)), (3, .ref (ba)), (4, .ref (ga)), (5, .ref (ea)), (6, .ref (ca)), (7, .int (nI (zNl nw))), (8, .int (nI (i))), (9, .int (h9)), (10, .int (nI (kd))), (11, .int (nI (n9))), (12, .int (nI (k9))), (13, .int (-1)), (14, .int (nI (1))), (15, .int (zfm (zfd (zSz nw) 6)))]) hx hb dL_law_1118 hl (by decide) rfl (fun ls hl => ?_)
      refine lv_aload_n hx hb dL_law_1120 rfl (lv_at hl 4 rfl) ?_
      refine lv_iload hx hb dL_law_1121 (lv_at hl 14 rfl) ?_
      refine lv_iload hx hb dL_law_1123 (lv_at hl 2 rfl) ?_
      refine z_wrV (As := [.int (nI (n9)), .int (nI (sl))]) (rest := []) (q := (RX5, TX5, 7)) S hG (c_X5_takeOff_4 E (r := n9) (j := sl) (w := hd) (u := bj) hok hinj hct hn9 hz0 hsl ⟨by omega, hd5⟩ ehd ⟨(ebj (by omega)).2, by omega⟩) 2 gL_law_X5_takeOff rfl kX5_takeOff ⟨Nat.le_of_ble_eq_true rfl, Nat.le_of_ble_eq_true rfl⟩ ⟨Nat.le_of_ble_eq_true rfl, Nat.le_of_ble_eq_true rfl⟩ (hCW) rfl h5 rfl hl.1 rfl rfl (Nat.le_of_ble_eq_true rfl) dL_law_1125 hS (fun q h => hA1 q h) (fun Hn locs h_16 q_15 o_17 hS => ?_)
      have hz : Hn.size = H.size := q_15.trans hz
      have hCW := h_16
      have hr1 := va_at.kept hr1 (o_17 _ (hdis _ (Or.inl rfl)))
      have hr2 := va_at.kept hr2 (o_17 _ (hdis _ (Or.inr (Or.inl rfl))))
      have hr3 := va_at.kept hr3 (o_17 _ (hdis _ (Or.inr (Or.inr (Or.inl rfl)))))
      have hr4 := va_at.kept hr4 (o_17 _ (hdis _ (Or.inr (Or.inr (Or.inr (Or.inl rfl))))))
      have hr5 := va_at.kept hr5 (o_17 _ (hdis _ (Or.inr (Or.inr (Or.inr (Or.inr rfl))))))
      obtain ⟨f5, h5⟩ := zCW_recv hCW
      refine lv_iload hx hb dL_law_1128 (lv_at hl 0 rfl) ?_
      refine z_feq (tgt := 1138) hx hb dL_law_1130 (by decide) (by omega) (fun c_18 => by exfalso; omega) (fun c_18 => ?_)
      refine lv_iload hx hb dL_law_1133 (lv_at hl 1 rfl) ?_
      refine lv_goto (tgt := 1140) hx hb dL_law_1135 (by decide) ?_
      refine lv_icmp_ne (tgt := 1147) hx hb dL_law_1140 (by decide) (fun c_19 => by exfalso; exact c_19 rfl) (fun c_19 => ?_)
      refine lv_iconst (v := nI (1)) hx hb dL_law_1143 (by decide) ?_
      refine lv_goto (tgt := 1148) hx hb dL_law_1144 (by decide) ?_
      refine lv_istore (lv' := [(14, .int (nI (1))), (18, .int (nI (1))), (17, .int (nI (hd))), (16, .int (nI (sl))), (0, .ref (b)), (1, .ref (ad 287)), (2, .ref (ra)), (3, .ref (ba)), (4, .ref (ga)), (5, .ref (ea)), (6, .ref (ca)), (7, .int (nI (zNl nw))), (8, .int (nI (i))), (9, .int (h9)), (10, .int (nI (kd))), (11, .int (nI (n9))), (12, .int (nI (k9))), (13, .int (-1)), (15, .int (zfm (zfd (zSz nw) 6)))]) hx hb dL_law_1148 hl (by decide) rfl (fun ls hl => ?_)
      refine lv_iload hx hb dL_law_1150 (lv_at hl 1 rfl) ?_
      refine z_feq (tgt := 1179) hx hb dL_law_1152 (by decide) (by omega) (fun c_20 => by exfalso; omega) (fun c_20 => ?_)
      refine lv_aload_n hx hb dL_law_1155 rfl (lv_at hl 7 rfl) ?_
      refine lv_iload hx hb dL_law_1156 (lv_at hl 2 rfl) ?_
      refine lv_iconst (v := nI (1)) hx hb dL_law_1158 (by decide) ?_
      refine z_isub hx hb dL_law_1159 (by omega) ?_
      refine lv_dup2_11 hx hb dL_law_1160 rfl rfl ?_
      refine z_iald (j := hd - 1) hx hb hG hr2 ⟨by omega, by omega⟩ dL_law_1161 ?_
      refine z_top (y := nI (bj)) ((e2r hd (by omega) hd5).1.trans (ebj (by omega)).2) ?_
      refine lv_iconst (v := nI (1)) hx hb dL_law_1162 (by decide) ?_
      refine z_iadd hx hb dL_law_1163 ?_
      refine z_iast (j := hd - 1) hx hb hG hr2 ⟨by omega, by omega⟩ hS (hge _ (Or.inr (Or.inl rfl))) dL_law_1164 (fun Hn locs h_21 o_22 hS => ?_)
      have hCW := zCW_kept hCW (fun q hq => o_22.2 q (fun e9 => hdis q (by rw [e9]; exact Or.inr (Or.inl rfl)) hq))
      have hr1 := va_at.kept hr1 (o_22.2 _ (by omega))
      have hr2 := h_21
      have hr3 := va_at.kept hr3 (o_22.2 _ (by omega))
      have hr4 := va_at.kept hr4 (o_22.2 _ (by omega))
      have hr5 := va_at.kept hr5 (o_22.2 _ (by omega))
      obtain ⟨f5, h5⟩ := zCW_recv hCW
      have hz : Hn.size = H.size := o_22.1.trans hz
      refine lv_aload_n hx hb dL_law_1165 rfl (lv_at hl 6 rfl) ?_
      refine lv_iload hx hb dL_law_1166 (lv_at hl 15 rfl) ?_
      refine lv_aload_n hx hb dL_law_1168 rfl (lv_at hl 6 rfl) ?_
      refine lv_iload hx hb dL_law_1169 (lv_at hl 15 rfl) ?_
      refine z_lald (j := n9) hx hb hG hr1 ⟨by omega, by omega⟩ dL_law_1171 ?_
      refine z_topl (y := lN (zLn (zKd nw n9) (zSz nw n9))) (congrArg lN ((e1r _ hn9).trans (zRn_e hz0))) ?_
      refine lv_iload hx hb dL_law_1172 (lv_at hl 3 rfl) ?_
      refine lv_iconst (v := nI (0)) hx hb dL_law_1174 (by decide) ?_
      refine z_roSX (As := [.long (lN (zLn (zKd nw n9) (zSz nw n9))), .int (nI (sl)), .int (nI (0))]) (rest := [.int (nI (n9)), .ref (ra)]) S hG (c_L_lay E (j := sl) (x := nI 0) hs4 hk4 hsl ⟨0, by decide, rfl⟩) 3 gL_law_L_lay rfl kL_lay.2 ⟨Nat.le_of_ble_eq_true rfl, Nat.le_of_ble_eq_true rfl⟩ ⟨Nat.le_of_ble_eq_true rfl, Nat.le_of_ble_eq_true rfl⟩ (trivial) rfl hl.1 rfl rfl (Nat.le_of_ble_eq_true rfl) dL_law_1175 ?_
      refine z_last (j := n9) hx hb hG hr1 ⟨by omega, by omega⟩ hS (hge _ (Or.inl rfl)) dL_law_1178 (fun Hn locs h_23 o_24 hS => ?_)
      have hCW := zCW_kept hCW (fun q hq => o_24.2 q (fun e9 => hdis q (by rw [e9]; exact Or.inl rfl) hq))
      have hr1 := h_23
      have hr2 := va_at.kept hr2 (o_24.2 _ (by omega))
      have hr3 := va_at.kept hr3 (o_24.2 _ (by omega))
      have hr4 := va_at.kept hr4 (o_24.2 _ (by omega))
      have hr5 := va_at.kept hr5 (o_24.2 _ (by omega))
      obtain ⟨f5, h5⟩ := zCW_recv hCW
      have hz : Hn.size = H.size := o_24.1.trans hz
      refine lv_goto (tgt := 1734) hx hb dL_law_1179 (by decide) ?_
      exact kk (ztR (nw, sv, an, hh, ct, ln, cd) (zsBx (zsRg nw n9 (zSz nw n9) (upd (zKd nw n9) sl (nI 0))) (upd (zBx nw) hd (nI (bj + 1))))) (zun rr n9 (zLn (upd (zKd nw n9) sl (nI 0)) (zSz nw n9))) (upd bb (hd - 1) (nI (bj + 1))) (gg) (ee) (cc) _ _ ⟨zInv_r hv (zOk_bx1 (zOk_rg hok hn9 (Or.inr hs4) (zup_k (by decide) hk4)) (by omega)), hCW, ⟨hr1, hr2, hr3, hr4, hr5⟩, zR_b1 (zR_rg hrel hn9 (fun e9 => absurd e9 hz0) (fun _ => rfl)) ⟨by omega, hd5⟩, hS⟩ n9 hn9 ls (lv_sub hl [4, 5, 6, 7, 8, 9, 10, 11, 12, 15, 0] rfl)
