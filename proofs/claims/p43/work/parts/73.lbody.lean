/-! the law: a round, the loop -/
set_option maxHeartbeats 4000000 in
set_option maxRecDepth 100000 in
theorem lw_join {p : Program} {e : Env} {s : State} {m : MethodId} {b L : Nat} {xs : Nat → Int32} {below : List Frame} {meth : Method} {c : Code} {E : zEnv} {ad : Nat → Nat} {ra ba ga ea ca : Nat} {Q : State → Prop} {i : Nat} (F : zLF E p s m c b L xs) (D : zLA ad ra ba ga ea ca s) (hi : i < 50) (kk : zLG p e s m b below meth c E ad ra ba ga ea ca Q (i + 1) 75) {τ : zT} {rr : Nat → Nat} {bb gg : Nat → Int32} {ee : Nat → Nat} {cc : Nat → Int32} {H : Heap} {locs : List Loc} (hs : zLS E ad ra ba ga ea ca s τ rr bb gg ee cc H locs) {n9 : Nat} (hn9 : n9 < 6) {ls : Array Slot} (hl : lv_has ls 22 [(0, .ref (b)), (1, .ref (ad 287)), (2, .ref (ra)), (3, .ref (ba)), (4, .ref (ga)), (5, .ref (ea)), (6, .ref (ca)), (7, .int (nI (zNl τ.1))), (8, .int (nI (i))), (11, .int (nI (n9))), (14, .int (nI (1)))]) : zLW p e s m b below meth c E Q H locs 1734 ls [] := by
  obtain ⟨S, hG, hX, hbl, hL⟩ := id F
  obtain ⟨hinj, hA1, hdis, hge, hd1, hd2, hd3, hd4⟩ := id D
  obtain ⟨hx, hb, hml9, hown, hts⟩ := id S
  have hbA : ¬ (fun q : Nat => s.heap.size ≤ q) b := Nat.not_le.mpr hbl
  obtain ⟨hv, hCW0, hRW, hrel, hS⟩ := hs
  obtain ⟨nw, sv, an, hh, ct, ln, cd⟩ := τ
  have hCW : zCW E ad nw sv an hh ct ln cd H := hCW0
  have hrel : zRel nw rr bb gg ee cc := hrel
  have hok : zOk nw := hv.1
  have hct : ct ≤ 5 := hv.2.2.2.1
  obtain ⟨hr1, hr2, hr3, hr4, hr5⟩ := id hRW
  obtain ⟨f5, h5⟩ := zCW_recv hCW
  obtain ⟨e1r, e2r, e3r, e4r, e5r⟩ := id hrel
  have hml := hok.2.2.2.1
  have hnl := hok.2.2.2.2.1
  have hz : H.size = H.size := rfl
  have hl : lv_has ls 22 [(0, .ref (b)), (1, .ref (ad 287)), (2, .ref (ra)), (3, .ref (ba)), (4, .ref (ga)), (5, .ref (ea)), (6, .ref (ca)), (7, .int (nI (zNl nw))), (8, .int (nI (i))), (11, .int (nI (n9))), (14, .int (nI (1)))] := hl
  obtain ⟨x9, hx9⟩ : ∃ y : Int32, y = zcel xs L (50 + i) := ⟨_, rfl⟩
  obtain ⟨m9, hm90⟩ : ∃ y : Nat, y = zlw (x9 >>> (nI (12) &&& 31)) 3 := ⟨_, rfl⟩
  have hm9 : m9 < 3 := by rw [hm90]; exact zlw_lt _ (by decide)
  have hlw : zlw x9 3 < 3 := zlw_lt _ (by decide)
  refine lv_aload_n hx hb dL_law_1734 rfl (lv_at hl 0 rfl) ?_
  refine lv_bipush (v := nI (50)) hx hb dL_law_1735 (by decide) ?_
  refine lv_iload hx hb dL_law_1737 (lv_at hl 8 rfl) ?_
  refine z_iadd hx hb dL_law_1739 ?_
  refine z_cell (k := 50 + i) (rest := []) S hG hL (by omega) hX hbl hbA hS gL_law_L_cell ⟨Nat.le_of_ble_eq_true rfl, Nat.le_of_ble_eq_true rfl⟩ ⟨Nat.le_of_ble_eq_true rfl, Nat.le_of_ble_eq_true rfl⟩ hl.1 (Nat.le_of_ble_eq_true rfl) dL_law_1740 ?_
  refine z_top (y := (x9)) (hx9.symm) ?_
  refine lv_istore (lv' := [(16, .int (x9)), (0, .ref (b)), (1, .ref (ad 287)), (2, .ref (ra)), (3, .ref (ba)), (4, .ref (ga)), (5, .ref (ea)), (6, .ref (ca)), (7, .int (nI (zNl nw))), (8, .int (nI (i))), (11, .int (nI (n9))), (14, .int (nI (1)))]) hx hb dL_law_1743 hl (by decide) rfl (fun ls hl => ?_)
  refine lv_iload hx hb dL_law_1745 (lv_at hl 0 rfl) ?_
  refine lv_bipush (v := nI (12)) hx hb dL_law_1747 (by decide) ?_
  refine lv_ishr hx hb dL_law_1749 ?_
  refine lv_iconst (v := nI (3)) hx hb dL_law_1750 (by decide) ?_
  refine z_roSX (As := [.int ((x9) >>> (nI (12) &&& 31)), .int (nI (3))]) (rest := []) S hG (c_L_low E (v := x9 >>> (nI (12) &&& 31)) (n := 3) ⟨by omega, by omega⟩) 2 gL_law_L_low rfl kL_low.2 ⟨Nat.le_of_ble_eq_true rfl, Nat.le_of_ble_eq_true rfl⟩ ⟨Nat.le_of_ble_eq_true rfl, Nat.le_of_ble_eq_true rfl⟩ (trivial) rfl hl.1 rfl rfl (Nat.le_of_ble_eq_true rfl) dL_law_1751 ?_
  refine z_top (y := nI (m9)) (by rw [hm90]) ?_
  refine lv_istore (lv' := [(17, .int (nI (m9))), (16, .int (x9)), (0, .ref (b)), (1, .ref (ad 287)), (2, .ref (ra)), (3, .ref (ba)), (4, .ref (ga)), (5, .ref (ea)), (6, .ref (ca)), (7, .int (nI (zNl nw))), (8, .int (nI (i))), (11, .int (nI (n9))), (14, .int (nI (1)))]) hx hb dL_law_1754 hl (by decide) rfl (fun ls hl => ?_)
  refine lv_iload hx hb dL_law_1756 (lv_at hl 12 rfl) ?_
  refine z_feq (tgt := 1856) hx hb dL_law_1758 (by decide) (by omega) (fun c_1 => by exfalso; omega) (fun c_1 => ?_)
  refine lv_aload_n hx hb dL_law_1761 rfl (lv_at hl 3 rfl) ?_
  refine lv_aload_n hx hb dL_law_1762 rfl (lv_at hl 4 rfl) ?_
  refine lv_aload_n hx hb dL_law_1763 rfl (lv_at hl 5 rfl) ?_
  refine lv_aload hx hb dL_law_1764 (lv_at hl 6 rfl) ?_
  refine lv_aload hx hb dL_law_1766 (lv_at hl 7 rfl) ?_
  refine lv_aload hx hb dL_law_1768 (lv_at hl 8 rfl) ?_
  refine lv_iload hx hb dL_law_1770 (lv_at hl 9 rfl) ?_
  refine z_roSX (As := [.ref (ad 287), .ref (ra), .ref (ba), .ref (ga), .ref (ea), .ref (ca), .int (nI (zNl nw))]) (rest := []) S hG (c_L_box E hok hrel) 7 gL_law_L_box rfl kL_box.2 ⟨Nat.le_of_ble_eq_true rfl, Nat.le_of_ble_eq_true rfl⟩ ⟨Nat.le_of_ble_eq_true rfl, Nat.le_of_ble_eq_true rfl⟩ (⟨hCW, hr1, hr2, hr3, hr4, hr5⟩) rfl hl.1 rfl rfl (Nat.le_of_ble_eq_true rfl) dL_law_1772 ?_
  refine z_feq (tgt := 1856) hx hb dL_law_1775 (by decide) (by omega) (fun c_2 => by exfalso; omega) (fun c_2 => ?_)
  refine lv_aload_n hx hb dL_law_1778 rfl (lv_at hl 4 rfl) ?_
  refine lv_iload hx hb dL_law_1779 (lv_at hl 11 rfl) ?_
  refine z_lald (j := n9) hx hb hG hr1 ⟨by omega, by omega⟩ dL_law_1781 ?_
  refine z_topl (y := lN (zRn nw n9)) (congrArg lN (e1r _ hn9)) ?_
  refine lv_lconst (v := lN 0) hx hb dL_law_1782 rfl ?_
  refine W.lcmp hx hb dL_law_1783 ?_
  refine z_lle (tgt := 1805) hx hb dL_law_1784 (by decide) ⟨by have h9 := zRn_62 hok (t := n9) (by omega); omega, by omega⟩ (fun c_3 => ?_) (fun c_3 => ?_)
  · refine lv_aload_n hx hb dL_law_1805 rfl (lv_at hl 3 rfl) ?_
    refine lv_aload_n hx hb dL_law_1806 rfl (lv_at hl 4 rfl) ?_
    refine lv_iload hx hb dL_law_1807 (lv_at hl 11 rfl) ?_
    refine lv_iload hx hb dL_law_1809 (lv_at hl 0 rfl) ?_
    refine lv_iload hx hb dL_law_1811 (lv_at hl 1 rfl) ?_
    refine lv_iconst (v := nI (3)) hx hb dL_law_1813 (by decide) ?_
    refine z_roSX (As := [.int (x9), .int (nI (3))]) (rest := [.int (nI (m9)), .int (nI (n9)), .ref (ra), .ref (ad 287)]) S hG (c_L_low E (v := x9) (n := 3) ⟨by omega, by omega⟩) 2 gL_law_L_low rfl kL_low.2 ⟨Nat.le_of_ble_eq_true rfl, Nat.le_of_ble_eq_true rfl⟩ ⟨Nat.le_of_ble_eq_true rfl, Nat.le_of_ble_eq_true rfl⟩ (trivial) rfl hl.1 rfl rfl (Nat.le_of_ble_eq_true rfl) dL_law_1814 ?_
    refine z_roSX (As := [.ref (ad 287), .ref (ra), .int (nI (n9)), .int (nI (m9)), .int (nI (zlw (x9) 3))]) (rest := []) S hG (c_L_two E (a9 := n9) (b9 := m9) (lv := zlw x9 3) hok hrel hn9 (by omega) (by omega)) 5 gL_law_L_two rfl kL_two.2 ⟨Nat.le_of_ble_eq_true rfl, Nat.le_of_ble_eq_true rfl⟩ ⟨Nat.le_of_ble_eq_true rfl, Nat.le_of_ble_eq_true rfl⟩ (⟨hCW, hr1, hr2, hr3, hr4, hr5⟩) rfl hl.1 rfl rfl (Nat.le_of_ble_eq_true rfl) dL_law_1817 ?_
    refine z_feq (tgt := 1856) hx hb dL_law_1820 (by decide) (by omega) (fun c_4 => by exfalso; omega) (fun c_4 => ?_)
    refine lv_iload hx hb dL_law_1823 (lv_at hl 10 rfl) ?_
    refine lv_bipush (v := nI (7)) hx hb dL_law_1825 (by decide) ?_
    refine z_irem hx hb dL_law_1827 ⟨by omega, by omega, by omega⟩ ?_
    refine lv_bipush (v := nI (6)) hx hb dL_law_1828 (by decide) ?_
    refine z_cne (tgt := 1858) hx hb dL_law_1830 (by decide) ⟨by omega, by omega⟩ (fun c_5 => ?_) (fun c_5 => ?_)
    · refine lv_iinc (v := nI (i + 1)) (lv' := [(8, .int (nI (i + 1))), (17, .int (nI (m9))), (16, .int (x9)), (0, .ref (b)), (1, .ref (ad 287)), (2, .ref (ra)), (3, .ref (ba)), (4, .ref (ga)), (5, .ref (ea)), (6, .ref (ca)), (7, .int (nI (zNl nw))), (11, .int (nI (n9))), (14, .int (nI (1)))]) hx hb dL_law_1858 hl (k := 10) rfl (z_inc1 _) (by decide) rfl (fun ls hl => ?_)
      refine lv_goto (tgt := 75) hx hb dL_law_1861 (by decide) ?_
      exact kk (nw, sv, an, hh, ct, ln, cd) rr bb gg ee cc _ _ ⟨hv, hCW, ⟨hr1, hr2, hr3, hr4, hr5⟩, hrel, hS⟩ ls (lv_sub hl [3, 4, 5, 6, 7, 8, 9, 10, 0] rfl)
    · refine lv_aload_n hx hb dL_law_1833 rfl (lv_at hl 4 rfl) ?_
      refine lv_iload hx hb dL_law_1834 (lv_at hl 11 rfl) ?_
      refine z_lald (j := n9) hx hb hG hr1 ⟨by omega, by omega⟩ dL_law_1836 ?_
      refine z_topl (y := lN (zRn nw n9)) (congrArg lN (e1r _ hn9)) ?_
      refine lv_lconst (v := lN 0) hx hb dL_law_1837 rfl ?_
      refine W.lcmp hx hb dL_law_1838 ?_
      refine z_lle (tgt := 1858) hx hb dL_law_1839 (by decide) ⟨by have h9 := zRn_62 hok (t := n9) (by omega); omega, by omega⟩ (fun c_6 => ?_) (fun c_6 => ?_)
      · refine lv_iinc (v := nI (i + 1)) (lv' := [(8, .int (nI (i + 1))), (17, .int (nI (m9))), (16, .int (x9)), (0, .ref (b)), (1, .ref (ad 287)), (2, .ref (ra)), (3, .ref (ba)), (4, .ref (ga)), (5, .ref (ea)), (6, .ref (ca)), (7, .int (nI (zNl nw))), (11, .int (nI (n9))), (14, .int (nI (1)))]) hx hb dL_law_1858 hl (k := 10) rfl (z_inc1 _) (by decide) rfl (fun ls hl => ?_)
        refine lv_goto (tgt := 75) hx hb dL_law_1861 (by decide) ?_
        exact kk (nw, sv, an, hh, ct, ln, cd) rr bb gg ee cc _ _ ⟨hv, hCW, ⟨hr1, hr2, hr3, hr4, hr5⟩, hrel, hS⟩ ls (lv_sub hl [3, 4, 5, 6, 7, 8, 9, 10, 0] rfl)
      · have hz0 : zSz nw n9 ≠ 0 := zRn_1 (by omega)
        refine lv_aload_n hx hb dL_law_1842 rfl (lv_at hl 3 rfl) ?_
        refine lv_aload_n hx hb dL_law_1843 rfl (lv_at hl 5 rfl) ?_
        refine lv_iload hx hb dL_law_1844 (lv_at hl 11 rfl) ?_
        refine lv_aload_n hx hb dL_law_1846 rfl (lv_at hl 4 rfl) ?_
        refine lv_iload hx hb dL_law_1847 (lv_at hl 11 rfl) ?_
        refine z_lald (j := n9) hx hb hG hr1 ⟨by omega, by omega⟩ dL_law_1849 ?_
        refine z_topl (y := lN (zLn (zKd nw n9) (zSz nw n9))) (congrArg lN ((e1r _ hn9).trans (zRn_e hz0))) ?_
        refine z_wrSX (As := [.ref (ad 287), .ref (ba), .int (nI (n9)), .long (lN (zLn (zKd nw n9) (zSz nw n9)))]) (rest := []) S hG (c_L_best E (r9 := n9) hok hrel hinj hct hdis hn9 hz0) 4 gL_law_L_best rfl kL_best.2 ⟨Nat.le_of_ble_eq_true rfl, Nat.le_of_ble_eq_true rfl⟩ ⟨Nat.le_of_ble_eq_true rfl, Nat.le_of_ble_eq_true rfl⟩ (⟨hCW, hr1, hr2, hr3, hr4, hr5⟩) rfl hl.1 rfl rfl (Nat.le_of_ble_eq_true rfl) dL_law_1850 hS (fun q h => hA1 q h) (fun Hn locs h_8 q_7 o_9 hS => ?_)
        have hz : Hn.size = H.size := q_7.trans hz
        have hCW := h_8.1
        obtain ⟨hr1, hr2, hr3, hr4, hr5⟩ := h_8.2
        obtain ⟨f5, h5⟩ := zCW_recv hCW
        refine z_fne (tgt := 1858) hx hb dL_law_1853 (by decide) (by omega) (fun c_10 => ?_) (fun c_10 => by exfalso; omega)
        refine lv_iinc (v := nI (i + 1)) (lv' := [(8, .int (nI (i + 1))), (17, .int (nI (m9))), (16, .int (x9)), (0, .ref (b)), (1, .ref (ad 287)), (2, .ref (ra)), (3, .ref (ba)), (4, .ref (ga)), (5, .ref (ea)), (6, .ref (ca)), (7, .int (nI (zNl nw))), (11, .int (nI (n9))), (14, .int (nI (1)))]) hx hb dL_law_1858 hl (k := 10) rfl (z_inc1 _) (by decide) rfl (fun ls hl => ?_)
        refine lv_goto (tgt := 75) hx hb dL_law_1861 (by decide) ?_
        exact kk (nw, sv, an, hh, ct, ln, cd) rr bb gg ee cc _ _ ⟨hv, hCW, ⟨hr1, hr2, hr3, hr4, hr5⟩, hrel, hS⟩ ls (lv_sub hl [3, 4, 5, 6, 7, 8, 9, 10, 0] rfl)
  · have hz0 : zSz nw n9 ≠ 0 := zRn_1 (by omega)
    refine lv_aload_n hx hb dL_law_1787 rfl (lv_at hl 3 rfl) ?_
    refine lv_aload_n hx hb dL_law_1788 rfl (lv_at hl 5 rfl) ?_
    refine lv_aload hx hb dL_law_1789 (lv_at hl 6 rfl) ?_
    refine lv_iload hx hb dL_law_1791 (lv_at hl 11 rfl) ?_
    refine lv_aload_n hx hb dL_law_1793 rfl (lv_at hl 4 rfl) ?_
    refine lv_iload hx hb dL_law_1794 (lv_at hl 11 rfl) ?_
    refine z_lald (j := n9) hx hb hG hr1 ⟨by omega, by omega⟩ dL_law_1796 ?_
    refine z_topl (y := lN (zLn (zKd nw n9) (zSz nw n9))) (congrArg lN ((e1r _ hn9).trans (zRn_e hz0))) ?_
    refine lv_iload hx hb dL_law_1797 (lv_at hl 1 rfl) ?_
    refine z_wrSX (As := [.ref (ad 287), .ref (ba), .ref (ga), .int (nI (n9)), .long (lN (zLn (zKd nw n9) (zSz nw n9))), .int (x9)]) (rest := []) S hG (c_L_ring E (r9 := n9) (x := x9) hok hrel hinj hct hdis hn9 hz0) 6 gL_law_L_ring rfl kL_ring.2 ⟨Nat.le_of_ble_eq_true rfl, Nat.le_of_ble_eq_true rfl⟩ ⟨Nat.le_of_ble_eq_true rfl, Nat.le_of_ble_eq_true rfl⟩ (⟨hCW, hr1, hr2, hr3, hr4, hr5⟩) rfl hl.1 rfl rfl (Nat.le_of_ble_eq_true rfl) dL_law_1799 hS (fun q h => hA1 q h) (fun Hn locs h_12 q_11 o_13 hS => ?_)
    have hz : Hn.size = H.size := q_11.trans hz
    have hCW := h_12.1
    obtain ⟨hr1, hr2, hr3, hr4, hr5⟩ := h_12.2
    obtain ⟨f5, h5⟩ := zCW_recv hCW
    refine z_feq (tgt := 1856) hx hb dL_law_1802 (by decide) (by omega) (fun c_14 => by exfalso; omega) (fun c_14 => ?_)
    refine lv_aload_n hx hb dL_law_1805 rfl (lv_at hl 3 rfl) ?_
    refine lv_aload_n hx hb dL_law_1806 rfl (lv_at hl 4 rfl) ?_
    refine lv_iload hx hb dL_law_1807 (lv_at hl 11 rfl) ?_
    refine lv_iload hx hb dL_law_1809 (lv_at hl 0 rfl) ?_
    refine lv_iload hx hb dL_law_1811 (lv_at hl 1 rfl) ?_
    refine lv_iconst (v := nI (3)) hx hb dL_law_1813 (by decide) ?_
    refine z_roSX (As := [.int (x9), .int (nI (3))]) (rest := [.int (nI (m9)), .int (nI (n9)), .ref (ra), .ref (ad 287)]) S hG (c_L_low E (v := x9) (n := 3) ⟨by omega, by omega⟩) 2 gL_law_L_low rfl kL_low.2 ⟨Nat.le_of_ble_eq_true rfl, Nat.le_of_ble_eq_true rfl⟩ ⟨Nat.le_of_ble_eq_true rfl, Nat.le_of_ble_eq_true rfl⟩ (trivial) rfl hl.1 rfl rfl (Nat.le_of_ble_eq_true rfl) dL_law_1814 ?_
    refine z_roSX (As := [.ref (ad 287), .ref (ra), .int (nI (n9)), .int (nI (m9)), .int (nI (zlw (x9) 3))]) (rest := []) S hG (c_L_two E (a9 := n9) (b9 := m9) (lv := zlw x9 3) hok hrel hn9 (by omega) (by omega)) 5 gL_law_L_two rfl kL_two.2 ⟨Nat.le_of_ble_eq_true rfl, Nat.le_of_ble_eq_true rfl⟩ ⟨Nat.le_of_ble_eq_true rfl, Nat.le_of_ble_eq_true rfl⟩ (⟨hCW, hr1, hr2, hr3, hr4, hr5⟩) rfl hl.1 rfl rfl (Nat.le_of_ble_eq_true rfl) dL_law_1817 ?_
    refine z_feq (tgt := 1856) hx hb dL_law_1820 (by decide) (by omega) (fun c_15 => by exfalso; omega) (fun c_15 => ?_)
    refine lv_iload hx hb dL_law_1823 (lv_at hl 10 rfl) ?_
    refine lv_bipush (v := nI (7)) hx hb dL_law_1825 (by decide) ?_
    refine z_irem hx hb dL_law_1827 ⟨by omega, by omega, by omega⟩ ?_
    refine lv_bipush (v := nI (6)) hx hb dL_law_1828 (by decide) ?_
    refine z_cne (tgt := 1858) hx hb dL_law_1830 (by decide) ⟨by omega, by omega⟩ (fun c_16 => ?_) (fun c_16 => ?_)
    · refine lv_iinc (v := nI (i + 1)) (lv' := [(8, .int (nI (i + 1))), (17, .int (nI (m9))), (16, .int (x9)), (0, .ref (b)), (1, .ref (ad 287)), (2, .ref (ra)), (3, .ref (ba)), (4, .ref (ga)), (5, .ref (ea)), (6, .ref (ca)), (7, .int (nI (zNl nw))), (11, .int (nI (n9))), (14, .int (nI (1)))]) hx hb dL_law_1858 hl (k := 10) rfl (z_inc1 _) (by decide) rfl (fun ls hl => ?_)
      refine lv_goto (tgt := 75) hx hb dL_law_1861 (by decide) ?_
      exact kk (nw, sv, an, hh, ct, ln, cd) rr bb gg ee cc _ _ ⟨hv, hCW, ⟨hr1, hr2, hr3, hr4, hr5⟩, hrel, hS⟩ ls (lv_sub hl [3, 4, 5, 6, 7, 8, 9, 10, 0] rfl)
    · refine lv_aload_n hx hb dL_law_1833 rfl (lv_at hl 4 rfl) ?_
      refine lv_iload hx hb dL_law_1834 (lv_at hl 11 rfl) ?_
      refine z_lald (j := n9) hx hb hG hr1 ⟨by omega, by omega⟩ dL_law_1836 ?_
      refine z_topl (y := lN (zRn nw n9)) (congrArg lN (e1r _ hn9)) ?_
      refine lv_lconst (v := lN 0) hx hb dL_law_1837 rfl ?_
      refine W.lcmp hx hb dL_law_1838 ?_
      refine z_lle (tgt := 1858) hx hb dL_law_1839 (by decide) ⟨by have h9 := zRn_62 hok (t := n9) (by omega); omega, by omega⟩ (fun c_17 => ?_) (fun c_17 => ?_)
      · refine lv_iinc (v := nI (i + 1)) (lv' := [(8, .int (nI (i + 1))), (17, .int (nI (m9))), (16, .int (x9)), (0, .ref (b)), (1, .ref (ad 287)), (2, .ref (ra)), (3, .ref (ba)), (4, .ref (ga)), (5, .ref (ea)), (6, .ref (ca)), (7, .int (nI (zNl nw))), (11, .int (nI (n9))), (14, .int (nI (1)))]) hx hb dL_law_1858 hl (k := 10) rfl (z_inc1 _) (by decide) rfl (fun ls hl => ?_)
        refine lv_goto (tgt := 75) hx hb dL_law_1861 (by decide) ?_
        exact kk (nw, sv, an, hh, ct, ln, cd) rr bb gg ee cc _ _ ⟨hv, hCW, ⟨hr1, hr2, hr3, hr4, hr5⟩, hrel, hS⟩ ls (lv_sub hl [3, 4, 5, 6, 7, 8, 9, 10, 0] rfl)
      · have hz0 : zSz nw n9 ≠ 0 := zRn_1 (by omega)
        refine lv_aload_n hx hb dL_law_1842 rfl (lv_at hl 3 rfl) ?_
        refine lv_aload_n hx hb dL_law_1843 rfl (lv_at hl 5 rfl) ?_
        refine lv_iload hx hb dL_law_1844 (lv_at hl 11 rfl) ?_
        refine lv_aload_n hx hb dL_law_1846 rfl (lv_at hl 4 rfl) ?_
        refine lv_iload hx hb dL_law_1847 (lv_at hl 11 rfl) ?_
        refine z_lald (j := n9) hx hb hG hr1 ⟨by omega, by omega⟩ dL_law_1849 ?_
        refine z_topl (y := lN (zLn (zKd nw n9) (zSz nw n9))) (congrArg lN ((e1r _ hn9).trans (zRn_e hz0))) ?_
        refine z_wrSX (As := [.ref (ad 287), .ref (ba), .int (nI (n9)), .long (lN (zLn (zKd nw n9) (zSz nw n9)))]) (rest := []) S hG (c_L_best E (r9 := n9) hok hrel hinj hct hdis hn9 hz0) 4 gL_law_L_best rfl kL_best.2 ⟨Nat.le_of_ble_eq_true rfl, Nat.le_of_ble_eq_true rfl⟩ ⟨Nat.le_of_ble_eq_true rfl, Nat.le_of_ble_eq_true rfl⟩ (⟨hCW, hr1, hr2, hr3, hr4, hr5⟩) rfl hl.1 rfl rfl (Nat.le_of_ble_eq_true rfl) dL_law_1850 hS (fun q h => hA1 q h) (fun Hn locs h_19 q_18 o_20 hS => ?_)
        have hz : Hn.size = H.size := q_18.trans hz
        have hCW := h_19.1
        obtain ⟨hr1, hr2, hr3, hr4, hr5⟩ := h_19.2
        obtain ⟨f5, h5⟩ := zCW_recv hCW
        refine z_fne (tgt := 1858) hx hb dL_law_1853 (by decide) (by omega) (fun c_21 => ?_) (fun c_21 => by exfalso; omega)
        refine lv_iinc (v := nI (i + 1)) (lv' := [(8, .int (nI (i + 1))), (17, .int (nI (m9))), (16, .int (x9)), (0, .ref (b)), (1, .ref (ad 287)), (2, .ref (ra)), (3, .ref (ba)), (4, .ref (ga)), (5, .ref (ea)), (6, .ref (ca)), (7, .int (nI (zNl nw))), (11, .int (nI (n9))), (14, .int (nI (1)))]) hx hb dL_law_1858 hl (k := 10) rfl (z_inc1 _) (by decide) rfl (fun ls hl => ?_)
        refine lv_goto (tgt := 75) hx hb dL_law_1861 (by decide) ?_
        exact kk (nw, sv, an, hh, ct, ln, cd) rr bb gg ee cc _ _ ⟨hv, hCW, ⟨hr1, hr2, hr3, hr4, hr5⟩, hrel, hS⟩ ls (lv_sub hl [3, 4, 5, 6, 7, 8, 9, 10, 0] rfl)

set_option maxHeartbeats 4000000 in
set_option maxRecDepth 100000 in
theorem lw_disp {p : Program} {e : Env} {s : State} {m : MethodId} {b L : Nat} {xs : Nat → Int32} {below : List Frame} {meth : Method} {c : Code} {E : zEnv} {ad : Nat → Nat} {ra ba ga ea ca : Nat} {Q : State → Prop} {i : Nat} (F : zLF E p s m c b L xs) (D : zLA ad ra ba ga ea ca s) (hi : i < 50) (kk : zLJ p e s m b below meth c E ad ra ba ga ea ca Q i) {τ : zT} {rr : Nat → Nat} {bb gg : Nat → Int32} {ee : Nat → Nat} {cc : Nat → Int32} {H : Heap} {locs : List Loc} (hs : zLS E ad ra ba ga ea ca s τ rr bb gg ee cc H locs) {n9 kd : Nat} {h9 : Int32} (hn9 : n9 < 6) (hkd : kd < 22) {ls : Array Slot} (hl : lv_has ls 22 [(0, .ref (b)), (1, .ref (ad 287)), (2, .ref (ra)), (3, .ref (ba)), (4, .ref (ga)), (5, .ref (ea)), (6, .ref (ca)), (7, .int (nI (zNl τ.1))), (8, .int (nI (i))), (9, .int (h9)), (10, .int (nI (kd)))]) : zLW p e s m b below meth c E Q H locs 124 ls [.int (nI (n9))] := by
  obtain ⟨S, hG, hX, hbl, hL⟩ := id F
  obtain ⟨hinj, hA1, hdis, hge, hd1, hd2, hd3, hd4⟩ := id D
  obtain ⟨hx, hb, hml9, hown, hts⟩ := id S
  have hbA : ¬ (fun q : Nat => s.heap.size ≤ q) b := Nat.not_le.mpr hbl
  obtain ⟨hv, hCW0, hRW, hrel, hS⟩ := hs
  obtain ⟨nw, sv, an, hh, ct, ln, cd⟩ := τ
  have hCW : zCW E ad nw sv an hh ct ln cd H := hCW0
  have hrel : zRel nw rr bb gg ee cc := hrel
  have hok : zOk nw := hv.1
  have hct : ct ≤ 5 := hv.2.2.2.1
  obtain ⟨hr1, hr2, hr3, hr4, hr5⟩ := id hRW
  obtain ⟨f5, h5⟩ := zCW_recv hCW
  obtain ⟨e1r, e2r, e3r, e4r, e5r⟩ := id hrel
  have hml := hok.2.2.2.1
  have hnl := hok.2.2.2.2.1
  have hz : H.size = H.size := rfl
  have hl : lv_has ls 22 [(0, .ref (b)), (1, .ref (ad 287)), (2, .ref (ra)), (3, .ref (ba)), (4, .ref (ga)), (5, .ref (ea)), (6, .ref (ca)), (7, .int (nI (zNl nw))), (8, .int (nI (i))), (9, .int (h9)), (10, .int (nI (kd)))] := hl
  obtain ⟨k9, hk90⟩ : ∃ y : Nat, y = 1 + zlw (h9 >>> (nI (8) &&& 31)) 5 := ⟨_, rfl⟩
  have hk9 : 1 ≤ k9 ∧ k9 ≤ 5 := by have h8 := zlw_lt (h9 >>> (nI (8) &&& 31)) (n := 5) (by decide); omega
  refine lv_istore (lv' := [(11, .int (nI (n9))), (0, .ref (b)), (1, .ref (ad 287)), (2, .ref (ra)), (3, .ref (ba)), (4, .ref (ga)), (5, .ref (ea)), (6, .ref (ca)), (7, .int (nI (zNl nw))), (8, .int (nI (i))), (9, .int (h9)), (10, .int (nI (kd)))]) hx hb dL_law_124 hl (by decide) rfl (fun ls hl => ?_)
  refine lv_iconst (v := nI (1)) hx hb dL_law_126 (by decide) ?_
  refine lv_iload hx hb dL_law_127 (lv_at hl 10 rfl) ?_
  refine lv_bipush (v := nI (8)) hx hb dL_law_129 (by decide) ?_
  refine lv_ishr hx hb dL_law_131 ?_
  refine lv_iconst (v := nI (5)) hx hb dL_law_132 (by decide) ?_
  refine z_roSX (As := [.int ((h9) >>> (nI (8) &&& 31)), .int (nI (5))]) (rest := [.int (nI (1))]) S hG (c_L_low E (v := (h9) >>> (nI (8) &&& 31)) (n := 5) ⟨by omega, by omega⟩) 2 gL_law_L_low rfl kL_low.2 ⟨Nat.le_of_ble_eq_true rfl, Nat.le_of_ble_eq_true rfl⟩ ⟨Nat.le_of_ble_eq_true rfl, Nat.le_of_ble_eq_true rfl⟩ (trivial) rfl hl.1 rfl rfl (Nat.le_of_ble_eq_true rfl) dL_law_133 ?_
  refine z_iadd hx hb dL_law_136 ?_
  refine z_top (y := nI (k9)) (by rw [hk90]) ?_
  refine lv_istore (lv' := [(12, .int (nI (k9))), (11, .int (nI (n9))), (0, .ref (b)), (1, .ref (ad 287)), (2, .ref (ra)), (3, .ref (ba)), (4, .ref (ga)), (5, .ref (ea)), (6, .ref (ca)), (7, .int (nI (zNl nw))), (8, .int (nI (i))), (9, .int (h9)), (10, .int (nI (kd)))]) hx hb dL_law_137 hl (by decide) rfl (fun ls hl => ?_)
  refine lv_iconst (v := (-1)) hx hb dL_law_139 (by decide) ?_
  refine lv_istore (lv' := [(13, .int (-1)), (12, .int (nI (k9))), (11, .int (nI (n9))), (0, .ref (b)), (1, .ref (ad 287)), (2, .ref (ra)), (3, .ref (ba)), (4, .ref (ga)), (5, .ref (ea)), (6, .ref (ca)), (7, .int (nI (zNl nw))), (8, .int (nI (i))), (9, .int (h9)), (10, .int (nI (kd)))]) hx hb dL_law_140 hl (by decide) rfl (fun ls hl => ?_)
  refine lv_iconst (v := nI (1)) hx hb dL_law_142 (by decide) ?_
  refine lv_istore (lv' := [(14, .int (nI (1))), (13, .int (-1)), (12, .int (nI (k9))), (11, .int (nI (n9))), (0, .ref (b)), (1, .ref (ad 287)), (2, .ref (ra)), (3, .ref (ba)), (4, .ref (ga)), (5, .ref (ea)), (6, .ref (ca)), (7, .int (nI (zNl nw))), (8, .int (nI (i))), (9, .int (h9)), (10, .int (nI (kd)))]) hx hb dL_law_143 hl (by decide) rfl (fun ls hl => ?_)
  refine lv_iconst (v := (-1)) hx hb dL_law_145 (by decide) ?_
  refine lv_istore (lv' := [(15, .int (-1)), (14, .int (nI (1))), (13, .int (-1)), (12, .int (nI (k9))), (11, .int (nI (n9))), (0, .ref (b)), (1, .ref (ad 287)), (2, .ref (ra)), (3, .ref (ba)), (4, .ref (ga)), (5, .ref (ea)), (6, .ref (ca)), (7, .int (nI (zNl nw))), (8, .int (nI (i))), (9, .int (h9)), (10, .int (nI (kd)))]) hx hb dL_law_146 hl (by decide) rfl (fun ls hl => ?_)
  refine lv_iconst (v := nI (5)) hx hb dL_law_148 (by decide) ?_
  refine lv_istore (lv' := [(16, .int (nI (5))), (15, .int (-1)), (14, .int (nI (1))), (13, .int (-1)), (12, .int (nI (k9))), (11, .int (nI (n9))), (0, .ref (b)), (1, .ref (ad 287)), (2, .ref (ra)), (3, .ref (ba)), (4, .ref (ga)), (5, .ref (ea)), (6, .ref (ca)), (7, .int (nI (zNl nw))), (8, .int (nI (i))), (9, .int (h9)), (10, .int (nI (kd)))]) hx hb dL_law_149 hl (by decide) rfl (fun ls hl => ?_)
  have L151 : ∀ (dd : Nat) (j : Nat), 6 - j < dd → (j ≤ 6) → ∀ (ls : Array Slot), lv_has ls 22 [(0, .ref (b)), (1, .ref (ad 287)), (2, .ref (ra)), (3, .ref (ba)), (4, .ref (ga)), (5, .ref (ea)), (6, .ref (ca)), (7, .int (nI (zNl nw))), (8, .int (nI (i))), (9, .int (h9)), (10, .int (nI (kd))), (11, .int (nI (n9))), (12, .int (nI (k9))), (13, .int (-1)), (14, .int (nI (1))), (15, .int (zfm (zfd (zSz nw) j))), (16, .int (zdn j))] → zLW p e s m b below meth c E Q H locs 151 ls [] := by
    intro dd
    induction dd with
    | zero => intro j hdd; exact absurd hdd (Nat.not_lt_zero _)
    | succ dd ih151 =>
      intro j hdd151 hj6 ls hl
      rcases (show j = 6 ∨ j < 6 by omega) with q9 | q9
      · rw [q9] at hl
        refine lv_iload hx hb dL_law_151 (lv_at hl 16 rfl) ?_
        refine lv_if_lt (tgt := 180) hx hb dL_law_153 (by decide) (fun c_1 => ?_) (fun c_1 => by exfalso; exact c_1 (by decide))
        refine lv_iload hx hb dL_law_180 (lv_at hl 10 rfl) ?_
        refine lv_iconst (v := nI (2)) hx hb dL_law_182 (by decide) ?_
        refine z_clt (tgt := 191) hx hb dL_law_183 (by decide) ⟨by omega, by omega⟩ (fun c_2 => ?_) (fun c_2 => ?_)
        · exact lw_make F D kk (τ := (nw, sv, an, hh, ct, ln, cd)) ⟨hv, hCW, ⟨hr1, hr2, hr3, hr4, hr5⟩, hrel, hS⟩ hn9 hk9  (lv_sub hl [0, 1, 2, 3, 4, 5, 6, 7, 8, 9, 10, 11, 12, 13, 14, 15] rfl)
        · refine lv_iload hx hb dL_law_186 (lv_at hl 8 rfl) ?_
          refine z_fne (tgt := 254) hx hb dL_law_188 (by decide) (by omega) (fun c_3 => ?_) (fun c_3 => ?_)
          · refine lv_iload hx hb dL_law_254 (lv_at hl 10 rfl) ?_
            refine lv_iconst (v := nI (2)) hx hb dL_law_256 (by decide) ?_
            refine z_cne (tgt := 324) hx hb dL_law_257 (by decide) ⟨by omega, by omega⟩ (fun c_4 => ?_) (fun c_4 => ?_)
            · refine lv_iload hx hb dL_law_324 (lv_at hl 10 rfl) ?_
              refine lv_iconst (v := nI (3)) hx hb dL_law_326 (by decide) ?_
              refine z_cne (tgt := 379) hx hb dL_law_327 (by decide) ⟨by omega, by omega⟩ (fun c_5 => ?_) (fun c_5 => ?_)
              · refine lv_iload hx hb dL_law_379 (lv_at hl 10 rfl) ?_
                refine lv_iconst (v := nI (4)) hx hb dL_law_381 (by decide) ?_
                refine z_cne (tgt := 529) hx hb dL_law_382 (by decide) ⟨by omega, by omega⟩ (fun c_6 => ?_) (fun c_6 => ?_)
                · refine lv_iload hx hb dL_law_529 (lv_at hl 10 rfl) ?_
                  refine lv_iconst (v := nI (5)) hx hb dL_law_531 (by decide) ?_
                  refine z_cne (tgt := 608) hx hb dL_law_532 (by decide) ⟨by omega, by omega⟩ (fun c_7 => ?_) (fun c_7 => ?_)
                  · refine lv_aload_n hx hb dL_law_608 rfl (lv_at hl 2 rfl) ?_
                    refine lv_iload hx hb dL_law_609 (lv_at hl 11 rfl) ?_
                    refine z_lald (j := n9) hx hb hG hr1 ⟨by omega, by omega⟩ dL_law_611 ?_
                    refine z_topl (y := lN (zRn nw n9)) (congrArg lN (e1r _ hn9)) ?_
                    refine lv_lconst (v := lN 0) hx hb dL_law_612 rfl ?_
                    refine W.lcmp hx hb dL_law_613 ?_
                    refine z_lne (tgt := 685) hx hb dL_law_614 (by decide) ⟨by have h9 := zRn_62 hok (t := n9) (by omega); omega, by omega⟩ (fun c_8 => ?_) (fun c_8 => ?_)
                    · have hr0 : ¬ zRn nw n9 = 0 := c_8
                      refine lv_iload hx hb dL_law_685 (lv_at hl 10 rfl) ?_
                      refine lv_bipush (v := nI (6)) hx hb dL_law_687 (by decide) ?_
                      refine z_cne (tgt := 794) hx hb dL_law_689 (by decide) ⟨by omega, by omega⟩ (fun c_9 => ?_) (fun c_9 => ?_)
                      · refine lv_iload hx hb dL_law_794 (lv_at hl 10 rfl) ?_
                        refine lv_bipush (v := nI (7)) hx hb dL_law_796 (by decide) ?_
                        refine z_cne (tgt := 923) hx hb dL_law_798 (by decide) ⟨by omega, by omega⟩ (fun c_10 => ?_) (fun c_10 => ?_)
                        · refine lv_iload hx hb dL_law_923 (lv_at hl 10 rfl) ?_
                          refine lv_bipush (v := nI (14)) hx hb dL_law_925 (by decide) ?_
                          refine z_cge (tgt := 1062) hx hb dL_law_927 (by decide) ⟨by omega, by omega⟩ (fun c_11 => ?_) (fun c_11 => ?_)
                          · refine lv_iload hx hb dL_law_1062 (lv_at hl 10 rfl) ?_
                            refine lv_bipush (v := nI (14)) hx hb dL_law_1064 (by decide) ?_
                            refine z_cne (tgt := 1182) hx hb dL_law_1066 (by decide) ⟨by omega, by omega⟩ (fun c_12 => ?_) (fun c_12 => ?_)
                            · refine lv_iload hx hb dL_law_1182 (lv_at hl 10 rfl) ?_
                              refine lv_bipush (v := nI (15)) hx hb dL_law_1184 (by decide) ?_
                              refine z_cne (tgt := 1290) hx hb dL_law_1186 (by decide) ⟨by omega, by omega⟩ (fun c_13 => ?_) (fun c_13 => ?_)
                              · refine lv_iload hx hb dL_law_1290 (lv_at hl 10 rfl) ?_
                                refine lv_bipush (v := nI (19)) hx hb dL_law_1292 (by decide) ?_
                                refine z_cge (tgt := 1456) hx hb dL_law_1294 (by decide) ⟨by omega, by omega⟩ (fun c_14 => ?_) (fun c_14 => ?_)
                                · refine lv_iload hx hb dL_law_1456 (lv_at hl 10 rfl) ?_
                                  refine lv_bipush (v := nI (19)) hx hb dL_law_1458 (by decide) ?_
                                  refine z_cne (tgt := 1613) hx hb dL_law_1460 (by decide) ⟨by omega, by omega⟩ (fun c_15 => ?_) (fun c_15 => ?_)
                                  · exact lw_note F D kk (τ := (nw, sv, an, hh, ct, ln, cd)) ⟨hv, hCW, ⟨hr1, hr2, hr3, hr4, hr5⟩, hrel, hS⟩ hn9 hk9 hr0 (lv_sub hl [0, 1, 2, 3, 4, 5, 6, 7, 8, 9, 10, 11, 12, 13, 14, 15] rfl)
                                  · exact lw_setMotif F D kk (τ := (nw, sv, an, hh, ct, ln, cd)) ⟨hv, hCW, ⟨hr1, hr2, hr3, hr4, hr5⟩, hrel, hS⟩ hn9 hk9 hr0 (lv_sub hl [0, 1, 2, 3, 4, 5, 6, 7, 8, 9, 10, 11, 12, 13, 14, 15] rfl)
                                · exact lw_change F D kk (τ := (nw, sv, an, hh, ct, ln, cd)) ⟨hv, hCW, ⟨hr1, hr2, hr3, hr4, hr5⟩, hrel, hS⟩ hn9 hk9 hr0 (by omega) (lv_sub hl [0, 1, 2, 3, 4, 5, 6, 7, 8, 9, 10, 11, 12, 13, 14, 15] rfl)
                              · exact lw_swap F D kk (τ := (nw, sv, an, hh, ct, ln, cd)) ⟨hv, hCW, ⟨hr1, hr2, hr3, hr4, hr5⟩, hrel, hS⟩ hn9 hk9 hr0 (lv_sub hl [0, 1, 2, 3, 4, 5, 6, 7, 8, 9, 10, 11, 12, 13, 14, 15] rfl)
                            · exact lw_takeOff F D kk (τ := (nw, sv, an, hh, ct, ln, cd)) ⟨hv, hCW, ⟨hr1, hr2, hr3, hr4, hr5⟩, hrel, hS⟩ hn9 hk9 hr0 (lv_sub hl [0, 1, 2, 3, 4, 5, 6, 7, 8, 9, 10, 11, 12, 13, 14, 15] rfl)
                          · exact lw_hang F D kk (τ := (nw, sv, an, hh, ct, ln, cd)) ⟨hv, hCW, ⟨hr1, hr2, hr3, hr4, hr5⟩, hrel, hS⟩ hn9 hk9 hr0 (lv_sub hl [0, 1, 2, 3, 4, 5, 6, 7, 8, 9, 10, 11, 12, 13, 14, 15] rfl)
                        · refine lv_iload hx hb dL_law_801 (lv_at hl 9 rfl) ?_
                          refine lv_bipush (v := nI (11)) hx hb dL_law_803 (by decide) ?_
                          refine lv_ishr hx hb dL_law_805 ?_
                          refine lv_iconst (v := nI (3)) hx hb dL_law_806 (by decide) ?_
                          refine z_roSX (As := [.int ((h9) >>> (nI (11) &&& 31)), .int (nI (3))]) (rest := []) S hG (c_L_low E (v := (h9) >>> (nI (11) &&& 31)) (n := 3) ⟨by omega, by omega⟩) 2 gL_law_L_low rfl kL_low.2 ⟨Nat.le_of_ble_eq_true rfl, Nat.le_of_ble_eq_true rfl⟩ ⟨Nat.le_of_ble_eq_true rfl, Nat.le_of_ble_eq_true rfl⟩ (trivial) rfl hl.1 rfl rfl (Nat.le_of_ble_eq_true rfl) dL_law_807 ?_
                          refine z_fne (tgt := 923) hx hb dL_law_810 (by decide) (by have h8 := zlw_lt (h9 >>> (nI (11) &&& 31)) (n := 3) (by decide); omega) (fun c_16 => ?_) (fun c_16 => ?_)
                          · refine lv_iload hx hb dL_law_923 (lv_at hl 10 rfl) ?_
                            refine lv_bipush (v := nI (14)) hx hb dL_law_925 (by decide) ?_
                            refine z_cge (tgt := 1062) hx hb dL_law_927 (by decide) ⟨by omega, by omega⟩ (fun c_17 => ?_) (fun c_17 => ?_)
                            · refine lv_iload hx hb dL_law_1062 (lv_at hl 10 rfl) ?_
                              refine lv_bipush (v := nI (14)) hx hb dL_law_1064 (by decide) ?_
                              refine z_cne (tgt := 1182) hx hb dL_law_1066 (by decide) ⟨by omega, by omega⟩ (fun c_18 => ?_) (fun c_18 => ?_)
                              · refine lv_iload hx hb dL_law_1182 (lv_at hl 10 rfl) ?_
                                refine lv_bipush (v := nI (15)) hx hb dL_law_1184 (by decide) ?_
                                refine z_cne (tgt := 1290) hx hb dL_law_1186 (by decide) ⟨by omega, by omega⟩ (fun c_19 => ?_) (fun c_19 => ?_)
                                · refine lv_iload hx hb dL_law_1290 (lv_at hl 10 rfl) ?_
                                  refine lv_bipush (v := nI (19)) hx hb dL_law_1292 (by decide) ?_
                                  refine z_cge (tgt := 1456) hx hb dL_law_1294 (by decide) ⟨by omega, by omega⟩ (fun c_20 => ?_) (fun c_20 => ?_)
                                  · refine lv_iload hx hb dL_law_1456 (lv_at hl 10 rfl) ?_
                                    refine lv_bipush (v := nI (19)) hx hb dL_law_1458 (by decide) ?_
                                    refine z_cne (tgt := 1613) hx hb dL_law_1460 (by decide) ⟨by omega, by omega⟩ (fun c_21 => ?_) (fun c_21 => ?_)
                                    · exact lw_note F D kk (τ := (nw, sv, an, hh, ct, ln, cd)) ⟨hv, hCW, ⟨hr1, hr2, hr3, hr4, hr5⟩, hrel, hS⟩ hn9 hk9 hr0 (lv_sub hl [0, 1, 2, 3, 4, 5, 6, 7, 8, 9, 10, 11, 12, 13, 14, 15] rfl)
                                    · exact lw_setMotif F D kk (τ := (nw, sv, an, hh, ct, ln, cd)) ⟨hv, hCW, ⟨hr1, hr2, hr3, hr4, hr5⟩, hrel, hS⟩ hn9 hk9 hr0 (lv_sub hl [0, 1, 2, 3, 4, 5, 6, 7, 8, 9, 10, 11, 12, 13, 14, 15] rfl)
                                  · exact lw_change F D kk (τ := (nw, sv, an, hh, ct, ln, cd)) ⟨hv, hCW, ⟨hr1, hr2, hr3, hr4, hr5⟩, hrel, hS⟩ hn9 hk9 hr0 (by omega) (lv_sub hl [0, 1, 2, 3, 4, 5, 6, 7, 8, 9, 10, 11, 12, 13, 14, 15] rfl)
                                · exact lw_swap F D kk (τ := (nw, sv, an, hh, ct, ln, cd)) ⟨hv, hCW, ⟨hr1, hr2, hr3, hr4, hr5⟩, hrel, hS⟩ hn9 hk9 hr0 (lv_sub hl [0, 1, 2, 3, 4, 5, 6, 7, 8, 9, 10, 11, 12, 13, 14, 15] rfl)
                              · exact lw_takeOff F D kk (τ := (nw, sv, an, hh, ct, ln, cd)) ⟨hv, hCW, ⟨hr1, hr2, hr3, hr4, hr5⟩, hrel, hS⟩ hn9 hk9 hr0 (lv_sub hl [0, 1, 2, 3, 4, 5, 6, 7, 8, 9, 10, 11, 12, 13, 14, 15] rfl)
                            · exact lw_hang F D kk (τ := (nw, sv, an, hh, ct, ln, cd)) ⟨hv, hCW, ⟨hr1, hr2, hr3, hr4, hr5⟩, hrel, hS⟩ hn9 hk9 hr0 (lv_sub hl [0, 1, 2, 3, 4, 5, 6, 7, 8, 9, 10, 11, 12, 13, 14, 15] rfl)
                          · exact lw_remove F D kk (τ := (nw, sv, an, hh, ct, ln, cd)) ⟨hv, hCW, ⟨hr1, hr2, hr3, hr4, hr5⟩, hrel, hS⟩ hn9 hk9 hr0 (lv_sub hl [0, 1, 2, 3, 4, 5, 6, 7, 8, 9, 10, 11, 12, 13, 14, 15] rfl)
                      · exact lw_copy F D kk (τ := (nw, sv, an, hh, ct, ln, cd)) ⟨hv, hCW, ⟨hr1, hr2, hr3, hr4, hr5⟩, hrel, hS⟩ hn9 hk9 hr0 (lv_sub hl [0, 1, 2, 3, 4, 5, 6, 7, 8, 9, 10, 11, 12, 13, 14, 15] rfl)
                    · have hr0 : zRn nw n9 = 0 := c_8
                      exact lw_empty F D kk (τ := (nw, sv, an, hh, ct, ln, cd)) ⟨hv, hCW, ⟨hr1, hr2, hr3, hr4, hr5⟩, hrel, hS⟩ hn9 hk9 hr0 (lv_sub hl [0, 1, 2, 3, 4, 5, 6, 7, 8, 9, 10, 11, 12, 13, 14, 15] rfl)
                  · refine lv_iload hx hb dL_law_535 (lv_at hl 9 rfl) ?_
                    refine lv_bipush (v := nI (11)) hx hb dL_law_537 (by decide) ?_
                    refine lv_ishr hx hb dL_law_539 ?_
                    refine lv_iconst (v := nI (3)) hx hb dL_law_540 (by decide) ?_
                    refine z_roSX (As := [.int ((h9) >>> (nI (11) &&& 31)), .int (nI (3))]) (rest := []) S hG (c_L_low E (v := (h9) >>> (nI (11) &&& 31)) (n := 3) ⟨by omega, by omega⟩) 2 gL_law_L_low rfl kL_low.2 ⟨Nat.le_of_ble_eq_true rfl, Nat.le_of_ble_eq_true rfl⟩ ⟨Nat.le_of_ble_eq_true rfl, Nat.le_of_ble_eq_true rfl⟩ (trivial) rfl hl.1 rfl rfl (Nat.le_of_ble_eq_true rfl) dL_law_541 ?_
                    refine z_fne (tgt := 608) hx hb dL_law_544 (by decide) (by have h8 := zlw_lt (h9 >>> (nI (11) &&& 31)) (n := 3) (by decide); omega) (fun c_22 => ?_) (fun c_22 => ?_)
                    · refine lv_aload_n hx hb dL_law_608 rfl (lv_at hl 2 rfl) ?_
                      refine lv_iload hx hb dL_law_609 (lv_at hl 11 rfl) ?_
                      refine z_lald (j := n9) hx hb hG hr1 ⟨by omega, by omega⟩ dL_law_611 ?_
                      refine z_topl (y := lN (zRn nw n9)) (congrArg lN (e1r _ hn9)) ?_
                      refine lv_lconst (v := lN 0) hx hb dL_law_612 rfl ?_
                      refine W.lcmp hx hb dL_law_613 ?_
                      refine z_lne (tgt := 685) hx hb dL_law_614 (by decide) ⟨by have h9 := zRn_62 hok (t := n9) (by omega); omega, by omega⟩ (fun c_23 => ?_) (fun c_23 => ?_)
                      · have hr0 : ¬ zRn nw n9 = 0 := c_23
                        refine lv_iload hx hb dL_law_685 (lv_at hl 10 rfl) ?_
                        refine lv_bipush (v := nI (6)) hx hb dL_law_687 (by decide) ?_
                        refine z_cne (tgt := 794) hx hb dL_law_689 (by decide) ⟨by omega, by omega⟩ (fun c_24 => ?_) (fun c_24 => ?_)
                        · refine lv_iload hx hb dL_law_794 (lv_at hl 10 rfl) ?_
                          refine lv_bipush (v := nI (7)) hx hb dL_law_796 (by decide) ?_
                          refine z_cne (tgt := 923) hx hb dL_law_798 (by decide) ⟨by omega, by omega⟩ (fun c_25 => ?_) (fun c_25 => ?_)
                          · refine lv_iload hx hb dL_law_923 (lv_at hl 10 rfl) ?_
                            refine lv_bipush (v := nI (14)) hx hb dL_law_925 (by decide) ?_
                            refine z_cge (tgt := 1062) hx hb dL_law_927 (by decide) ⟨by omega, by omega⟩ (fun c_26 => ?_) (fun c_26 => ?_)
                            · refine lv_iload hx hb dL_law_1062 (lv_at hl 10 rfl) ?_
                              refine lv_bipush (v := nI (14)) hx hb dL_law_1064 (by decide) ?_
                              refine z_cne (tgt := 1182) hx hb dL_law_1066 (by decide) ⟨by omega, by omega⟩ (fun c_27 => ?_) (fun c_27 => ?_)
                              · refine lv_iload hx hb dL_law_1182 (lv_at hl 10 rfl) ?_
                                refine lv_bipush (v := nI (15)) hx hb dL_law_1184 (by decide) ?_
                                refine z_cne (tgt := 1290) hx hb dL_law_1186 (by decide) ⟨by omega, by omega⟩ (fun c_28 => ?_) (fun c_28 => ?_)
                                · refine lv_iload hx hb dL_law_1290 (lv_at hl 10 rfl) ?_
                                  refine lv_bipush (v := nI (19)) hx hb dL_law_1292 (by decide) ?_
                                  refine z_cge (tgt := 1456) hx hb dL_law_1294 (by decide) ⟨by omega, by omega⟩ (fun c_29 => ?_) (fun c_29 => ?_)
                                  · refine lv_iload hx hb dL_law_1456 (lv_at hl 10 rfl) ?_
                                    refine lv_bipush (v := nI (19)) hx hb dL_law_1458 (by decide) ?_
                                    refine z_cne (tgt := 1613) hx hb dL_law_1460 (by decide) ⟨by omega, by omega⟩ (fun c_30 => ?_) (fun c_30 => ?_)
                                    · exact lw_note F D kk (τ := (nw, sv, an, hh, ct, ln, cd)) ⟨hv, hCW, ⟨hr1, hr2, hr3, hr4, hr5⟩, hrel, hS⟩ hn9 hk9 hr0 (lv_sub hl [0, 1, 2, 3, 4, 5, 6, 7, 8, 9, 10, 11, 12, 13, 14, 15] rfl)
                                    · exact lw_setMotif F D kk (τ := (nw, sv, an, hh, ct, ln, cd)) ⟨hv, hCW, ⟨hr1, hr2, hr3, hr4, hr5⟩, hrel, hS⟩ hn9 hk9 hr0 (lv_sub hl [0, 1, 2, 3, 4, 5, 6, 7, 8, 9, 10, 11, 12, 13, 14, 15] rfl)
                                  · exact lw_change F D kk (τ := (nw, sv, an, hh, ct, ln, cd)) ⟨hv, hCW, ⟨hr1, hr2, hr3, hr4, hr5⟩, hrel, hS⟩ hn9 hk9 hr0 (by omega) (lv_sub hl [0, 1, 2, 3, 4, 5, 6, 7, 8, 9, 10, 11, 12, 13, 14, 15] rfl)
                                · exact lw_swap F D kk (τ := (nw, sv, an, hh, ct, ln, cd)) ⟨hv, hCW, ⟨hr1, hr2, hr3, hr4, hr5⟩, hrel, hS⟩ hn9 hk9 hr0 (lv_sub hl [0, 1, 2, 3, 4, 5, 6, 7, 8, 9, 10, 11, 12, 13, 14, 15] rfl)
                              · exact lw_takeOff F D kk (τ := (nw, sv, an, hh, ct, ln, cd)) ⟨hv, hCW, ⟨hr1, hr2, hr3, hr4, hr5⟩, hrel, hS⟩ hn9 hk9 hr0 (lv_sub hl [0, 1, 2, 3, 4, 5, 6, 7, 8, 9, 10, 11, 12, 13, 14, 15] rfl)
                            · exact lw_hang F D kk (τ := (nw, sv, an, hh, ct, ln, cd)) ⟨hv, hCW, ⟨hr1, hr2, hr3, hr4, hr5⟩, hrel, hS⟩ hn9 hk9 hr0 (lv_sub hl [0, 1, 2, 3, 4, 5, 6, 7, 8, 9, 10, 11, 12, 13, 14, 15] rfl)
                          · refine lv_iload hx hb dL_law_801 (lv_at hl 9 rfl) ?_
                            refine lv_bipush (v := nI (11)) hx hb dL_law_803 (by decide) ?_
                            refine lv_ishr hx hb dL_law_805 ?_
                            refine lv_iconst (v := nI (3)) hx hb dL_law_806 (by decide) ?_
                            refine z_roSX (As := [.int ((h9) >>> (nI (11) &&& 31)), .int (nI (3))]) (rest := []) S hG (c_L_low E (v := (h9) >>> (nI (11) &&& 31)) (n := 3) ⟨by omega, by omega⟩) 2 gL_law_L_low rfl kL_low.2 ⟨Nat.le_of_ble_eq_true rfl, Nat.le_of_ble_eq_true rfl⟩ ⟨Nat.le_of_ble_eq_true rfl, Nat.le_of_ble_eq_true rfl⟩ (trivial) rfl hl.1 rfl rfl (Nat.le_of_ble_eq_true rfl) dL_law_807 ?_
                            refine z_fne (tgt := 923) hx hb dL_law_810 (by decide) (by have h8 := zlw_lt (h9 >>> (nI (11) &&& 31)) (n := 3) (by decide); omega) (fun c_31 => ?_) (fun c_31 => ?_)
                            · refine lv_iload hx hb dL_law_923 (lv_at hl 10 rfl) ?_
                              refine lv_bipush (v := nI (14)) hx hb dL_law_925 (by decide) ?_
                              refine z_cge (tgt := 1062) hx hb dL_law_927 (by decide) ⟨by omega, by omega⟩ (fun c_32 => ?_) (fun c_32 => ?_)
                              · refine lv_iload hx hb dL_law_1062 (lv_at hl 10 rfl) ?_
                                refine lv_bipush (v := nI (14)) hx hb dL_law_1064 (by decide) ?_
                                refine z_cne (tgt := 1182) hx hb dL_law_1066 (by decide) ⟨by omega, by omega⟩ (fun c_33 => ?_) (fun c_33 => ?_)
                                · refine lv_iload hx hb dL_law_1182 (lv_at hl 10 rfl) ?_
                                  refine lv_bipush (v := nI (15)) hx hb dL_law_1184 (by decide) ?_
                                  refine z_cne (tgt := 1290) hx hb dL_law_1186 (by decide) ⟨by omega, by omega⟩ (fun c_34 => ?_) (fun c_34 => ?_)
                                  · refine lv_iload hx hb dL_law_1290 (lv_at hl 10 rfl) ?_
                                    refine lv_bipush (v := nI (19)) hx hb dL_law_1292 (by decide) ?_
                                    refine z_cge (tgt := 1456) hx hb dL_law_1294 (by decide) ⟨by omega, by omega⟩ (fun c_35 => ?_) (fun c_35 => ?_)
                                    · refine lv_iload hx hb dL_law_1456 (lv_at hl 10 rfl) ?_
                                      refine lv_bipush (v := nI (19)) hx hb dL_law_1458 (by decide) ?_
                                      refine z_cne (tgt := 1613) hx hb dL_law_1460 (by decide) ⟨by omega, by omega⟩ (fun c_36 => ?_) (fun c_36 => ?_)
                                      · exact lw_note F D kk (τ := (nw, sv, an, hh, ct, ln, cd)) ⟨hv, hCW, ⟨hr1, hr2, hr3, hr4, hr5⟩, hrel, hS⟩ hn9 hk9 hr0 (lv_sub hl [0, 1, 2, 3, 4, 5, 6, 7, 8, 9, 10, 11, 12, 13, 14, 15] rfl)
                                      · exact lw_setMotif F D kk (τ := (nw, sv, an, hh, ct, ln, cd)) ⟨hv, hCW, ⟨hr1, hr2, hr3, hr4, hr5⟩, hrel, hS⟩ hn9 hk9 hr0 (lv_sub hl [0, 1, 2, 3, 4, 5, 6, 7, 8, 9, 10, 11, 12, 13, 14, 15] rfl)
                                    · exact lw_change F D kk (τ := (nw, sv, an, hh, ct, ln, cd)) ⟨hv, hCW, ⟨hr1, hr2, hr3, hr4, hr5⟩, hrel, hS⟩ hn9 hk9 hr0 (by omega) (lv_sub hl [0, 1, 2, 3, 4, 5, 6, 7, 8, 9, 10, 11, 12, 13, 14, 15] rfl)
                                  · exact lw_swap F D kk (τ := (nw, sv, an, hh, ct, ln, cd)) ⟨hv, hCW, ⟨hr1, hr2, hr3, hr4, hr5⟩, hrel, hS⟩ hn9 hk9 hr0 (lv_sub hl [0, 1, 2, 3, 4, 5, 6, 7, 8, 9, 10, 11, 12, 13, 14, 15] rfl)
                                · exact lw_takeOff F D kk (τ := (nw, sv, an, hh, ct, ln, cd)) ⟨hv, hCW, ⟨hr1, hr2, hr3, hr4, hr5⟩, hrel, hS⟩ hn9 hk9 hr0 (lv_sub hl [0, 1, 2, 3, 4, 5, 6, 7, 8, 9, 10, 11, 12, 13, 14, 15] rfl)
                              · exact lw_hang F D kk (τ := (nw, sv, an, hh, ct, ln, cd)) ⟨hv, hCW, ⟨hr1, hr2, hr3, hr4, hr5⟩, hrel, hS⟩ hn9 hk9 hr0 (lv_sub hl [0, 1, 2, 3, 4, 5, 6, 7, 8, 9, 10, 11, 12, 13, 14, 15] rfl)
                            · exact lw_remove F D kk (τ := (nw, sv, an, hh, ct, ln, cd)) ⟨hv, hCW, ⟨hr1, hr2, hr3, hr4, hr5⟩, hrel, hS⟩ hn9 hk9 hr0 (lv_sub hl [0, 1, 2, 3, 4, 5, 6, 7, 8, 9, 10, 11, 12, 13, 14, 15] rfl)
                        · exact lw_copy F D kk (τ := (nw, sv, an, hh, ct, ln, cd)) ⟨hv, hCW, ⟨hr1, hr2, hr3, hr4, hr5⟩, hrel, hS⟩ hn9 hk9 hr0 (lv_sub hl [0, 1, 2, 3, 4, 5, 6, 7, 8, 9, 10, 11, 12, 13, 14, 15] rfl)
                      · have hr0 : zRn nw n9 = 0 := c_23
                        exact lw_empty F D kk (τ := (nw, sv, an, hh, ct, ln, cd)) ⟨hv, hCW, ⟨hr1, hr2, hr3, hr4, hr5⟩, hrel, hS⟩ hn9 hk9 hr0 (lv_sub hl [0, 1, 2, 3, 4, 5, 6, 7, 8, 9, 10, 11, 12, 13, 14, 15] rfl)
                    · exact lw_cutMotif F D kk (τ := (nw, sv, an, hh, ct, ln, cd)) ⟨hv, hCW, ⟨hr1, hr2, hr3, hr4, hr5⟩, hrel, hS⟩ hn9 hk9  (lv_sub hl [0, 1, 2, 3, 4, 5, 6, 7, 8, 9, 10, 11, 12, 13, 14, 15] rfl)
                · exact lw_sign F D kk (τ := (nw, sv, an, hh, ct, ln, cd)) ⟨hv, hCW, ⟨hr1, hr2, hr3, hr4, hr5⟩, hrel, hS⟩ hn9 hk9  (lv_sub hl [0, 1, 2, 3, 4, 5, 6, 7, 8, 9, 10, 11, 12, 13, 14, 15] rfl)
              · exact lw_weigh F D kk (τ := (nw, sv, an, hh, ct, ln, cd)) ⟨hv, hCW, ⟨hr1, hr2, hr3, hr4, hr5⟩, hrel, hS⟩ hn9 hk9  (lv_sub hl [0, 1, 2, 3, 4, 5, 6, 7, 8, 9, 10, 11, 12, 13, 14, 15] rfl)
            · exact lw_fill F D kk (τ := (nw, sv, an, hh, ct, ln, cd)) ⟨hv, hCW, ⟨hr1, hr2, hr3, hr4, hr5⟩, hrel, hS⟩ hn9 hk9  (lv_sub hl [0, 1, 2, 3, 4, 5, 6, 7, 8, 9, 10, 11, 12, 13, 14, 15] rfl)
          · exact lw_make F D kk (τ := (nw, sv, an, hh, ct, ln, cd)) ⟨hv, hCW, ⟨hr1, hr2, hr3, hr4, hr5⟩, hrel, hS⟩ hn9 hk9  (lv_sub hl [0, 1, 2, 3, 4, 5, 6, 7, 8, 9, 10, 11, 12, 13, 14, 15] rfl)
      · rw [zdn_n q9] at hl
        refine lv_iload hx hb dL_law_151 (lv_at hl 16 rfl) ?_
        refine z_flt (tgt := 180) hx hb dL_law_153 (by decide) (by omega) ?_
        refine lv_aload_n hx hb dL_law_156 rfl (lv_at hl 2 rfl) ?_
        refine lv_iload hx hb dL_law_157 (lv_at hl 16 rfl) ?_
        refine z_lald (j := 5 - j) hx hb hG hr1 ⟨by omega, by omega⟩ dL_law_159 ?_
        refine z_topl (y := lN (zRn nw (5 - j))) (congrArg lN (e1r _ (by omega))) ?_
        refine lv_lconst (v := lN 0) hx hb dL_law_160 rfl ?_
        refine W.lcmp hx hb dL_law_161 ?_
        refine z_lne (tgt := 170) hx hb dL_law_162 (by decide) ⟨by have h9 := zRn_62 hok (t := 5 - j) (by omega); omega, by omega⟩ (fun c_38 => ?_) (fun c_38 => ?_)
        · refine lv_iload hx hb dL_law_170 (lv_at hl 15 rfl) ?_
          refine lv_istore (lv' := [(15, .int (zfm (zfd (zSz nw) j))), (0, .ref (b)), (1, .ref (ad 287)), (2, .ref (ra)), (3, .ref (ba)), (4, .ref (ga)), (5, .ref (ea)), (6, .ref (ca)), (7, .int (nI (zNl nw))), (8, .int (nI (i))), (9, .int (h9)), (10, .int (nI (kd))), (11, .int (nI (n9))), (12, .int (nI (k9))), (13, .int (-1)), (14, .int (nI (1))), (16, .int (nI (5 - j)))]) hx hb dL_law_172 hl (by decide) rfl (fun ls hl => ?_)
          refine lv_iinc (v := (zdn (j + 1))) (lv' := [(16, .int (zdn (j + 1))), (15, .int (zfm (zfd (zSz nw) j))), (0, .ref (b)), (1, .ref (ad 287)), (2, .ref (ra)), (3, .ref (ba)), (4, .ref (ga)), (5, .ref (ea)), (6, .ref (ca)), (7, .int (nI (zNl nw))), (8, .int (nI (i))), (9, .int (h9)), (10, .int (nI (kd))), (11, .int (nI (n9))), (12, .int (nI (k9))), (13, .int (-1)), (14, .int (nI (1)))]) hx hb dL_law_174 hl (k := 16) rfl (zdn_s q9) (by decide) rfl (fun ls hl => ?_)
          refine lv_goto (tgt := 151) hx hb dL_law_177 (by decide) ?_
          have hl9 := lv_sub hl [2, 3, 4, 5, 6, 7, 8, 9, 10, 11, 12, 13, 14, 15, 16, 1, 0] (l' := [(0, .ref (b)), (1, .ref (ad 287)), (2, .ref (ra)), (3, .ref (ba)), (4, .ref (ga)), (5, .ref (ea)), (6, .ref (ca)), (7, .int (nI (zNl nw))), (8, .int (nI (i))), (9, .int (h9)), (10, .int (nI (kd))), (11, .int (nI (n9))), (12, .int (nI (k9))), (13, .int (-1)), (14, .int (nI (1))), (15, .int (zfm (zfd (zSz nw) j))), (16, .int (zdn (j + 1)))]) rfl
          have e9_15 : (zfm (zfd (zSz nw) j)) = (zfm (zfd (zSz nw) (j + 1))) := by first | exact zfd_y q9 (zRn_0 c_38) | exact zfd_n (zRn_1 c_38)
          exact ih151 (j + 1) (by omega) (by omega) ls (by rw [← e9_15]; exact hl9)
        · refine lv_iload hx hb dL_law_165 (lv_at hl 16 rfl) ?_
          refine lv_goto (tgt := 172) hx hb dL_law_167 (by decide) ?_
          refine lv_istore (lv' := [(15, .int (nI (5 - j))), (0, .ref (b)), (1, .ref (ad 287)), (2, .ref (ra)), (3, .ref (ba)), (4, .ref (ga)), (5, .ref (ea)), (6, .ref (ca)), (7, .int (nI (zNl nw))), (8, .int (nI (i))), (9, .int (h9)), (10, .int (nI (kd))), (11, .int (nI (n9))), (12, .int (nI (k9))), (13, .int (-1)), (14, .int (nI (1))), (16, .int (nI (5 - j)))]) hx hb dL_law_172 hl (by decide) rfl (fun ls hl => ?_)
          refine lv_iinc (v := (zdn (j + 1))) (lv' := [(16, .int (zdn (j + 1))), (15, .int (nI (5 - j))), (0, .ref (b)), (1, .ref (ad 287)), (2, .ref (ra)), (3, .ref (ba)), (4, .ref (ga)), (5, .ref (ea)), (6, .ref (ca)), (7, .int (nI (zNl nw))), (8, .int (nI (i))), (9, .int (h9)), (10, .int (nI (kd))), (11, .int (nI (n9))), (12, .int (nI (k9))), (13, .int (-1)), (14, .int (nI (1)))]) hx hb dL_law_174 hl (k := 16) rfl (zdn_s q9) (by decide) rfl (fun ls hl => ?_)
          refine lv_goto (tgt := 151) hx hb dL_law_177 (by decide) ?_
          have hl9 := lv_sub hl [2, 3, 4, 5, 6, 7, 8, 9, 10, 11, 12, 13, 14, 15, 16, 1, 0] (l' := [(0, .ref (b)), (1, .ref (ad 287)), (2, .ref (ra)), (3, .ref (ba)), (4, .ref (ga)), (5, .ref (ea)), (6, .ref (ca)), (7, .int (nI (zNl nw))), (8, .int (nI (i))), (9, .int (h9)), (10, .int (nI (kd))), (11, .int (nI (n9))), (12, .int (nI (k9))), (13, .int (-1)), (14, .int (nI (1))), (15, .int (nI (5 - j))), (16, .int (zdn (j + 1)))]) rfl
          have e9_15 : (nI (5 - j)) = ((zfm (zfd (zSz nw) (j + 1)))) := by first | exact zfd_y q9 (zRn_0 c_38) | exact zfd_n (zRn_1 c_38)
          exact ih151 (j + 1) (by omega) (by omega) ls (by rw [← e9_15]; exact hl9)
  exact L151 ((6 - (0)) + 1) (0) (Nat.lt_succ_self _) (by omega) ls (lv_sub hl [6, 7, 8, 9, 10, 11, 12, 13, 14, 15, 16, 5, 4, 3, 2, 1, 0] rfl)

set_option maxHeartbeats 4000000 in
set_option maxRecDepth 100000 in
theorem lw_head {p : Program} {e : Env} {s : State} {m : MethodId} {b L : Nat} {xs : Nat → Int32} {below : List Frame} {meth : Method} {c : Code} {E : zEnv} {ad : Nat → Nat} {ra ba ga ea ca : Nat} {Q : State → Prop} {i : Nat} (F : zLF E p s m c b L xs) (D : zLA ad ra ba ga ea ca s) (hi : i < 50) (kk : zLJ p e s m b below meth c E ad ra ba ga ea ca Q i) {τ : zT} {rr : Nat → Nat} {bb gg : Nat → Int32} {ee : Nat → Nat} {cc : Nat → Int32} {H : Heap} {locs : List Loc} (hs : zLS E ad ra ba ga ea ca s τ rr bb gg ee cc H locs)   {ls : Array Slot} (hl : lv_has ls 22 [(0, .ref (b)), (1, .ref (ad 287)), (2, .ref (ra)), (3, .ref (ba)), (4, .ref (ga)), (5, .ref (ea)), (6, .ref (ca)), (7, .int (nI (zNl τ.1))), (8, .int (nI (i)))]) : zLW p e s m b below meth c E Q H locs 82 ls [] := by
  obtain ⟨S, hG, hX, hbl, hL⟩ := id F
  obtain ⟨hinj, hA1, hdis, hge, hd1, hd2, hd3, hd4⟩ := id D
  obtain ⟨hx, hb, hml9, hown, hts⟩ := id S
  have hbA : ¬ (fun q : Nat => s.heap.size ≤ q) b := Nat.not_le.mpr hbl
  obtain ⟨hv, hCW0, hRW, hrel, hS⟩ := hs
  obtain ⟨nw, sv, an, hh, ct, ln, cd⟩ := τ
  have hCW : zCW E ad nw sv an hh ct ln cd H := hCW0
  have hrel : zRel nw rr bb gg ee cc := hrel
  have hok : zOk nw := hv.1
  have hct : ct ≤ 5 := hv.2.2.2.1
  obtain ⟨hr1, hr2, hr3, hr4, hr5⟩ := id hRW
  obtain ⟨f5, h5⟩ := zCW_recv hCW
  obtain ⟨e1r, e2r, e3r, e4r, e5r⟩ := id hrel
  have hml := hok.2.2.2.1
  have hnl := hok.2.2.2.2.1
  have hz : H.size = H.size := rfl
  have hl : lv_has ls 22 [(0, .ref (b)), (1, .ref (ad 287)), (2, .ref (ra)), (3, .ref (ba)), (4, .ref (ga)), (5, .ref (ea)), (6, .ref (ca)), (7, .int (nI (zNl nw))), (8, .int (nI (i)))] := hl
  obtain ⟨h9, hh9⟩ : ∃ y : Int32, y = zcel xs L i := ⟨_, rfl⟩
  obtain ⟨kd, hkd0⟩ : ∃ y : Nat, y = zlw h9 22 := ⟨_, rfl⟩
  have hkd : kd < 22 := by rw [hkd0]; exact zlw_lt _ (by decide)
  refine lv_aload_n hx hb dL_law_82 rfl (lv_at hl 0 rfl) ?_
  refine lv_iload hx hb dL_law_83 (lv_at hl 8 rfl) ?_
  refine z_cell (k := i) (rest := []) S hG hL (by omega) hX hbl hbA hS gL_law_L_cell ⟨Nat.le_of_ble_eq_true rfl, Nat.le_of_ble_eq_true rfl⟩ ⟨Nat.le_of_ble_eq_true rfl, Nat.le_of_ble_eq_true rfl⟩ hl.1 (Nat.le_of_ble_eq_true rfl) dL_law_85 ?_
  refine z_top (y := (h9)) (hh9.symm) ?_
  refine lv_istore (lv' := [(9, .int (h9)), (0, .ref (b)), (1, .ref (ad 287)), (2, .ref (ra)), (3, .ref (ba)), (4, .ref (ga)), (5, .ref (ea)), (6, .ref (ca)), (7, .int (nI (zNl nw))), (8, .int (nI (i)))]) hx hb dL_law_88 hl (by decide) rfl (fun ls hl => ?_)
  refine lv_iload hx hb dL_law_90 (lv_at hl 0 rfl) ?_
  refine lv_bipush (v := nI (22)) hx hb dL_law_92 (by decide) ?_
  refine z_roSX (As := [.int (h9), .int (nI (22))]) (rest := []) S hG (c_L_low E (v := h9) (n := 22) ⟨by omega, by omega⟩) 2 gL_law_L_low rfl kL_low.2 ⟨Nat.le_of_ble_eq_true rfl, Nat.le_of_ble_eq_true rfl⟩ ⟨Nat.le_of_ble_eq_true rfl, Nat.le_of_ble_eq_true rfl⟩ (trivial) rfl hl.1 rfl rfl (Nat.le_of_ble_eq_true rfl) dL_law_94 ?_
  refine z_top (y := nI (kd)) (by rw [hkd0]) ?_
  refine lv_istore (lv' := [(10, .int (nI (kd))), (9, .int (h9)), (0, .ref (b)), (1, .ref (ad 287)), (2, .ref (ra)), (3, .ref (ba)), (4, .ref (ga)), (5, .ref (ea)), (6, .ref (ca)), (7, .int (nI (zNl nw))), (8, .int (nI (i)))]) hx hb dL_law_97 hl (by decide) rfl (fun ls hl => ?_)
  refine lv_iload hx hb dL_law_99 (lv_at hl 1 rfl) ?_
  refine lv_iconst (v := nI (5)) hx hb dL_law_101 (by decide) ?_
  refine lv_ishr hx hb dL_law_102 ?_
  refine lv_iload hx hb dL_law_103 (lv_at hl 1 rfl) ?_
  refine lv_bipush (v := nI (27)) hx hb dL_law_105 (by decide) ?_
  refine lv_ishr hx hb dL_law_107 ?_
  refine lv_iconst (v := nI (3)) hx hb dL_law_108 (by decide) ?_
  refine z_roSX (As := [.int ((h9) >>> (nI (27) &&& 31)), .int (nI (3))]) (rest := [.int ((h9) >>> (nI (5) &&& 31))]) S hG (c_L_low E (v := (h9) >>> (nI (27) &&& 31)) (n := 3) ⟨by omega, by omega⟩) 2 gL_law_L_low rfl kL_low.2 ⟨Nat.le_of_ble_eq_true rfl, Nat.le_of_ble_eq_true rfl⟩ ⟨Nat.le_of_ble_eq_true rfl, Nat.le_of_ble_eq_true rfl⟩ (trivial) rfl hl.1 rfl rfl (Nat.le_of_ble_eq_true rfl) dL_law_109 ?_
  refine z_fne (tgt := 120) hx hb dL_law_112 (by decide) (by have h8 := zlw_lt (h9 >>> (nI (27) &&& 31)) (n := 3) (by decide); omega) (fun c_1 => ?_) (fun c_1 => ?_)
  · refine lv_iconst (v := nI (3)) hx hb dL_law_120 (by decide) ?_
    refine z_roSX (As := [.int ((h9) >>> (nI (5) &&& 31)), .int (nI (3))]) (rest := []) S hG (c_L_low E (v := (h9) >>> (nI (5) &&& 31)) (n := 3) ⟨by omega, by omega⟩) 2 gL_law_L_low rfl kL_low.2 ⟨Nat.le_of_ble_eq_true rfl, Nat.le_of_ble_eq_true rfl⟩ ⟨Nat.le_of_ble_eq_true rfl, Nat.le_of_ble_eq_true rfl⟩ (trivial) rfl hl.1 rfl rfl (Nat.le_of_ble_eq_true rfl) dL_law_121 ?_
    exact lw_disp F D hi kk (τ := (nw, sv, an, hh, ct, ln, cd)) ⟨hv, hCW, ⟨hr1, hr2, hr3, hr4, hr5⟩, hrel, hS⟩ (n9 := zlw ((h9) >>> (nI (5) &&& 31)) 3) (by have h8 := zlw_lt (h9 >>> (nI (5) &&& 31)) (n := 3) (by decide); omega) hkd (lv_sub hl [2, 3, 4, 5, 6, 7, 8, 9, 10, 1, 0] rfl)
  · refine lv_bipush (v := nI (6)) hx hb dL_law_115 (by decide) ?_
    refine lv_goto (tgt := 121) hx hb dL_law_117 (by decide) ?_
    refine z_roSX (As := [.int ((h9) >>> (nI (5) &&& 31)), .int (nI (6))]) (rest := []) S hG (c_L_low E (v := (h9) >>> (nI (5) &&& 31)) (n := 6) ⟨by omega, by omega⟩) 2 gL_law_L_low rfl kL_low.2 ⟨Nat.le_of_ble_eq_true rfl, Nat.le_of_ble_eq_true rfl⟩ ⟨Nat.le_of_ble_eq_true rfl, Nat.le_of_ble_eq_true rfl⟩ (trivial) rfl hl.1 rfl rfl (Nat.le_of_ble_eq_true rfl) dL_law_121 ?_
    exact lw_disp F D hi kk (τ := (nw, sv, an, hh, ct, ln, cd)) ⟨hv, hCW, ⟨hr1, hr2, hr3, hr4, hr5⟩, hrel, hS⟩ (n9 := zlw ((h9) >>> (nI (5) &&& 31)) 6) (by have h8 := zlw_lt (h9 >>> (nI (5) &&& 31)) (n := 6) (by decide); omega) hkd (lv_sub hl [2, 3, 4, 5, 6, 7, 8, 9, 10, 1, 0] rfl)

set_option maxHeartbeats 4000000 in
set_option maxRecDepth 100000 in
theorem lw_loop {p : Program} {e : Env} {s : State} {m : MethodId} {b L : Nat} {xs : Nat → Int32} {below : List Frame} {meth : Method} {c : Code} {E : zEnv} {ad : Nat → Nat} {ra ba ga ea ca : Nat} {Q : State → Prop}  (F : zLF E p s m c b L xs) (D : zLA ad ra ba ga ea ca s) (kx : ∀ i : Nat, zLG p e s m b below meth c E ad ra ba ga ea ca Q i 1864) : ∀ n i : Nat, i ≤ 50 → 50 < i + n → zLG p e s m b below meth c E ad ra ba ga ea ca Q i 75 := by
  intro n
  induction n with
  | zero => intro i h1 h2; exact absurd h2 (by omega)
  | succ n ih =>
    intro i h1 h2 τ rr bb gg ee cc H locs hs ls hl
    obtain ⟨S, hG, hX, hbl, hL⟩ := id F
    obtain ⟨hx, hb, hml, hown, hts⟩ := id S
    refine lv_iload hx hb dL_law_75 (lv_at hl 8 rfl) ?_
    refine lv_bipush (v := nI 50) hx hb dL_law_77 (by decide) ?_
    refine z_cge (tgt := 1864) hx hb dL_law_79 (by decide) ⟨by omega, by omega⟩ (fun c_1 => ?_) (fun c_1 => ?_)
    · exact kx i τ rr bb gg ee cc H locs hs ls hl
    · exact lw_head F D c_1 (fun τ1 rr1 bb1 gg1 ee1 cc1 H1 locs1 hs1 n9 hn9 ls hl => lw_join F D c_1 (ih (i + 1) (by omega) (by omega)) hs1 hn9 hl) hs hl
