set_option maxHeartbeats 4000000 in
set_option maxRecDepth 100000 in
theorem lw_swap {p : Program} {e : Env} {s : State} {m : MethodId} {b L : Nat} {xs : Nat → Int32} {below : List Frame} {meth : Method} {c : Code} {E : zEnv} {ad : Nat → Nat} {ra ba ga ea ca : Nat} {Q : State → Prop} {i : Nat} (F : zLF E p s m c b L xs) (D : zLA ad ra ba ga ea ca s) (kk : zLJ p e s m b below meth c E ad ra ba ga ea ca Q i) {τ : zT} {rr : Nat → Nat} {bb gg : Nat → Int32} {ee : Nat → Nat} {cc : Nat → Int32} {H : Heap} {locs : List Loc} (hs : zLS E ad ra ba ga ea ca s τ rr bb gg ee cc H locs) {n9 k9 kd : Nat} {h9 : Int32} (hn9 : n9 < 6) (hk9 : 1 ≤ k9 ∧ k9 ≤ 5) (hr0 : ¬ zRn τ.1 n9 = 0) {ls : Array Slot} (hl : lv_has ls 22 [(0, .ref (b)), (1, .ref (ad 287)), (2, .ref (ra)), (3, .ref (ba)), (4, .ref (ga)), (5, .ref (ea)), (6, .ref (ca)), (7, .int (nI (zNl τ.1))), (8, .int (nI (i))), (9, .int (h9)), (10, .int (nI (kd))), (11, .int (nI (n9))), (12, .int (nI (k9))), (13, .int (-1)), (14, .int (nI (1))), (15, .int (zfm (zfd (zSz τ.1) 6)))]) : zLW p e s m b below meth c E Q H locs 1189 ls [] := by
  obtain ⟨S, hG, hX, hbl, hL⟩ := id F
  obtain ⟨hinj, hA1, hdis, hge, hd1, hd2, hd3, hd4⟩ := id D
  obtain ⟨hx, hb, hml9, hown, hts⟩ := id S
  have hbA : ¬ (fun q : Nat => s.heap.size ≤ q) b := Nat.not_le.mpr hbl
  obtain ⟨hv, hCW0, hRW, hrel, hS⟩ := hs
  obtain ⟨nw, sv, an, hh, ct, ln, cd⟩ := τ
  have hCW : zCW E ad nw sv an hh ct ln cd H := hCW0
  have hrel : zRel nw rr bb gg ee cc := hrel
  have hok : zOk nw := hv.1
  have hct : ct ≤ 5 := hv.2.2.2.1
  obtain ⟨hr1, hr2, hr3, hr4, hr5⟩ := id hRW
  obtain ⟨f5, h5⟩ := zCW_recv hCW
  obtain ⟨e1r, e2r, e3r, e4r, e5r⟩ := id hrel
  have hml := hok.2.2.2.1
  have hnl := hok.2.2.2.2.1
  have hz : H.size = H.size := rfl
  have hl : lv_has ls 22 [(0, .ref (b)), (1, .ref (ad 287)), (2, .ref (ra)), (3, .ref (ba)), (4, .ref (ga)), (5, .ref (ea)), (6, .ref (ca)), (7, .int (nI (zNl nw))), (8, .int (nI (i))), (9, .int (h9)), (10, .int (nI (kd))), (11, .int (nI (n9))), (12, .int (nI (k9))), (13, .int (-1)), (14, .int (nI (1))), (15, .int (zfm (zfd (zSz nw) 6)))] := hl
  have hz0 : zSz nw n9 ≠ 0 := zRn_1 hr0
  have hs4 := hok.s4 hn9 hz0
  have hk4 := hok.k4 hn9
  have hb4 := hs4.b
  have hq4 := hs4.q
  obtain ⟨w1, hw10⟩ : ∃ y : Nat, y = zlw (h9 >>> (nI (11) &&& 31)) (zSz nw n9) := ⟨_, rfl⟩
  have hw1 : w1 < (zSz nw n9) := by rw [hw10]; exact zlw_lt _ hb4.1
  obtain ⟨w2, hw20⟩ : ∃ y : Nat, y = zlw (h9 >>> (nI (15) &&& 31)) (zSz nw n9) := ⟨_, rfl⟩
  have hw2 : w2 < (zSz nw n9) := by rw [hw20]; exact zlw_lt _ hb4.1
  have hwt : ∀ k, 1 ≤ k → k ≤ 5 → (fun k9 => bb (4 + k9)) k = zWt nw k := fun k h1 h2 => (e2r k h1 h2).2
  have hxk : ∀ s9, s9 < (zSz nw n9) → zk (zxc (zKd nw n9) w1 w2 s9) := fun s9 h8 => zxc_k hk4 hw1 hw2 h8
  refine lv_iload hx hb dL_law_1189 (lv_at hl 9 rfl) ?_
  refine lv_bipush (v := nI (11)) hx hb dL_law_1191 (by decide) ?_
  refine lv_ishr hx hb dL_law_1193 ?_
  refine lv_aload_n hx hb dL_law_1194 rfl (lv_at hl 2 rfl) ?_
  refine lv_iload hx hb dL_law_1195 (lv_at hl 11 rfl) ?_
  refine z_lald (j := n9) hx hb hG hr1 ⟨by omega, by omega⟩ dL_law_1197 ?_
  refine z_topl (y := lN (zLn (zKd nw n9) (zSz nw n9))) (congrArg lN ((e1r _ hn9).trans (zRn_e hz0))) ?_
  refine z_roSX (As := [.long (lN (zLn (zKd nw n9) (zSz nw n9)))]) (rest := [.int ((h9) >>> (nI (11) &&& 31))]) S hG (c_L_slots E hs4 hk4) 1 gL_law_L_slots rfl kL_slots.2 ⟨Nat.le_of_ble_eq_true rfl, Nat.le_of_ble_eq_true rfl⟩ ⟨Nat.le_of_ble_eq_true rfl, Nat.le_of_ble_eq_true rfl⟩ (trivial) rfl hl.1 rfl rfl (Nat.le_of_ble_eq_true rfl) dL_law_1198 ?_
  refine z_roSX (As := [.int ((h9) >>> (nI (11) &&& 31)), .int (nI (zSz nw n9))]) (rest := []) S hG (c_L_low E (v := h9 >>> (nI (11) &&& 31)) (n := (zSz nw n9)) ⟨by omega, by omega⟩) 2 gL_law_L_low rfl kL_low.2 ⟨Nat.le_of_ble_eq_true rfl, Nat.le_of_ble_eq_true rfl⟩ ⟨Nat.le_of_ble_eq_true rfl, Nat.le_of_ble_eq_true rfl⟩ (trivial) rfl hl.1 rfl rfl (Nat.le_of_ble_eq_true rfl) dL_law_1201 ?_
  refine z_top (y := nI (w1)) (by rw [hw10]) ?_
  refine lv_istore (lv' := [(16, .int (nI (w1))), (0, .ref (b)), (1, .ref (ad 287)), (2, .ref (ra)), (3, .ref (ba)), (4, .ref (ga)), (5, .ref (ea)), (6, .ref (ca)), (7, .int (nI (zNl nw))), (8, .int (nI (i))), (9, .int (h9)), (10, .int (nI (kd))), (11, .int (nI (n9))), (12, .int (nI (k9))), (13, .int (-1)), (14, .int (nI (1))), (15, .int (zfm (zfd (zSz nw) 6)))]) hx hb dL_law_1204 hl (by decide) rfl (fun ls hl => ?_)
  refine lv_iload hx hb dL_law_1206 (lv_at hl 10 rfl) ?_
  refine lv_bipush (v := nI (15)) hx hb dL_law_1208 (by decide) ?_
  refine lv_ishr hx hb dL_law_1210 ?_
  refine lv_aload_n hx hb dL_law_1211 rfl (lv_at hl 3 rfl) ?_
  refine lv_iload hx hb dL_law_1212 (lv_at hl 12 rfl) ?_
  refine z_lald (j := n9) hx hb hG hr1 ⟨by omega, by omega⟩ dL_law_1214 ?_
  refine z_topl (y := lN (zLn (zKd nw n9) (zSz nw n9))) (congrArg lN ((e1r _ hn9).trans (zRn_e hz0))) ?_
  refine z_roSX (As := [.long (lN (zLn (zKd nw n9) (zSz nw n9)))]) (rest := [.int ((h9) >>> (nI (15) &&& 31))]) S hG (c_L_slots E hs4 hk4) 1 gL_law_L_slots rfl kL_slots.2 ⟨Nat.le_of_ble_eq_true rfl, Nat.le_of_ble_eq_true rfl⟩ ⟨Nat.le_of_ble_eq_true rfl, Nat.le_of_ble_eq_true rfl⟩ (trivial) rfl hl.1 rfl rfl (Nat.le_of_ble_eq_true rfl) dL_law_1215 ?_
  refine z_roSX (As := [.int ((h9) >>> (nI (15) &&& 31)), .int (nI (zSz nw n9))]) (rest := []) S hG (c_L_low E (v := h9 >>> (nI (15) &&& 31)) (n := (zSz nw n9)) ⟨by omega, by omega⟩) 2 gL_law_L_low rfl kL_low.2 ⟨Nat.le_of_ble_eq_true rfl, Nat.le_of_ble_eq_true rfl⟩ ⟨Nat.le_of_ble_eq_true rfl, Nat.le_of_ble_eq_true rfl⟩ (trivial) rfl hl.1 rfl rfl (Nat.le_of_ble_eq_true rfl) dL_law_1218 ?_
  refine z_top (y := nI (w2)) (by rw [hw20]) ?_
  refine lv_istore (lv' := [(17, .int (nI (w2))), (16, .int (nI (w1))), (0, .ref (b)), (1, .ref (ad 287)), (2, .ref (ra)), (3, .ref (ba)), (4, .ref (ga)), (5, .ref (ea)), (6, .ref (ca)), (7, .int (nI (zNl nw))), (8, .int (nI (i))), (9, .int (h9)), (10, .int (nI (kd))), (11, .int (nI (n9))), (12, .int (nI (k9))), (13, .int (-1)), (14, .int (nI (1))), (15, .int (zfm (zfd (zSz nw) 6)))]) hx hb dL_law_1221 hl (by decide) rfl (fun ls hl => ?_)
  refine lv_aload_n hx hb dL_law_1223 rfl (lv_at hl 4 rfl) ?_
  refine lv_iload hx hb dL_law_1224 (lv_at hl 13 rfl) ?_
  refine lv_aload_n hx hb dL_law_1226 rfl (lv_at hl 4 rfl) ?_
  refine lv_iload hx hb dL_law_1227 (lv_at hl 13 rfl) ?_
  refine z_lald (j := n9) hx hb hG hr1 ⟨by omega, by omega⟩ dL_law_1229 ?_
  refine z_topl (y := lN (zLn (zKd nw n9) (zSz nw n9))) (congrArg lN ((e1r _ hn9).trans (zRn_e hz0))) ?_
  refine lv_iload hx hb dL_law_1230 (lv_at hl 1 rfl) ?_
  refine lv_aload_n hx hb dL_law_1232 rfl (lv_at hl 4 rfl) ?_
  refine lv_iload hx hb dL_law_1233 (lv_at hl 13 rfl) ?_
  refine z_lald (j := n9) hx hb hG hr1 ⟨by omega, by omega⟩ dL_law_1235 ?_
  refine z_topl (y := lN (zLn (zKd nw n9) (zSz nw n9))) (congrArg lN ((e1r _ hn9).trans (zRn_e hz0))) ?_
  refine lv_iload hx hb dL_law_1236 (lv_at hl 0 rfl) ?_
  refine z_roSX (As := [.long (lN (zLn (zKd nw n9) (zSz nw n9))), .int (nI (w2))]) (rest := [.int (nI (w1)), .long (lN (zLn (zKd nw n9) (zSz nw n9))), .int (nI (n9)), .ref (ra)]) S hG (c_L_kind E (j := w2) hs4 hk4 (by omega)) 2 gL_law_L_kind rfl kL_kind.2 ⟨Nat.le_of_ble_eq_true rfl, Nat.le_of_ble_eq_true rfl⟩ ⟨Nat.le_of_ble_eq_true rfl, Nat.le_of_ble_eq_true rfl⟩ (trivial) rfl hl.1 rfl rfl (Nat.le_of_ble_eq_true rfl) dL_law_1238 ?_
  refine z_roSX (As := [.long (lN (zLn (zKd nw n9) (zSz nw n9))), .int (nI (w1)), .int ((zKd nw n9) w2)]) (rest := [.int (nI (n9)), .ref (ra)]) S hG (c_L_lay E (j := w1) (x := (zKd nw n9) w2) hs4 hk4 hw1 (hk4 _ hw2)) 3 gL_law_L_lay rfl kL_lay.2 ⟨Nat.le_of_ble_eq_true rfl, Nat.le_of_ble_eq_true rfl⟩ ⟨Nat.le_of_ble_eq_true rfl, Nat.le_of_ble_eq_true rfl⟩ (trivial) rfl hl.1 rfl rfl (Nat.le_of_ble_eq_true rfl) dL_law_1241 ?_
  refine lv_iload hx hb dL_law_1244 (lv_at hl 0 rfl) ?_
  refine lv_aload_n hx hb dL_law_1246 rfl (lv_at hl 4 rfl) ?_
  refine lv_iload hx hb dL_law_1247 (lv_at hl 13 rfl) ?_
  refine z_lald (j := n9) hx hb hG hr1 ⟨by omega, by omega⟩ dL_law_1249 ?_
  refine z_topl (y := lN (zLn (zKd nw n9) (zSz nw n9))) (congrArg lN ((e1r _ hn9).trans (zRn_e hz0))) ?_
  refine lv_iload hx hb dL_law_1250 (lv_at hl 1 rfl) ?_
  refine z_roSX (As := [.long (lN (zLn (zKd nw n9) (zSz nw n9))), .int (nI (w1))]) (rest := [.int (nI (w2)), .long (lN (zLn (upd (zKd nw n9) w1 ((zKd nw n9) w2)) (zSz nw n9))), .int (nI (n9)), .ref (ra)]) S hG (c_L_kind E (j := w1) hs4 hk4 (by omega)) 2 gL_law_L_kind rfl kL_kind.2 ⟨Nat.le_of_ble_eq_true rfl, Nat.le_of_ble_eq_true rfl⟩ ⟨Nat.le_of_ble_eq_true rfl, Nat.le_of_ble_eq_true rfl⟩ (trivial) rfl hl.1 rfl rfl (Nat.le_of_ble_eq_true rfl) dL_law_1252 ?_
  refine z_roSX (As := [.long (lN (zLn (upd (zKd nw n9) w1 ((zKd nw n9) w2)) (zSz nw n9))), .int (nI (w2)), .int ((zKd nw n9) w1)]) (rest := [.int (nI (n9)), .ref (ra)]) S hG (c_L_lay E (f := upd (zKd nw n9) w1 ((zKd nw n9) w2)) (j := w2) (x := (zKd nw n9) w1) hs4 (zup_kk hk4 (hk4 _ hw2)) hw2 (hk4 _ hw1)) 3 gL_law_L_lay rfl kL_lay.2 ⟨Nat.le_of_ble_eq_true rfl, Nat.le_of_ble_eq_true rfl⟩ ⟨Nat.le_of_ble_eq_true rfl, Nat.le_of_ble_eq_true rfl⟩ (trivial) rfl hl.1 rfl rfl (Nat.le_of_ble_eq_true rfl) dL_law_1255 ?_
  refine z_topl (y := lN (zLn (zxc (zKd nw n9) w1 w2) (zSz nw n9))) (rfl) ?_
  refine z_last (j := n9) hx hb hG hr1 ⟨by omega, by omega⟩ hS (hge _ (Or.inl rfl)) dL_law_1258 (fun Hn locs h_1 o_2 hS => ?_)
  have hCW := zCW_kept hCW (fun q hq => o_2.2 q (fun e9 => hdis q (by rw [e9]; exact Or.inl rfl) hq))
  have hr1 := h_1
  have hr2 := va_at.kept hr2 (o_2.2 _ (by omega))
  have hr3 := va_at.kept hr3 (o_2.2 _ (by omega))
  have hr4 := va_at.kept hr4 (o_2.2 _ (by omega))
  have hr5 := va_at.kept hr5 (o_2.2 _ (by omega))
  obtain ⟨f5, h5⟩ := zCW_recv hCW
  have hz : Hn.size = H.size := o_2.1.trans hz
  refine lv_aload_n hx hb dL_law_1259 rfl (lv_at hl 3 rfl) ?_
  refine lv_iload hx hb dL_law_1260 (lv_at hl 13 rfl) ?_
  refine lv_iload hx hb dL_law_1262 (lv_at hl 1 rfl) ?_
  refine lv_iload hx hb dL_law_1264 (lv_at hl 0 rfl) ?_
  refine z_wrV (As := [.int (nI (n9)), .int (nI (w1)), .int (nI (w2))]) (rest := []) (q := (RX5, TX5, 7)) S hG (c_X5_swap_3 E (r := n9) (j := w1) (w := w2) hok hinj hct hn9 hz0 hw1 hw2 hxk) 3 gL_law_X5_swap rfl kX5_swap ⟨Nat.le_of_ble_eq_true rfl, Nat.le_of_ble_eq_true rfl⟩ ⟨Nat.le_of_ble_eq_true rfl, Nat.le_of_ble_eq_true rfl⟩ (hCW) rfl h5 rfl hl.1 rfl rfl (Nat.le_of_ble_eq_true rfl) dL_law_1266 hS (fun q h => hA1 q h) (fun Hn locs h_4 q_3 o_5 hS => ?_)
  have hz : Hn.size = H.size := q_3.trans hz
  have hCW := h_4
  have hr1 := va_at.kept hr1 (o_5 _ (hdis _ (Or.inl rfl)))
  have hr2 := va_at.kept hr2 (o_5 _ (hdis _ (Or.inr (Or.inl rfl))))
  have hr3 := va_at.kept hr3 (o_5 _ (hdis _ (Or.inr (Or.inr (Or.inl rfl)))))
  have hr4 := va_at.kept hr4 (o_5 _ (hdis _ (Or.inr (Or.inr (Or.inr (Or.inl rfl))))))
  have hr5 := va_at.kept hr5 (o_5 _ (hdis _ (Or.inr (Or.inr (Or.inr (Or.inr rfl))))))
  obtain ⟨f5, h5⟩ := zCW_recv hCW
  refine lv_aload_n hx hb dL_law_1269 rfl (lv_at hl 5 rfl) ?_
  refine lv_aload_n hx hb dL_law_1270 rfl (lv_at hl 4 rfl) ?_
  refine lv_iload hx hb dL_law_1271 (lv_at hl 13 rfl) ?_
  refine z_lald (j := n9) hx hb hG hr1 ⟨by omega, by omega⟩ dL_law_1273 ?_
  refine z_topl (y := lN (zLn (zxc (zKd nw n9) w1 w2) (zSz nw n9))) (congrArg lN zun_s) ?_
  refine z_roSX (As := [.ref (ba), .long (lN (zLn (zxc (zKd nw n9) w1 w2) (zSz nw n9)))]) (rest := [.int (zlean (zWt nw) (zSz nw n9) (zxc (zKd nw n9) w1 w2))]) S hG (c_L_lean E (bb := bb) (f := zxc (zKd nw n9) w1 w2) hs4 hxk) 2 gL_law_L_lean rfl kL_lean.2 ⟨Nat.le_of_ble_eq_true rfl, Nat.le_of_ble_eq_true rfl⟩ ⟨Nat.le_of_ble_eq_true rfl, Nat.le_of_ble_eq_true rfl⟩ (hr2) rfl hl.1 rfl rfl (Nat.le_of_ble_eq_true rfl) dL_law_1274 ?_
  refine z_top (y := (zlean (zWt nw) (zSz nw n9) (zxc (zKd nw n9) w1 w2))) (zlean_cg hs4 hwt hxk) ?_
  refine lv_icmp_ne (tgt := 1284) hx hb dL_law_1277 (by decide) (fun c_6 => by exfalso; exact c_6 rfl) (fun c_6 => ?_)
  refine lv_iconst (v := nI (1)) hx hb dL_law_1280 (by decide) ?_
  refine lv_goto (tgt := 1285) hx hb dL_law_1281 (by decide) ?_
  refine lv_istore (lv' := [(14, .int (nI (1))), (17, .int (nI (w2))), (16, .int (nI (w1))), (0, .ref (b)), (1, .ref (ad 287)), (2, .ref (ra)), (3, .ref (ba)), (4, .ref (ga)), (5, .ref (ea)), (6, .ref (ca)), (7, .int (nI (zNl nw))), (8, .int (nI (i))), (9, .int (h9)), (10, .int (nI (kd))), (11, .int (nI (n9))), (12, .int (nI (k9))), (13, .int (-1)), (15, .int (zfm (zfd (zSz nw) 6)))]) hx hb dL_law_1285 hl (by decide) rfl (fun ls hl => ?_)
  refine lv_goto (tgt := 1734) hx hb dL_law_1287 (by decide) ?_
  exact kk (ztR (nw, sv, an, hh, ct, ln, cd) (zsRg nw n9 (zSz nw n9) (zxc (zKd nw n9) w1 w2))) (zun rr n9 (zLn (zxc (zKd nw n9) w1 w2) (zSz nw n9))) (bb) (gg) (ee) (cc) _ _ ⟨zInv_r hv (zOk_rg hok hn9 (Or.inr hs4) hxk), hCW, ⟨hr1, hr2, hr3, hr4, hr5⟩, zR_rg hrel hn9 (fun e9 => absurd e9 hz0) (fun _ => rfl), hS⟩ n9 hn9 ls (lv_sub hl [3, 4, 5, 6, 7, 8, 9, 10, 11, 14, 0] rfl)

set_option maxHeartbeats 4000000 in
set_option maxRecDepth 100000 in
theorem lw_change {p : Program} {e : Env} {s : State} {m : MethodId} {b L : Nat} {xs : Nat → Int32} {below : List Frame} {meth : Method} {c : Code} {E : zEnv} {ad : Nat → Nat} {ra ba ga ea ca : Nat} {Q : State → Prop} {i : Nat} (F : zLF E p s m c b L xs) (D : zLA ad ra ba ga ea ca s) (kk : zLJ p e s m b below meth c E ad ra ba ga ea ca Q i) {τ : zT} {rr : Nat → Nat} {bb gg : Nat → Int32} {ee : Nat → Nat} {cc : Nat → Int32} {H : Heap} {locs : List Loc} (hs : zLS E ad ra ba ga ea ca s τ rr bb gg ee cc H locs) {n9 k9 kd : Nat} {h9 : Int32} (hn9 : n9 < 6) (hk9 : 1 ≤ k9 ∧ k9 ≤ 5) (hr0 : ¬ zRn τ.1 n9 = 0) (hkd : kd = 16 ∨ kd = 17 ∨ kd = 18) {ls : Array Slot} (hl : lv_has ls 22 [(0, .ref (b)), (1, .ref (ad 287)), (2, .ref (ra)), (3, .ref (ba)), (4, .ref (ga)), (5, .ref (ea)), (6, .ref (ca)), (7, .int (nI (zNl τ.1))), (8, .int (nI (i))), (9, .int (h9)), (10, .int (nI (kd))), (11, .int (nI (n9))), (12, .int (nI (k9))), (13, .int (-1)), (14, .int (nI (1))), (15, .int (zfm (zfd (zSz τ.1) 6)))]) : zLW p e s m b below meth c E Q H locs 1297 ls [] := by
  obtain ⟨S, hG, hX, hbl, hL⟩ := id F
  obtain ⟨hinj, hA1, hdis, hge, hd1, hd2, hd3, hd4⟩ := id D
  obtain ⟨hx, hb, hml9, hown, hts⟩ := id S
  have hbA : ¬ (fun q : Nat => s.heap.size ≤ q) b := Nat.not_le.mpr hbl
  obtain ⟨hv, hCW0, hRW, hrel, hS⟩ := hs
  obtain ⟨nw, sv, an, hh, ct, ln, cd⟩ := τ
  have hCW : zCW E ad nw sv an hh ct ln cd H := hCW0
  have hrel : zRel nw rr bb gg ee cc := hrel
  have hok : zOk nw := hv.1
  have hct : ct ≤ 5 := hv.2.2.2.1
  obtain ⟨hr1, hr2, hr3, hr4, hr5⟩ := id hRW
  obtain ⟨f5, h5⟩ := zCW_recv hCW
  obtain ⟨e1r, e2r, e3r, e4r, e5r⟩ := id hrel
  have hml := hok.2.2.2.1
  have hnl := hok.2.2.2.2.1
  have hz : H.size = H.size := rfl
  have hl : lv_has ls 22 [(0, .ref (b)), (1, .ref (ad 287)), (2, .ref (ra)), (3, .ref (ba)), (4, .ref (ga)), (5, .ref (ea)), (6, .ref (ca)), (7, .int (nI (zNl nw))), (8, .int (nI (i))), (9, .int (h9)), (10, .int (nI (kd))), (11, .int (nI (n9))), (12, .int (nI (k9))), (13, .int (-1)), (14, .int (nI (1))), (15, .int (zfm (zfd (zSz nw) 6)))] := hl
  have hz0 : zSz nw n9 ≠ 0 := zRn_1 hr0
  have hs4 := hok.s4 hn9 hz0
  have hk4 := hok.k4 hn9
  have hb4 := hs4.b
  have hq4 := hs4.q
  obtain ⟨w1, hw10⟩ : ∃ y : Nat, y = zlw (h9 >>> (nI (11) &&& 31)) (zSz nw n9) := ⟨_, rfl⟩
  have hw1 : w1 < (zSz nw n9) := by rw [hw10]; exact zlw_lt _ hb4.1
  obtain ⟨w2, hw20⟩ : ∃ y : Nat, y = zlw (h9 >>> (nI (11) &&& 31)) 4 := ⟨_, rfl⟩
  have hw2 : w2 < 4 := by rw [hw20]; exact zlw_lt _ (by decide)
  have hw3 : w2 * (zSz nw n9) ≤ 3 * (zSz nw n9) := Nat.mul_le_mul_right _ (by omega)
  rcases hkd with q1 | q1 | q1
  · rw [q1] at hl
    refine lv_iload hx hb dL_law_1297 (lv_at hl 9 rfl) ?_
    refine lv_bipush (v := nI (11)) hx hb dL_law_1299 (by decide) ?_
    refine lv_ishr hx hb dL_law_1301 ?_
    refine lv_aload_n hx hb dL_law_1302 rfl (lv_at hl 2 rfl) ?_
    refine lv_iload hx hb dL_law_1303 (lv_at hl 11 rfl) ?_
    refine z_lald (j := n9) hx hb hG hr1 ⟨by omega, by omega⟩ dL_law_1305 ?_
    refine z_topl (y := lN (zLn (zKd nw n9) (zSz nw n9))) (congrArg lN ((e1r _ hn9).trans (zRn_e hz0))) ?_
    refine z_roSX (As := [.long (lN (zLn (zKd nw n9) (zSz nw n9)))]) (rest := [.int ((h9) >>> (nI (11) &&& 31))]) S hG (c_L_slots E hs4 hk4) 1 gL_law_L_slots rfl kL_slots.2 ⟨Nat.le_of_ble_eq_true rfl, Nat.le_of_ble_eq_true rfl⟩ ⟨Nat.le_of_ble_eq_true rfl, Nat.le_of_ble_eq_true rfl⟩ (trivial) rfl hl.1 rfl rfl (Nat.le_of_ble_eq_true rfl) dL_law_1306 ?_
    refine z_roSX (As := [.int ((h9) >>> (nI (11) &&& 31)), .int (nI (zSz nw n9))]) (rest := []) S hG (c_L_low E (v := h9 >>> (nI (11) &&& 31)) (n := (zSz nw n9)) ⟨by omega, by omega⟩) 2 gL_law_L_low rfl kL_low.2 ⟨Nat.le_of_ble_eq_true rfl, Nat.le_of_ble_eq_true rfl⟩ ⟨Nat.le_of_ble_eq_true rfl, Nat.le_of_ble_eq_true rfl⟩ (trivial) rfl hl.1 rfl rfl (Nat.le_of_ble_eq_true rfl) dL_law_1309 ?_
    refine z_top (y := nI (w1)) (by rw [hw10]) ?_
    refine lv_istore (lv' := [(16, .int (nI (w1))), (0, .ref (b)), (1, .ref (ad 287)), (2, .ref (ra)), (3, .ref (ba)), (4, .ref (ga)), (5, .ref (ea)), (6, .ref (ca)), (7, .int (nI (zNl nw))), (8, .int (nI (i))), (9, .int (h9)), (10, .int (nI (16))), (11, .int (nI (n9))), (12, .int (nI (k9))), (13, .int (-1)), (14, .int (nI (1))), (15, .int (zfm (zfd (zSz nw) 6)))]) hx hb dL_law_1312 hl (by decide) rfl (fun ls hl => ?_)
    refine lv_iload hx hb dL_law_1314 (lv_at hl 10 rfl) ?_
    refine lv_bipush (v := nI (11)) hx hb dL_law_1316 (by decide) ?_
    refine lv_ishr hx hb dL_law_1318 ?_
    refine lv_iconst (v := nI (4)) hx hb dL_law_1319 (by decide) ?_
    refine z_roSX (As := [.int ((h9) >>> (nI (11) &&& 31)), .int (nI (4))]) (rest := []) S hG (c_L_low E (v := h9 >>> (nI (11) &&& 31)) (n := 4) ⟨by omega, by omega⟩) 2 gL_law_L_low rfl kL_low.2 ⟨Nat.le_of_ble_eq_true rfl, Nat.le_of_ble_eq_true rfl⟩ ⟨Nat.le_of_ble_eq_true rfl, Nat.le_of_ble_eq_true rfl⟩ (trivial) rfl hl.1 rfl rfl (Nat.le_of_ble_eq_true rfl) dL_law_1320 ?_
    refine z_top (y := nI (w2)) (by rw [hw20]) ?_
    refine lv_istore (lv' := [(17, .int (nI (w2))), (16, .int (nI (w1))), (0, .ref (b)), (1, .ref (ad 287)), (2, .ref (ra)), (3, .ref (ba)), (4, .ref (ga)), (5, .ref (ea)), (6, .ref (ca)), (7, .int (nI (zNl nw))), (8, .int (nI (i))), (9, .int (h9)), (10, .int (nI (16))), (11, .int (nI (n9))), (12, .int (nI (k9))), (13, .int (-1)), (14, .int (nI (1))), (15, .int (zfm (zfd (zSz nw) 6)))]) hx hb dL_law_1323 hl (by decide) rfl (fun ls hl => ?_)
    refine lv_iload hx hb dL_law_1325 (lv_at hl 12 rfl) ?_
    refine lv_bipush (v := nI (16)) hx hb dL_law_1327 (by decide) ?_
    refine z_cne (tgt := 1344) hx hb dL_law_1329 (by decide) ⟨by omega, by omega⟩ (fun c_1 => by exfalso; omega) (fun c_1 => ?_)
    refine lv_aload_n hx hb dL_law_1332 rfl (lv_at hl 4 rfl) ?_
    refine lv_iload hx hb dL_law_1333 (lv_at hl 13 rfl) ?_
    refine z_lald (j := n9) hx hb hG hr1 ⟨by omega, by omega⟩ dL_law_1335 ?_
    refine z_topl (y := lN (zLn (zKd nw n9) (zSz nw n9))) (congrArg lN ((e1r _ hn9).trans (zRn_e hz0))) ?_
    refine lv_iload hx hb dL_law_1336 (lv_at hl 1 rfl) ?_
    refine z_roSX (As := [.long (lN (zLn (zKd nw n9) (zSz nw n9))), .int (nI (w1))]) (rest := []) S hG (c_L_rolledBy E (by9 := w1) hs4 hk4 hw1) 2 gL_law_L_rolledBy rfl kL_rolledBy.2 ⟨Nat.le_of_ble_eq_true rfl, Nat.le_of_ble_eq_true rfl⟩ ⟨Nat.le_of_ble_eq_true rfl, Nat.le_of_ble_eq_true rfl⟩ (trivial) rfl hl.1 rfl rfl (Nat.le_of_ble_eq_true rfl) dL_law_1338 ?_
    refine lv_goto (tgt := 1380) hx hb dL_law_1341 (by decide) ?_
    refine lv_lstore (lv' := [(18, .long (lN (zLn (zimg (zSz nw n9) (zKd nw n9) w1) (zSz nw n9)))), (17, .int (nI (w2))), (16, .int (nI (w1))), (0, .ref (b)), (1, .ref (ad 287)), (2, .ref (ra)), (3, .ref (ba)), (4, .ref (ga)), (5, .ref (ea)), (6, .ref (ca)), (7, .int (nI (zNl nw))), (8, .int (nI (i))), (9, .int (h9)), (10, .int (nI (16))), (11, .int (nI (n9))), (12, .int (nI (k9))), (13, .int (-1)), (14, .int (nI (1))), (15, .int (zfm (zfd (zSz nw) 6)))]) hx hb dL_law_1380 hl (by decide) rfl (fun ls hl => ?_)
    refine lv_lload hx hb dL_law_1382 (lv_at hl 0 rfl) ?_
    refine lv_aload_n hx hb dL_law_1384 rfl (lv_at hl 5 rfl) ?_
    refine lv_iload hx hb dL_law_1385 (lv_at hl 14 rfl) ?_
    refine z_lald (j := n9) hx hb hG hr1 ⟨by omega, by omega⟩ dL_law_1387 ?_
    refine z_topl (y := lN (zLn (zKd nw n9) (zSz nw n9))) (congrArg lN ((e1r _ hn9).trans (zRn_e hz0))) ?_
    refine z_roSX (As := [.long (lN (zLn (zimg (zSz nw n9) (zKd nw n9) w1) (zSz nw n9))), .long (lN (zLn (zKd nw n9) (zSz nw n9)))]) (rest := []) S hG (c_L_unlike E (f := zimg (zSz nw n9) (zKd nw n9) (w1)) (g := (zKd nw n9)) hs4 (zLn_k hb4.1 hk4) hk4) 2 gL_law_L_unlike rfl kL_unlike.2 ⟨Nat.le_of_ble_eq_true rfl, Nat.le_of_ble_eq_true rfl⟩ ⟨Nat.le_of_ble_eq_true rfl, Nat.le_of_ble_eq_true rfl⟩ (trivial) rfl hl.1 rfl rfl (Nat.le_of_ble_eq_true rfl) dL_law_1388 ?_
    refine z_top (y := nI (zdf (zSz nw n9) (zKd nw n9) (w1) (zKd nw n9))) (rfl) ?_
    refine lv_istore (lv' := [(20, .int (nI (zdf (zSz nw n9) (zKd nw n9) (w1) (zKd nw n9)))), (18, .long (lN (zLn (zimg (zSz nw n9) (zKd nw n9) w1) (zSz nw n9)))), (17, .int (nI (w2))), (16, .int (nI (w1))), (0, .ref (b)), (1, .ref (ad 287)), (2, .ref (ra)), (3, .ref (ba)), (4, .ref (ga)), (5, .ref (ea)), (6, .ref (ca)), (7, .int (nI (zNl nw))), (8, .int (nI (i))), (9, .int (h9)), (10, .int (nI (16))), (11, .int (nI (n9))), (12, .int (nI (k9))), (13, .int (-1)), (14, .int (nI (1))), (15, .int (zfm (zfd (zSz nw) 6)))]) hx hb dL_law_1391 hl (by decide) rfl (fun ls hl => ?_)
    refine lv_iload hx hb dL_law_1393 (lv_at hl 14 rfl) ?_
    refine lv_bipush (v := nI (16)) hx hb dL_law_1395 (by decide) ?_
    refine z_cne (tgt := 1411) hx hb dL_law_1397 (by decide) ⟨by omega, by omega⟩ (fun c_2 => by exfalso; omega) (fun c_2 => ?_)
    refine lv_aload_n hx hb dL_law_1400 rfl (lv_at hl 5 rfl) ?_
    refine lv_iload hx hb dL_law_1401 (lv_at hl 15 rfl) ?_
    refine lv_iload hx hb dL_law_1403 (lv_at hl 3 rfl) ?_
    refine z_wrV (As := [.int (nI (n9)), .int (nI (w1))]) (rest := []) (q := (RX5, TX5, 7)) S hG (c_X5_roll_2 E (r := n9) (j := w1) hok hinj hct hn9 hz0 hw1) 2 gL_law_X5_roll rfl kX5_roll ⟨Nat.le_of_ble_eq_true rfl, Nat.le_of_ble_eq_true rfl⟩ ⟨Nat.le_of_ble_eq_true rfl, Nat.le_of_ble_eq_true rfl⟩ (hCW) rfl h5 rfl hl.1 rfl rfl (Nat.le_of_ble_eq_true rfl) dL_law_1405 hS (fun q h => hA1 q h) (fun Hn locs h_4 q_3 o_5 hS => ?_)
    have hz : Hn.size = H.size := q_3.trans hz
    have hCW := h_4
    have hr1 := va_at.kept hr1 (o_5 _ (hdis _ (Or.inl rfl)))
    have hr2 := va_at.kept hr2 (o_5 _ (hdis _ (Or.inr (Or.inl rfl))))
    have hr3 := va_at.kept hr3 (o_5 _ (hdis _ (Or.inr (Or.inr (Or.inl rfl)))))
    have hr4 := va_at.kept hr4 (o_5 _ (hdis _ (Or.inr (Or.inr (Or.inr (Or.inl rfl))))))
    have hr5 := va_at.kept hr5 (o_5 _ (hdis _ (Or.inr (Or.inr (Or.inr (Or.inr rfl))))))
    obtain ⟨f5, h5⟩ := zCW_recv hCW
    refine lv_goto (tgt := 1435) hx hb dL_law_1408 (by decide) ?_
    refine lv_iload hx hb dL_law_1435 (lv_at hl 0 rfl) ?_
    refine lv_icmp_ne (tgt := 1444) hx hb dL_law_1437 (by decide) (fun c_6 => by exfalso; exact c_6 rfl) (fun c_6 => ?_)
    refine lv_iconst (v := nI (1)) hx hb dL_law_1440 (by decide) ?_
    refine lv_goto (tgt := 1445) hx hb dL_law_1441 (by decide) ?_
    refine lv_istore (lv' := [(14, .int (nI (1))), (20, .int (nI (zdf (zSz nw n9) (zKd nw n9) (w1) (zKd nw n9)))), (18, .long (lN (zLn (zimg (zSz nw n9) (zKd nw n9) w1) (zSz nw n9)))), (17, .int (nI (w2))), (16, .int (nI (w1))), (0, .ref (b)), (1, .ref (ad 287)), (2, .ref (ra)), (3, .ref (ba)), (4, .ref (ga)), (5, .ref (ea)), (6, .ref (ca)), (7, .int (nI (zNl nw))), (8, .int (nI (i))), (9, .int (h9)), (10, .int (nI (16))), (11, .int (nI (n9))), (12, .int (nI (k9))), (13, .int (-1)), (15, .int (zfm (zfd (zSz nw) 6)))]) hx hb dL_law_1445 hl (by decide) rfl (fun ls hl => ?_)
    refine lv_aload_n hx hb dL_law_1447 rfl (lv_at hl 7 rfl) ?_
    refine lv_iload hx hb dL_law_1448 (lv_at hl 16 rfl) ?_
    refine lv_lload hx hb dL_law_1450 (lv_at hl 2 rfl) ?_
    refine z_last (j := n9) hx hb hG hr1 ⟨by omega, by omega⟩ hS (hge _ (Or.inl rfl)) dL_law_1452 (fun Hn locs h_7 o_8 hS => ?_)
    have hCW := zCW_kept hCW (fun q hq => o_8.2 q (fun e9 => hdis q (by rw [e9]; exact Or.inl rfl) hq))
    have hr1 := h_7
    have hr2 := va_at.kept hr2 (o_8.2 _ (by omega))
    have hr3 := va_at.kept hr3 (o_8.2 _ (by omega))
    have hr4 := va_at.kept hr4 (o_8.2 _ (by omega))
    have hr5 := va_at.kept hr5 (o_8.2 _ (by omega))
    obtain ⟨f5, h5⟩ := zCW_recv hCW
    have hz : Hn.size = H.size := o_8.1.trans hz
    refine lv_goto (tgt := 1734) hx hb dL_law_1453 (by decide) ?_
    exact kk (ztR (nw, sv, an, hh, ct, ln, cd) (zsRg nw n9 (zSz nw n9) (zpm (zimg (zSz nw n9) (zKd nw n9) (w1)) (zKd nw n9) (zSz nw n9)))) (zun rr n9 (zLn (zimg (zSz nw n9) (zKd nw n9) w1) (zSz nw n9))) (bb) (gg) (ee) (cc) _ _ ⟨zInv_r hv (zOk_rg hok hn9 (Or.inr hs4) (zpm_k2 (zLn_k hb4.1 hk4) hk4)), hCW, ⟨hr1, hr2, hr3, hr4, hr5⟩, zR_rg hrel hn9 (fun e9 => absurd e9 hz0) (fun _ => zL_pe.symm), hS⟩ n9 hn9 ls (lv_sub hl [5, 6, 7, 8, 9, 10, 11, 12, 13, 16, 0] rfl)
  · rw [q1] at hl
    refine lv_iload hx hb dL_law_1297 (lv_at hl 9 rfl) ?_
    refine lv_bipush (v := nI (11)) hx hb dL_law_1299 (by decide) ?_
    refine lv_ishr hx hb dL_law_1301 ?_
    refine lv_aload_n hx hb dL_law_1302 rfl (lv_at hl 2 rfl) ?_
    refine lv_iload hx hb dL_law_1303 (lv_at hl 11 rfl) ?_
    refine z_lald (j := n9) hx hb hG hr1 ⟨by omega, by omega⟩ dL_law_1305 ?_
    refine z_topl (y := lN (zLn (zKd nw n9) (zSz nw n9))) (congrArg lN ((e1r _ hn9).trans (zRn_e hz0))) ?_
    refine z_roSX (As := [.long (lN (zLn (zKd nw n9) (zSz nw n9)))]) (rest := [.int ((h9) >>> (nI (11) &&& 31))]) S hG (c_L_slots E hs4 hk4) 1 gL_law_L_slots rfl kL_slots.2 ⟨Nat.le_of_ble_eq_true rfl, Nat.le_of_ble_eq_true rfl⟩ ⟨Nat.le_of_ble_eq_true rfl, Nat.le_of_ble_eq_true rfl⟩ (trivial) rfl hl.1 rfl rfl (Nat.le_of_ble_eq_true rfl) dL_law_1306 ?_
    refine z_roSX (As := [.int ((h9) >>> (nI (11) &&& 31)), .int (nI (zSz nw n9))]) (rest := []) S hG (c_L_low E (v := h9 >>> (nI (11) &&& 31)) (n := (zSz nw n9)) ⟨by omega, by omega⟩) 2 gL_law_L_low rfl kL_low.2 ⟨Nat.le_of_ble_eq_true rfl, Nat.le_of_ble_eq_true rfl⟩ ⟨Nat.le_of_ble_eq_true rfl, Nat.le_of_ble_eq_true rfl⟩ (trivial) rfl hl.1 rfl rfl (Nat.le_of_ble_eq_true rfl) dL_law_1309 ?_
    refine z_top (y := nI (w1)) (by rw [hw10]) ?_
    refine lv_istore (lv' := [(16, .int (nI (w1))), (0, .ref (b)), (1, .ref (ad 287)), (2, .ref (ra)), (3, .ref (ba)), (4, .ref (ga)), (5, .ref (ea)), (6, .ref (ca)), (7, .int (nI (zNl nw))), (8, .int (nI (i))), (9, .int (h9)), (10, .int (nI (17))), (11, .int (nI (n9))), (12, .int (nI (k9))), (13, .int (-1)), (14, .int (nI (1))), (15, .int (zfm (zfd (zSz nw) 6)))]) hx hb dL_law_1312 hl (by decide) rfl (fun ls hl => ?_)
    refine lv_iload hx hb dL_law_1314 (lv_at hl 10 rfl) ?_
    refine lv_bipush (v := nI (11)) hx hb dL_law_1316 (by decide) ?_
    refine lv_ishr hx hb dL_law_1318 ?_
    refine lv_iconst (v := nI (4)) hx hb dL_law_1319 (by decide) ?_
    refine z_roSX (As := [.int ((h9) >>> (nI (11) &&& 31)), .int (nI (4))]) (rest := []) S hG (c_L_low E (v := h9 >>> (nI (11) &&& 31)) (n := 4) ⟨by omega, by omega⟩) 2 gL_law_L_low rfl kL_low.2 ⟨Nat.le_of_ble_eq_true rfl, Nat.le_of_ble_eq_true rfl⟩ ⟨Nat.le_of_ble_eq_true rfl, Nat.le_of_ble_eq_true rfl⟩ (trivial) rfl hl.1 rfl rfl (Nat.le_of_ble_eq_true rfl) dL_law_1320 ?_
    refine z_top (y := nI (w2)) (by rw [hw20]) ?_
    refine lv_istore (lv' := [(17, .int (nI (w2))), (16, .int (nI (w1))), (0, .ref (b)), (1, .ref (ad 287)), (2, .ref (ra)), (3, .ref (ba)), (4, .ref (ga)), (5, .ref (ea)), (6, .ref (ca)), (7, .int (nI (zNl nw))), (8, .int (nI (i))), (9, .int (h9)), (10, .int (nI (17))), (11, .int (nI (n9))), (12, .int (nI (k9))), (13, .int (-1)), (14, .int (nI (1))), (15, .int (zfm (zfd (zSz nw) 6)))]) hx hb dL_law_1323 hl (by decide) rfl (fun ls hl => ?_)
    refine lv_iload hx hb dL_law_1325 (lv_at hl 12 rfl) ?_
    refine lv_bipush (v := nI (16)) hx hb dL_law_1327 (by decide) ?_
    refine z_cne (tgt := 1344) hx hb dL_law_1329 (by decide) ⟨by omega, by omega⟩ (fun c_9 => ?_) (fun c_9 => by exfalso; omega)
    refine lv_iload hx hb dL_law_1344 (lv_at hl 12 rfl) ?_
    refine lv_bipush (v := nI (17)) hx hb dL_law_1346 (by decide) ?_
    refine z_cne (tgt := 1373) hx hb dL_law_1348 (by decide) ⟨by omega, by omega⟩ (fun c_10 => by exfalso; omega) (fun c_10 => ?_)
    refine lv_aload_n hx hb dL_law_1351 rfl (lv_at hl 4 rfl) ?_
    refine lv_iload hx hb dL_law_1352 (lv_at hl 13 rfl) ?_
    refine z_lald (j := n9) hx hb hG hr1 ⟨by omega, by omega⟩ dL_law_1354 ?_
    refine z_topl (y := lN (zLn (zKd nw n9) (zSz nw n9))) (congrArg lN ((e1r _ hn9).trans (zRn_e hz0))) ?_
    refine lv_iload hx hb dL_law_1355 (lv_at hl 0 rfl) ?_
    refine lv_aload_n hx hb dL_law_1357 rfl (lv_at hl 4 rfl) ?_
    refine lv_iload hx hb dL_law_1358 (lv_at hl 13 rfl) ?_
    refine z_lald (j := n9) hx hb hG hr1 ⟨by omega, by omega⟩ dL_law_1360 ?_
    refine z_topl (y := lN (zLn (zKd nw n9) (zSz nw n9))) (congrArg lN ((e1r _ hn9).trans (zRn_e hz0))) ?_
    refine z_roSX (As := [.long (lN (zLn (zKd nw n9) (zSz nw n9)))]) (rest := [.int (nI (w2)), .long (lN (zLn (zKd nw n9) (zSz nw n9)))]) S hG (c_L_slots E hs4 hk4) 1 gL_law_L_slots rfl kL_slots.2 ⟨Nat.le_of_ble_eq_true rfl, Nat.le_of_ble_eq_true rfl⟩ ⟨Nat.le_of_ble_eq_true rfl, Nat.le_of_ble_eq_true rfl⟩ (trivial) rfl hl.1 rfl rfl (Nat.le_of_ble_eq_true rfl) dL_law_1361 ?_
    refine z_imul hx hb dL_law_1364 ?_
    refine lv_iconst (v := nI (4)) hx hb dL_law_1365 (by decide) ?_
    refine z_idiv hx hb dL_law_1366 ⟨by omega, by decide, by decide⟩ ?_
    refine z_roSX (As := [.long (lN (zLn (zKd nw n9) (zSz nw n9))), .int (nI ((w2 * (zSz nw n9)) / 4))]) (rest := []) S hG (c_L_rolledBy E (by9 := w2 * (zSz nw n9) / 4) hs4 hk4 (by omega)) 2 gL_law_L_rolledBy rfl kL_rolledBy.2 ⟨Nat.le_of_ble_eq_true rfl, Nat.le_of_ble_eq_true rfl⟩ ⟨Nat.le_of_ble_eq_true rfl, Nat.le_of_ble_eq_true rfl⟩ (trivial) rfl hl.1 rfl rfl (Nat.le_of_ble_eq_true rfl) dL_law_1367 ?_
    refine lv_goto (tgt := 1380) hx hb dL_law_1370 (by decide) ?_
    refine lv_lstore (lv' := [(18, .long (lN (zLn (zimg (zSz nw n9) (zKd nw n9) (w2 * (zSz nw n9) / 4)) (zSz nw n9)))), (17, .int (nI (w2))), (16, .int (nI (w1))), (0, .ref (b)), (1, .ref (ad 287)), (2, .ref (ra)), (3, .ref (ba)), (4, .ref (ga)), (5, .ref (ea)), (6, .ref (ca)), (7, .int (nI (zNl nw))), (8, .int (nI (i))), (9, .int (h9)), (10, .int (nI (17))), (11, .int (nI (n9))), (12, .int (nI (k9))), (13, .int (-1)), (14, .int (nI (1))), (15, .int (zfm (zfd (zSz nw) 6)))]) hx hb dL_law_1380 hl (by decide) rfl (fun ls hl => ?_)
    refine lv_lload hx hb dL_law_1382 (lv_at hl 0 rfl) ?_
    refine lv_aload_n hx hb dL_law_1384 rfl (lv_at hl 5 rfl) ?_
    refine lv_iload hx hb dL_law_1385 (lv_at hl 14 rfl) ?_
    refine z_lald (j := n9) hx hb hG hr1 ⟨by omega, by omega⟩ dL_law_1387 ?_
    refine z_topl (y := lN (zLn (zKd nw n9) (zSz nw n9))) (congrArg lN ((e1r _ hn9).trans (zRn_e hz0))) ?_
    refine z_roSX (As := [.long (lN (zLn (zimg (zSz nw n9) (zKd nw n9) (w2 * (zSz nw n9) / 4)) (zSz nw n9))), .long (lN (zLn (zKd nw n9) (zSz nw n9)))]) (rest := []) S hG (c_L_unlike E (f := zimg (zSz nw n9) (zKd nw n9) (w2 * (zSz nw n9) / 4)) (g := (zKd nw n9)) hs4 (zLn_k hb4.1 hk4) hk4) 2 gL_law_L_unlike rfl kL_unlike.2 ⟨Nat.le_of_ble_eq_true rfl, Nat.le_of_ble_eq_true rfl⟩ ⟨Nat.le_of_ble_eq_true rfl, Nat.le_of_ble_eq_true rfl⟩ (trivial) rfl hl.1 rfl rfl (Nat.le_of_ble_eq_true rfl) dL_law_1388 ?_
    refine z_top (y := nI (zdf (zSz nw n9) (zKd nw n9) (w2 * (zSz nw n9) / 4) (zKd nw n9))) (rfl) ?_
    refine lv_istore (lv' := [(20, .int (nI (zdf (zSz nw n9) (zKd nw n9) (w2 * (zSz nw n9) / 4) (zKd nw n9)))), (18, .long (lN (zLn (zimg (zSz nw n9) (zKd nw n9) (w2 * (zSz nw n9) / 4)) (zSz nw n9)))), (17, .int (nI (w2))), (16, .int (nI (w1))), (0, .ref (b)), (1, .ref (ad 287)), (2, .ref (ra)), (3, .ref (ba)), (4, .ref (ga)), (5, .ref (ea)), (6, .ref (ca)), (7, .int (nI (zNl nw))), (8, .int (nI (i))), (9, .int (h9)), (10, .int (nI (17))), (11, .int (nI (n9))), (12, .int (nI (k9))), (13, .int (-1)), (14, .int (nI (1))), (15, .int (zfm (zfd (zSz nw) 6)))]) hx hb dL_law_1391 hl (by decide) rfl (fun ls hl => ?_)
    refine lv_iload hx hb dL_law_1393 (lv_at hl 14 rfl) ?_
    refine lv_bipush (v := nI (16)) hx hb dL_law_1395 (by decide) ?_
    refine z_cne (tgt := 1411) hx hb dL_law_1397 (by decide) ⟨by omega, by omega⟩ (fun c_11 => ?_) (fun c_11 => by exfalso; omega)
    refine lv_iload hx hb dL_law_1411 (lv_at hl 14 rfl) ?_
    refine lv_bipush (v := nI (17)) hx hb dL_law_1413 (by decide) ?_
    refine z_cne (tgt := 1429) hx hb dL_law_1415 (by decide) ⟨by omega, by omega⟩ (fun c_12 => by exfalso; omega) (fun c_12 => ?_)
    refine lv_aload_n hx hb dL_law_1418 rfl (lv_at hl 5 rfl) ?_
    refine lv_iload hx hb dL_law_1419 (lv_at hl 15 rfl) ?_
    refine lv_iload hx hb dL_law_1421 (lv_at hl 2 rfl) ?_
    refine z_wrV (As := [.int (nI (n9)), .int (nI (w2))]) (rest := []) (q := (RX5, TX5, 7)) S hG (c_X5_turn_2 E (r := n9) (j := w2) hok hinj hct hn9 hz0 hw2) 2 gL_law_X5_turn rfl kX5_turn ⟨Nat.le_of_ble_eq_true rfl, Nat.le_of_ble_eq_true rfl⟩ ⟨Nat.le_of_ble_eq_true rfl, Nat.le_of_ble_eq_true rfl⟩ (hCW) rfl h5 rfl hl.1 rfl rfl (Nat.le_of_ble_eq_true rfl) dL_law_1423 hS (fun q h => hA1 q h) (fun Hn locs h_14 q_13 o_15 hS => ?_)
    have hz : Hn.size = H.size := q_13.trans hz
    have hCW := h_14
    have hr1 := va_at.kept hr1 (o_15 _ (hdis _ (Or.inl rfl)))
    have hr2 := va_at.kept hr2 (o_15 _ (hdis _ (Or.inr (Or.inl rfl))))
    have hr3 := va_at.kept hr3 (o_15 _ (hdis _ (Or.inr (Or.inr (Or.inl rfl)))))
    have hr4 := va_at.kept hr4 (o_15 _ (hdis _ (Or.inr (Or.inr (Or.inr (Or.inl rfl))))))
    have hr5 := va_at.kept hr5 (o_15 _ (hdis _ (Or.inr (Or.inr (Or.inr (Or.inr rfl))))))
    obtain ⟨f5, h5⟩ := zCW_recv hCW
    refine lv_goto (tgt := 1435) hx hb dL_law_1426 (by decide) ?_
    refine lv_iload hx hb dL_law_1435 (lv_at hl 0 rfl) ?_
    refine lv_icmp_ne (tgt := 1444) hx hb dL_law_1437 (by decide) (fun c_16 => by exfalso; exact c_16 rfl) (fun c_16 => ?_)
    refine lv_iconst (v := nI (1)) hx hb dL_law_1440 (by decide) ?_
    refine lv_goto (tgt := 1445) hx hb dL_law_1441 (by decide) ?_
    refine lv_istore (lv' := [(14, .int (nI (1))), (20, .int (nI (zdf (zSz nw n9) (zKd nw n9) (w2 * (zSz nw n9) / 4) (zKd nw n9)))), (18, .long (lN (zLn (zimg (zSz nw n9) (zKd nw n9) (w2 * (zSz nw n9) / 4)) (zSz nw n9)))), (17, .int (nI (w2))), (16, .int (nI (w1))), (0, .ref (b)), (1, .ref (ad 287)), (2, .ref (ra)), (3, .ref (ba)), (4, .ref (ga)), (5, .ref (ea)), (6, .ref (ca)), (7, .int (nI (zNl nw))), (8, .int (nI (i))), (9, .int (h9)), (10, .int (nI (17))), (11, .int (nI (n9))), (12, .int (nI (k9))), (13, .int (-1)), (15, .int (zfm (zfd (zSz nw) 6)))]) hx hb dL_law_1445 hl (by decide) rfl (fun ls hl => ?_)
    refine lv_aload_n hx hb dL_law_1447 rfl (lv_at hl 7 rfl) ?_
    refine lv_iload hx hb dL_law_1448 (lv_at hl 16 rfl) ?_
    refine lv_lload hx hb dL_law_1450 (lv_at hl 2 rfl) ?_
    refine z_last (j := n9) hx hb hG hr1 ⟨by omega, by omega⟩ hS (hge _ (Or.inl rfl)) dL_law_1452 (fun Hn locs h_17 o_18 hS => ?_)
    have hCW := zCW_kept hCW (fun q hq => o_18.2 q (fun e9 => hdis q (by rw [e9]; exact Or.inl rfl) hq))
    have hr1 := h_17
    have hr2 := va_at.kept hr2 (o_18.2 _ (by omega))
    have hr3 := va_at.kept hr3 (o_18.2 _ (by omega))
    have hr4 := va_at.kept hr4 (o_18.2 _ (by omega))
    have hr5 := va_at.kept hr5 (o_18.2 _ (by omega))
    obtain ⟨f5, h5⟩ := zCW_recv hCW
    have hz : Hn.size = H.size := o_18.1.trans hz
    refine lv_goto (tgt := 1734) hx hb dL_law_1453 (by decide) ?_
    exact kk (ztR (nw, sv, an, hh, ct, ln, cd) (zsRg nw n9 (zSz nw n9) (zpm (zimg (zSz nw n9) (zKd nw n9) (w2 * (zSz nw n9) / 4)) (zKd nw n9) (zSz nw n9)))) (zun rr n9 (zLn (zimg (zSz nw n9) (zKd nw n9) (w2 * (zSz nw n9) / 4)) (zSz nw n9))) (bb) (gg) (ee) (cc) _ _ ⟨zInv_r hv (zOk_rg hok hn9 (Or.inr hs4) (zpm_k2 (zLn_k hb4.1 hk4) hk4)), hCW, ⟨hr1, hr2, hr3, hr4, hr5⟩, zR_rg hrel hn9 (fun e9 => absurd e9 hz0) (fun _ => zL_pe.symm), hS⟩ n9 hn9 ls (lv_sub hl [5, 6, 7, 8, 9, 10, 11, 12, 13, 16, 0] rfl)
  · rw [q1] at hl
    refine lv_iload hx hb dL_law_1297 (lv_at hl 9 rfl) ?_
    refine lv_bipush (v := nI (11)) hx hb dL_law_1299 (by decide) ?_
    refine lv_ishr hx hb dL_law_1301 ?_
    refine lv_aload_n hx hb dL_law_1302 rfl (lv_at hl 2 rfl) ?_
    refine lv_iload hx hb dL_law_1303 (lv_at hl 11 rfl) ?_
    refine z_lald (j := n9) hx hb hG hr1 ⟨by omega, by omega⟩ dL_law_1305 ?_
    refine z_topl (y := lN (zLn (zKd nw n9) (zSz nw n9))) (congrArg lN ((e1r _ hn9).trans (zRn_e hz0))) ?_
    refine z_roSX (As := [.long (lN (zLn (zKd nw n9) (zSz nw n9)))]) (rest := [.int ((h9) >>> (nI (11) &&& 31))]) S hG (c_L_slots E hs4 hk4) 1 gL_law_L_slots rfl kL_slots.2 ⟨Nat.le_of_ble_eq_true rfl, Nat.le_of_ble_eq_true rfl⟩ ⟨Nat.le_of_ble_eq_true rfl, Nat.le_of_ble_eq_true rfl⟩ (trivial) rfl hl.1 rfl rfl (Nat.le_of_ble_eq_true rfl) dL_law_1306 ?_
    refine z_roSX (As := [.int ((h9) >>> (nI (11) &&& 31)), .int (nI (zSz nw n9))]) (rest := []) S hG (c_L_low E (v := h9 >>> (nI (11) &&& 31)) (n := (zSz nw n9)) ⟨by omega, by omega⟩) 2 gL_law_L_low rfl kL_low.2 ⟨Nat.le_of_ble_eq_true rfl, Nat.le_of_ble_eq_true rfl⟩ ⟨Nat.le_of_ble_eq_true rfl, Nat.le_of_ble_eq_true rfl⟩ (trivial) rfl hl.1 rfl rfl (Nat.le_of_ble_eq_true rfl) dL_law_1309 ?_
    refine z_top (y := nI (w1)) (by rw [hw10]) ?_
    refine lv_istore (lv' := [(16, .int (nI (w1))), (0, .ref (b)), (1, .ref (ad 287)), (2, .ref (ra)), (3, .ref (ba)), (4, .ref (ga)), (5, .ref (ea)), (6, .ref (ca)), (7, .int (nI (zNl nw))), (8, .int (nI (i))), (9, .int (h9)), (10, .int (nI (18))), (11, .int (nI (n9))), (12, .int (nI (k9))), (13, .int (-1)), (14, .int (nI (1))), (15, .int (zfm (zfd (zSz nw) 6)))]) hx hb dL_law_1312 hl (by decide) rfl (fun ls hl => ?_)
    refine lv_iload hx hb dL_law_1314 (lv_at hl 10 rfl) ?_
    refine lv_bipush (v := nI (11)) hx hb dL_law_1316 (by decide) ?_
    refine lv_ishr hx hb dL_law_1318 ?_
    refine lv_iconst (v := nI (4)) hx hb dL_law_1319 (by decide) ?_
    refine z_roSX (As := [.int ((h9) >>> (nI (11) &&& 31)), .int (nI (4))]) (rest := []) S hG (c_L_low E (v := h9 >>> (nI (11) &&& 31)) (n := 4) ⟨by omega, by omega⟩) 2 gL_law_L_low rfl kL_low.2 ⟨Nat.le_of_ble_eq_true rfl, Nat.le_of_ble_eq_true rfl⟩ ⟨Nat.le_of_ble_eq_true rfl, Nat.le_of_ble_eq_true rfl⟩ (trivial) rfl hl.1 rfl rfl (Nat.le_of_ble_eq_true rfl) dL_law_1320 ?_
    refine z_top (y := nI (w2)) (by rw [hw20]) ?_
    refine lv_istore (lv' := [(17, .int (nI (w2))), (16, .int (nI (w1))), (0, .ref (b)), (1, .ref (ad 287)), (2, .ref (ra)), (3, .ref (ba)), (4, .ref (ga)), (5, .ref (ea)), (6, .ref (ca)), (7, .int (nI (zNl nw))), (8, .int (nI (i))), (9, .int (h9)), (10, .int (nI (18))), (11, .int (nI (n9))), (12, .int (nI (k9))), (13, .int (-1)), (14, .int (nI (1))), (15, .int (zfm (zfd (zSz nw) 6)))]) hx hb dL_law_1323 hl (by decide) rfl (fun ls hl => ?_)
    refine lv_iload hx hb dL_law_1325 (lv_at hl 12 rfl) ?_
    refine lv_bipush (v := nI (16)) hx hb dL_law_1327 (by decide) ?_
    refine z_cne (tgt := 1344) hx hb dL_law_1329 (by decide) ⟨by omega, by omega⟩ (fun c_19 => ?_) (fun c_19 => by exfalso; omega)
    refine lv_iload hx hb dL_law_1344 (lv_at hl 12 rfl) ?_
    refine lv_bipush (v := nI (17)) hx hb dL_law_1346 (by decide) ?_
    refine z_cne (tgt := 1373) hx hb dL_law_1348 (by decide) ⟨by omega, by omega⟩ (fun c_20 => ?_) (fun c_20 => by exfalso; omega)
    refine lv_aload_n hx hb dL_law_1373 rfl (lv_at hl 4 rfl) ?_
    refine lv_iload hx hb dL_law_1374 (lv_at hl 13 rfl) ?_
    refine z_lald (j := n9) hx hb hG hr1 ⟨by omega, by omega⟩ dL_law_1376 ?_
    refine z_topl (y := lN (zLn (zKd nw n9) (zSz nw n9))) (congrArg lN ((e1r _ hn9).trans (zRn_e hz0))) ?_
    refine z_roSX (As := [.long (lN (zLn (zKd nw n9) (zSz nw n9)))]) (rest := []) S hG (c_L_mirrored E hs4 hk4) 1 gL_law_L_mirrored rfl kL_mirrored.2 ⟨Nat.le_of_ble_eq_true rfl, Nat.le_of_ble_eq_true rfl⟩ ⟨Nat.le_of_ble_eq_true rfl, Nat.le_of_ble_eq_true rfl⟩ (trivial) rfl hl.1 rfl rfl (Nat.le_of_ble_eq_true rfl) dL_law_1377 ?_
    refine lv_lstore (lv' := [(18, .long (lN (zLn (zimg (zSz nw n9) (zKd nw n9) (zSz nw n9)) (zSz nw n9)))), (17, .int (nI (w2))), (16, .int (nI (w1))), (0, .ref (b)), (1, .ref (ad 287)), (2, .ref (ra)), (3, .ref (ba)), (4, .ref (ga)), (5, .ref (ea)), (6, .ref (ca)), (7, .int (nI (zNl nw))), (8, .int (nI (i))), (9, .int (h9)), (10, .int (nI (18))), (11, .int (nI (n9))), (12, .int (nI (k9))), (13, .int (-1)), (14, .int (nI (1))), (15, .int (zfm (zfd (zSz nw) 6)))]) hx hb dL_law_1380 hl (by decide) rfl (fun ls hl => ?_)
    refine lv_lload hx hb dL_law_1382 (lv_at hl 0 rfl) ?_
    refine lv_aload_n hx hb dL_law_1384 rfl (lv_at hl 5 rfl) ?_
    refine lv_iload hx hb dL_law_1385 (lv_at hl 14 rfl) ?_
    refine z_lald (j := n9) hx hb hG hr1 ⟨by omega, by omega⟩ dL_law_1387 ?_
    refine z_topl (y := lN (zLn (zKd nw n9) (zSz nw n9))) (congrArg lN ((e1r _ hn9).trans (zRn_e hz0))) ?_
    refine z_roSX (As := [.long (lN (zLn (zimg (zSz nw n9) (zKd nw n9) (zSz nw n9)) (zSz nw n9))), .long (lN (zLn (zKd nw n9) (zSz nw n9)))]) (rest := []) S hG (c_L_unlike E (f := zimg (zSz nw n9) (zKd nw n9) (zSz nw n9)) (g := (zKd nw n9)) hs4 (zLn_k hb4.1 hk4) hk4) 2 gL_law_L_unlike rfl kL_unlike.2 ⟨Nat.le_of_ble_eq_true rfl, Nat.le_of_ble_eq_true rfl⟩ ⟨Nat.le_of_ble_eq_true rfl, Nat.le_of_ble_eq_true rfl⟩ (trivial) rfl hl.1 rfl rfl (Nat.le_of_ble_eq_true rfl) dL_law_1388 ?_
    refine z_top (y := nI (zdf (zSz nw n9) (zKd nw n9) (zSz nw n9) (zKd nw n9))) (rfl) ?_
    refine lv_istore (lv' := [(20, .int (nI (zdf (zSz nw n9) (zKd nw n9) (zSz nw n9) (zKd nw n9)))), (18, .long (lN (zLn (zimg (zSz nw n9) (zKd nw n9) (zSz nw n9)) (zSz nw n9)))), (17, .int (nI (w2))), (16, .int (nI (w1))), (0, .ref (b)), (1, .ref (ad 287)), (2, .ref (ra)), (3, .ref (ba)), (4, .ref (ga)), (5, .ref (ea)), (6, .ref (ca)), (7, .int (nI (zNl nw))), (8, .int (nI (i))), (9, .int (h9)), (10, .int (nI (18))), (11, .int (nI (n9))), (12, .int (nI (k9))), (13, .int (-1)), (14, .int (nI (1))), (15, .int (zfm (zfd (zSz nw) 6)))]) hx hb dL_law_1391 hl (by decide) rfl (fun ls hl => ?_)
    refine lv_iload hx hb dL_law_1393 (lv_at hl 14 rfl) ?_
    refine lv_bipush (v := nI (16)) hx hb dL_law_1395 (by decide) ?_
    refine z_cne (tgt := 1411) hx hb dL_law_1397 (by decide) ⟨by omega, by omega⟩ (fun c_21 => ?_) (fun c_21 => by exfalso; omega)
    refine lv_iload hx hb dL_law_1411 (lv_at hl 14 rfl) ?_
    refine lv_bipush (v := nI (17)) hx hb dL_law_1413 (by decide) ?_
    refine z_cne (tgt := 1429) hx hb dL_law_1415 (by decide) ⟨by omega, by omega⟩ (fun c_22 => ?_) (fun c_22 => by exfalso; omega)
    refine lv_aload_n hx hb dL_law_1429 rfl (lv_at hl 5 rfl) ?_
    refine lv_iload hx hb dL_law_1430 (lv_at hl 15 rfl) ?_
    refine z_wrV (As := [.int (nI (n9))]) (rest := []) (q := (RX5, TX5, 7)) S hG (c_X5_mirror_1 E (r := n9) hok hinj hct hn9 hz0) 1 gL_law_X5_mirror rfl kX5_mirror ⟨Nat.le_of_ble_eq_true rfl, Nat.le_of_ble_eq_true rfl⟩ ⟨Nat.le_of_ble_eq_true rfl, Nat.le_of_ble_eq_true rfl⟩ (hCW) rfl h5 rfl hl.1 rfl rfl (Nat.le_of_ble_eq_true rfl) dL_law_1432 hS (fun q h => hA1 q h) (fun Hn locs h_24 q_23 o_25 hS => ?_)
    have hz : Hn.size = H.size := q_23.trans hz
    have hCW := h_24
    have hr1 := va_at.kept hr1 (o_25 _ (hdis _ (Or.inl rfl)))
    have hr2 := va_at.kept hr2 (o_25 _ (hdis _ (Or.inr (Or.inl rfl))))
    have hr3 := va_at.kept hr3 (o_25 _ (hdis _ (Or.inr (Or.inr (Or.inl rfl)))))
    have hr4 := va_at.kept hr4 (o_25 _ (hdis _ (Or.inr (Or.inr (Or.inr (Or.inl rfl))))))
    have hr5 := va_at.kept hr5 (o_25 _ (hdis _ (Or.inr (Or.inr (Or.inr (Or.inr rfl))))))
    obtain ⟨f5, h5⟩ := zCW_recv hCW
    refine lv_iload hx hb dL_law_1435 (lv_at hl 0 rfl) ?_
    refine lv_icmp_ne (tgt := 1444) hx hb dL_law_1437 (by decide) (fun c_26 => by exfalso; exact c_26 rfl) (fun c_26 => ?_)
    refine lv_iconst (v := nI (1)) hx hb dL_law_1440 (by decide) ?_
    refine lv_goto (tgt := 1445) hx hb dL_law_1441 (by decide) ?_
    refine lv_istore (lv' := [(14, .int (nI (1))), (20, .int (nI (zdf (zSz nw n9) (zKd nw n9) (zSz nw n9) (zKd nw n9)))), (18, .long (lN (zLn (zimg (zSz nw n9) (zKd nw n9) (zSz nw n9)) (zSz nw n9)))), (17, .int (nI (w2))), (16, .int (nI (w1))), (0, .ref (b)), (1, .ref (ad 287)), (2, .ref (ra)), (3, .ref (ba)), (4, .ref (ga)), (5, .ref (ea)), (6, .ref (ca)), (7, .int (nI (zNl nw))), (8, .int (nI (i))), (9, .int (h9)), (10, .int (nI (18))), (11, .int (nI (n9))), (12, .int (nI (k9))), (13, .int (-1)), (15, .int (zfm (zfd (zSz nw) 6)))]) hx hb dL_law_1445 hl (by decide) rfl (fun ls hl => ?_)
    refine lv_aload_n hx hb dL_law_1447 rfl (lv_at hl 7 rfl) ?_
    refine lv_iload hx hb dL_law_1448 (lv_at hl 16 rfl) ?_
    refine lv_lload hx hb dL_law_1450 (lv_at hl 2 rfl) ?_
    refine z_last (j := n9) hx hb hG hr1 ⟨by omega, by omega⟩ hS (hge _ (Or.inl rfl)) dL_law_1452 (fun Hn locs h_27 o_28 hS => ?_)
    have hCW := zCW_kept hCW (fun q hq => o_28.2 q (fun e9 => hdis q (by rw [e9]; exact Or.inl rfl) hq))
    have hr1 := h_27
    have hr2 := va_at.kept hr2 (o_28.2 _ (by omega))
    have hr3 := va_at.kept hr3 (o_28.2 _ (by omega))
    have hr4 := va_at.kept hr4 (o_28.2 _ (by omega))
    have hr5 := va_at.kept hr5 (o_28.2 _ (by omega))
    obtain ⟨f5, h5⟩ := zCW_recv hCW
    have hz : Hn.size = H.size := o_28.1.trans hz
    refine lv_goto (tgt := 1734) hx hb dL_law_1453 (by decide) ?_
    exact kk (ztR (nw, sv, an, hh, ct, ln, cd) (zsRg nw n9 (zSz nw n9) (zpm (zimg (zSz nw n9) (zKd nw n9) (zSz nw n9)) (zKd nw n9) (zSz nw n9)))) (zun rr n9 (zLn (zimg (zSz nw n9) (zKd nw n9) (zSz nw n9)) (zSz nw n9))) (bb) (gg) (ee) (cc) _ _ ⟨zInv_r hv (zOk_rg hok hn9 (Or.inr hs4) (zpm_k2 (zLn_k hb4.1 hk4) hk4)), hCW, ⟨hr1, hr2, hr3, hr4, hr5⟩, zR_rg hrel hn9 (fun e9 => absurd e9 hz0) (fun _ => zL_pe.symm), hS⟩ n9 hn9 ls (lv_sub hl [5, 6, 7, 8, 9, 10, 11, 12, 13, 16, 0] rfl)

set_option maxHeartbeats 4000000 in
set_option maxRecDepth 100000 in
theorem lw_setMotif {p : Program} {e : Env} {s : State} {m : MethodId} {b L : Nat} {xs : Nat → Int32} {below : List Frame} {meth : Method} {c : Code} {E : zEnv} {ad : Nat → Nat} {ra ba ga ea ca : Nat} {Q : State → Prop} {i : Nat} (F : zLF E p s m c b L xs) (D : zLA ad ra ba ga ea ca s) (kk : zLJ p e s m b below meth c E ad ra ba ga ea ca Q i) {τ : zT} {rr : Nat → Nat} {bb gg : Nat → Int32} {ee : Nat → Nat} {cc : Nat → Int32} {H : Heap} {locs : List Loc} (hs : zLS E ad ra ba ga ea ca s τ rr bb gg ee cc H locs) {n9 k9 kd : Nat} {h9 : Int32} (hn9 : n9 < 6) (hk9 : 1 ≤ k9 ∧ k9 ≤ 5) (hr0 : ¬ zRn τ.1 n9 = 0) {ls : Array Slot} (hl : lv_has ls 22 [(0, .ref (b)), (1, .ref (ad 287)), (2, .ref (ra)), (3, .ref (ba)), (4, .ref (ga)), (5, .ref (ea)), (6, .ref (ca)), (7, .int (nI (zNl τ.1))), (8, .int (nI (i))), (9, .int (h9)), (10, .int (nI (kd))), (11, .int (nI (n9))), (12, .int (nI (k9))), (13, .int (-1)), (14, .int (nI (1))), (15, .int (zfm (zfd (zSz τ.1) 6)))]) : zLW p e s m b below meth c E Q H locs 1463 ls [] := by
  obtain ⟨S, hG, hX, hbl, hL⟩ := id F
  obtain ⟨hinj, hA1, hdis, hge, hd1, hd2, hd3, hd4⟩ := id D
  obtain ⟨hx, hb, hml9, hown, hts⟩ := id S
  have hbA : ¬ (fun q : Nat => s.heap.size ≤ q) b := Nat.not_le.mpr hbl
  obtain ⟨hv, hCW0, hRW, hrel, hS⟩ := hs
  obtain ⟨nw, sv, an, hh, ct, ln, cd⟩ := τ
  have hCW : zCW E ad nw sv an hh ct ln cd H := hCW0
  have hrel : zRel nw rr bb gg ee cc := hrel
  have hok : zOk nw := hv.1
  have hct : ct ≤ 5 := hv.2.2.2.1
  obtain ⟨hr1, hr2, hr3, hr4, hr5⟩ := id hRW
  obtain ⟨f5, h5⟩ := zCW_recv hCW
  obtain ⟨e1r, e2r, e3r, e4r, e5r⟩ := id hrel
  have hml := hok.2.2.2.1
  have hnl := hok.2.2.2.2.1
  have hz : H.size = H.size := rfl
  have hl : lv_has ls 22 [(0, .ref (b)), (1, .ref (ad 287)), (2, .ref (ra)), (3, .ref (ba)), (4, .ref (ga)), (5, .ref (ea)), (6, .ref (ca)), (7, .int (nI (zNl nw))), (8, .int (nI (i))), (9, .int (h9)), (10, .int (nI (kd))), (11, .int (nI (n9))), (12, .int (nI (k9))), (13, .int (-1)), (14, .int (nI (1))), (15, .int (zfm (zfd (zSz nw) 6)))] := hl
  have hz0 : zSz nw n9 ≠ 0 := zRn_1 hr0
  have hs4 := hok.s4 hn9 hz0
  have hk4 := hok.k4 hn9
  have hb4 := hs4.b
  have hq4 := hs4.q
  obtain ⟨sl, hsl0⟩ : ∃ y : Nat, y = zlw (h9 >>> (nI (11) &&& 31)) (zSz nw n9) := ⟨_, rfl⟩
  have hsl : sl < (zSz nw n9) := by rw [hsl0]; exact zlw_lt _ hb4.1
  obtain ⟨sn, hsn0⟩ : ∃ y : Nat, y = 1 + zlw (h9 >>> (nI (15) &&& 31)) 6 := ⟨_, rfl⟩
  have hsn : 1 ≤ sn ∧ sn ≤ 6 := by have h8 := zlw_lt (h9 >>> (nI (15) &&& 31)) (n := 6) (by decide); omega
  have hlf : ∀ s9, s9 < (zSz nw n9) → zk (zimg (zSz nw n9) (zKd nw n9) (zls (zSz nw n9) (zKd nw n9) 1) s9) := zLn_k hb4.1 hk4
  refine lv_aload_n hx hb dL_law_1463 rfl (lv_at hl 2 rfl) ?_
  refine lv_iload hx hb dL_law_1464 (lv_at hl 11 rfl) ?_
  refine z_lald (j := n9) hx hb hG hr1 ⟨by omega, by omega⟩ dL_law_1466 ?_
  refine z_topl (y := lN (zLn (zKd nw n9) (zSz nw n9))) (congrArg lN ((e1r _ hn9).trans (zRn_e hz0))) ?_
  refine lv_iconst (v := nI (1)) hx hb dL_law_1467 (by decide) ?_
  refine z_roSX (As := [.long (lN (zLn (zKd nw n9) (zSz nw n9))), .int (nI (1))]) (rest := []) S hG (c_L_least E (lv := 1) hs4 hk4 (by decide)) 2 gL_law_L_least rfl kL_least.2 ⟨Nat.le_of_ble_eq_true rfl, Nat.le_of_ble_eq_true rfl⟩ ⟨Nat.le_of_ble_eq_true rfl, Nat.le_of_ble_eq_true rfl⟩ (trivial) rfl hl.1 rfl rfl (Nat.le_of_ble_eq_true rfl) dL_law_1468 ?_
  refine z_topl (y := lN (zLn (zimg (zSz nw n9) (zKd nw n9) (zls (zSz nw n9) (zKd nw n9) 1)) (zSz nw n9))) (rfl) ?_
  refine lv_lstore (lv' := [(16, .long (lN (zLn (zimg (zSz nw n9) (zKd nw n9) (zls (zSz nw n9) (zKd nw n9) 1)) (zSz nw n9)))), (0, .ref (b)), (1, .ref (ad 287)), (2, .ref (ra)), (3, .ref (ba)), (4, .ref (ga)), (5, .ref (ea)), (6, .ref (ca)), (7, .int (nI (zNl nw))), (8, .int (nI (i))), (9, .int (h9)), (10, .int (nI (kd))), (11, .int (nI (n9))), (12, .int (nI (k9))), (13, .int (-1)), (14, .int (nI (1))), (15, .int (zfm (zfd (zSz nw) 6)))]) hx hb dL_law_1471 hl (by decide) rfl (fun ls hl => ?_)
  refine lv_iload hx hb dL_law_1473 (lv_at hl 10 rfl) ?_
  refine lv_bipush (v := nI (11)) hx hb dL_law_1475 (by decide) ?_
  refine lv_ishr hx hb dL_law_1477 ?_
  refine lv_lload hx hb dL_law_1478 (lv_at hl 0 rfl) ?_
  refine z_roSX (As := [.long (lN (zLn (zimg (zSz nw n9) (zKd nw n9) (zls (zSz nw n9) (zKd nw n9) 1)) (zSz nw n9)))]) (rest := [.int ((h9) >>> (nI (11) &&& 31))]) S hG (c_L_slots E (f := zimg (zSz nw n9) (zKd nw n9) (zls (zSz nw n9) (zKd nw n9) 1)) hs4 hlf) 1 gL_law_L_slots rfl kL_slots.2 ⟨Nat.le_of_ble_eq_true rfl, Nat.le_of_ble_eq_true rfl⟩ ⟨Nat.le_of_ble_eq_true rfl, Nat.le_of_ble_eq_true rfl⟩ (trivial) rfl hl.1 rfl rfl (Nat.le_of_ble_eq_true rfl) dL_law_1480 ?_
  refine z_roSX (As := [.int ((h9) >>> (nI (11) &&& 31)), .int (nI (zSz nw n9))]) (rest := []) S hG (c_L_low E (v := h9 >>> (nI (11) &&& 31)) (n := (zSz nw n9)) ⟨by omega, by omega⟩) 2 gL_law_L_low rfl kL_low.2 ⟨Nat.le_of_ble_eq_true rfl, Nat.le_of_ble_eq_true rfl⟩ ⟨Nat.le_of_ble_eq_true rfl, Nat.le_of_ble_eq_true rfl⟩ (trivial) rfl hl.1 rfl rfl (Nat.le_of_ble_eq_true rfl) dL_law_1483 ?_
  refine z_top (y := nI (sl)) (by rw [hsl0]) ?_
  refine lv_istore (lv' := [(18, .int (nI (sl))), (16, .long (lN (zLn (zimg (zSz nw n9) (zKd nw n9) (zls (zSz nw n9) (zKd nw n9) 1)) (zSz nw n9)))), (0, .ref (b)), (1, .ref (ad 287)), (2, .ref (ra)), (3, .ref (ba)), (4, .ref (ga)), (5, .ref (ea)), (6, .ref (ca)), (7, .int (nI (zNl nw))), (8, .int (nI (i))), (9, .int (h9)), (10, .int (nI (kd))), (11, .int (nI (n9))), (12, .int (nI (k9))), (13, .int (-1)), (14, .int (nI (1))), (15, .int (zfm (zfd (zSz nw) 6)))]) hx hb dL_law_1486 hl (by decide) rfl (fun ls hl => ?_)
  refine lv_iconst (v := nI (1)) hx hb dL_law_1488 (by decide) ?_
  refine lv_iload hx hb dL_law_1489 (lv_at hl 11 rfl) ?_
  refine lv_bipush (v := nI (15)) hx hb dL_law_1491 (by decide) ?_
  refine lv_ishr hx hb dL_law_1493 ?_
  refine lv_bipush (v := nI (6)) hx hb dL_law_1494 (by decide) ?_
  refine z_roSX (As := [.int ((h9) >>> (nI (15) &&& 31)), .int (nI (6))]) (rest := [.int (nI (1))]) S hG (c_L_low E (v := h9 >>> (nI (15) &&& 31)) (n := 6) ⟨by omega, by omega⟩) 2 gL_law_L_low rfl kL_low.2 ⟨Nat.le_of_ble_eq_true rfl, Nat.le_of_ble_eq_true rfl⟩ ⟨Nat.le_of_ble_eq_true rfl, Nat.le_of_ble_eq_true rfl⟩ (trivial) rfl hl.1 rfl rfl (Nat.le_of_ble_eq_true rfl) dL_law_1496 ?_
  refine z_iadd hx hb dL_law_1499 ?_
  refine z_top (y := nI (sn)) (by rw [hsn0]) ?_
  refine lv_istore (lv' := [(19, .int (nI (sn))), (18, .int (nI (sl))), (16, .long (lN (zLn (zimg (zSz nw n9) (zKd nw n9) (zls (zSz nw n9) (zKd nw n9) 1)) (zSz nw n9)))), (0, .ref (b)), (1, .ref (ad 287)), (2, .ref (ra)), (3, .ref (ba)), (4, .ref (ga)), (5, .ref (ea)), (6, .ref (ca)), (7, .int (nI (zNl nw))), (8, .int (nI (i))), (9, .int (h9)), (10, .int (nI (kd))), (11, .int (nI (n9))), (12, .int (nI (k9))), (13, .int (-1)), (14, .int (nI (1))), (15, .int (zfm (zfd (zSz nw) 6)))]) hx hb dL_law_1500 hl (by decide) rfl (fun ls hl => ?_)
  refine lv_iload hx hb dL_law_1502 (lv_at hl 0 rfl) ?_
  refine lv_lload hx hb dL_law_1504 (lv_at hl 2 rfl) ?_
  refine z_roSX (As := [.long (lN (zLn (zimg (zSz nw n9) (zKd nw n9) (zls (zSz nw n9) (zKd nw n9) 1)) (zSz nw n9)))]) (rest := [.int (nI (sn))]) S hG (c_L_slots E (f := zimg (zSz nw n9) (zKd nw n9) (zls (zSz nw n9) (zKd nw n9) 1)) hs4 hlf) 1 gL_law_L_slots rfl kL_slots.2 ⟨Nat.le_of_ble_eq_true rfl, Nat.le_of_ble_eq_true rfl⟩ ⟨Nat.le_of_ble_eq_true rfl, Nat.le_of_ble_eq_true rfl⟩ (trivial) rfl hl.1 rfl rfl (Nat.le_of_ble_eq_true rfl) dL_law_1506 ?_
  refine z_cgt (tgt := 1516) hx hb dL_law_1509 (by decide) ⟨by omega, by omega⟩ (fun c_1 => ?_) (fun c_1 => ?_)
  · refine lv_iconst (v := nI (0)) hx hb dL_law_1516 (by decide) ?_
    refine lv_istore (lv' := [(20, .int (nI (0))), (19, .int (nI (sn))), (18, .int (nI (sl))), (16, .long (lN (zLn (zimg (zSz nw n9) (zKd nw n9) (zls (zSz nw n9) (zKd nw n9) 1)) (zSz nw n9)))), (0, .ref (b)), (1, .ref (ad 287)), (2, .ref (ra)), (3, .ref (ba)), (4, .ref (ga)), (5, .ref (ea)), (6, .ref (ca)), (7, .int (nI (zNl nw))), (8, .int (nI (i))), (9, .int (h9)), (10, .int (nI (kd))), (11, .int (nI (n9))), (12, .int (nI (k9))), (13, .int (-1)), (14, .int (nI (1))), (15, .int (zfm (zfd (zSz nw) 6)))]) hx hb dL_law_1517 hl (by decide) rfl (fun ls hl => ?_)
    refine lv_iconst (v := nI (0)) hx hb dL_law_1519 (by decide) ?_
    refine lv_istore (lv' := [(21, .int (nI (0))), (20, .int (nI (0))), (19, .int (nI (sn))), (18, .int (nI (sl))), (16, .long (lN (zLn (zimg (zSz nw n9) (zKd nw n9) (zls (zSz nw n9) (zKd nw n9) 1)) (zSz nw n9)))), (0, .ref (b)), (1, .ref (ad 287)), (2, .ref (ra)), (3, .ref (ba)), (4, .ref (ga)), (5, .ref (ea)), (6, .ref (ca)), (7, .int (nI (zNl nw))), (8, .int (nI (i))), (9, .int (h9)), (10, .int (nI (kd))), (11, .int (nI (n9))), (12, .int (nI (k9))), (13, .int (-1)), (14, .int (nI (1))), (15, .int (zfm (zfd (zSz nw) 6)))]) hx hb dL_law_1520 hl (by decide) rfl (fun ls hl => ?_)
    have L1522 : ∀ (dd : Nat) (k : Nat), sn - k < dd → (k ≤ sn) → (k = 0 ∨ sn ≤ zSz nw n9) → ∀ (Hn : Heap) (locs : List Loc) (hS : va_S (fun q => s.heap.size ≤ q) s.heap Hn locs) (hz : Hn.size = H.size) (hCW : zCW E ad nw sv an hh ct ln cd Hn) (hr1 : zLo E ra 6 (rr) Hn) (hr2 : zat E ba (.inl (zI E, 10, .inl (bb))) Hn) (hr3 : zat E ga (.inl (zI E, 7, .inl (zgs gg (fun u => zimg (zSz nw n9) (zKd nw n9) (zls (zSz nw n9) (zKd nw n9) 1) ((sl + u) % (zSz nw n9))) sn (k)))) Hn) (hr4 : zLo E ea 10 ee Hn) (hr5 : zat E ca (.inl (zI E, 10, .inl cc)) Hn) (ls : Array Slot), lv_has ls 22 [(0, .ref (b)), (1, .ref (ad 287)), (2, .ref (ra)), (3, .ref (ba)), (4, .ref (ga)), (5, .ref (ea)), (6, .ref (ca)), (7, .int (nI (zNl nw))), (8, .int (nI (i))), (9, .int (h9)), (10, .int (nI (kd))), (11, .int (nI (n9))), (12, .int (nI (k9))), (13, .int (-1)), (14, .int (nI (1))), (15, .int (zfm (zfd (zSz nw) 6))), (16, .long (lN (zLn (zimg (zSz nw n9) (zKd nw n9) (zls (zSz nw n9) (zKd nw n9) 1)) (zSz nw n9)))), (18, .int (nI (sl))), (19, .int (nI (sn))), (20, .int (nI (0))), (21, .int (nI (k)))] → zLW p e s m b below meth c E Q Hn locs 1522 ls [] := by
      intro dd
      induction dd with
      | zero => intro k hdd; exact absurd hdd (Nat.not_lt_zero _)
      | succ dd ih1522 =>
        intro k hdd1522 hk6 hk0 Hn locs hS hz hCW hr1 hr2 hr3 hr4 hr5 ls hl
        obtain ⟨f5, h5⟩ := zCW_recv hCW
        refine lv_iload hx hb dL_law_1522 (lv_at hl 20 rfl) ?_
        refine lv_iload hx hb dL_law_1524 (lv_at hl 18 rfl) ?_
        refine z_cge (tgt := 1568) hx hb dL_law_1526 (by decide) ⟨by omega, by omega⟩ (fun c_2 => ?_) (fun c_2 => ?_)
        · refine lv_aload_n hx hb dL_law_1568 rfl (lv_at hl 1 rfl) ?_
          refine lv_iload hx hb dL_law_1569 (lv_at hl 11 rfl) ?_
          refine lv_iload hx hb dL_law_1571 (lv_at hl 17 rfl) ?_
          refine lv_iload hx hb dL_law_1573 (lv_at hl 18 rfl) ?_
          refine z_wrV (As := [.int (nI (n9)), .int (nI (sl)), .int (nI (sn))]) (rest := []) (q := (RX5, TX5, 7)) S hG (c_X5_setMotif_2 E (r := n9) (j := sl) (w := nI sn) hok hinj hct hn9 hz0 hsl (zin_n (Or.inr (by omega)) (by omega) (by omega) (by omega))) 3 gL_law_X5_setMotif rfl kX5_setMotif ⟨Nat.le_of_ble_eq_true rfl, Nat.le_of_ble_eq_true rfl⟩ ⟨Nat.le_of_ble_eq_true rfl, Nat.le_of_ble_eq_true rfl⟩ (hCW) rfl h5 rfl hl.1 rfl rfl (Nat.le_of_ble_eq_true rfl) dL_law_1575 hS (fun q h => hA1 q h) (fun Hn locs h_4 q_3 o_5 hS => ?_)
          have hz : Hn.size = H.size := q_3.trans hz
          have hCW := h_4
          have hr1 := va_at.kept hr1 (o_5 _ (hdis _ (Or.inl rfl)))
          have hr2 := va_at.kept hr2 (o_5 _ (hdis _ (Or.inr (Or.inl rfl))))
          have hr3 := va_at.kept hr3 (o_5 _ (hdis _ (Or.inr (Or.inr (Or.inl rfl)))))
          have hr4 := va_at.kept hr4 (o_5 _ (hdis _ (Or.inr (Or.inr (Or.inr (Or.inl rfl))))))
          have hr5 := va_at.kept hr5 (o_5 _ (hdis _ (Or.inr (Or.inr (Or.inr (Or.inr rfl))))))
          obtain ⟨f5, h5⟩ := zCW_recv hCW
          refine lv_iload hx hb dL_law_1578 (lv_at hl 19 rfl) ?_
          refine z_feq (tgt := 1598) hx hb dL_law_1580 (by decide) (by omega) (fun c_6 => ?_) (fun c_6 => by exfalso; omega)
          refine lv_bipush (v := (-2)) hx hb dL_law_1598 (by decide) ?_
          refine lv_icmp_ne (tgt := 1607) hx hb dL_law_1600 (by decide) (fun c_7 => by exfalso; exact c_7 rfl) (fun c_7 => ?_)
          refine lv_iconst (v := nI (1)) hx hb dL_law_1603 (by decide) ?_
          refine lv_goto (tgt := 1608) hx hb dL_law_1604 (by decide) ?_
          refine lv_istore (lv' := [(14, .int (nI (1))), (0, .ref (b)), (1, .ref (ad 287)), (2, .ref (ra)), (3, .ref (ba)), (4, .ref (ga)), (5, .ref (ea)), (6, .ref (ca)), (7, .int (nI (zNl nw))), (8, .int (nI (i))), (9, .int (h9)), (10, .int (nI (kd))), (11, .int (nI (n9))), (12, .int (nI (k9))), (13, .int (-1)), (15, .int (zfm (zfd (zSz nw) 6))), (16, .long (lN (zLn (zimg (zSz nw n9) (zKd nw n9) (zls (zSz nw n9) (zKd nw n9) 1)) (zSz nw n9)))), (18, .int (nI (sl))), (19, .int (nI (sn))), (20, .int (nI (0))), (21, .int (nI (k)))]) hx hb dL_law_1608 hl (by decide) rfl (fun ls hl => ?_)
          refine lv_goto (tgt := 1734) hx hb dL_law_1610 (by decide) ?_
          exact kk (nw, sv, an, hh, ct, ln, cd) (rr) (bb) (zgs gg (fun u => zimg (zSz nw n9) (zKd nw n9) (zls (zSz nw n9) (zKd nw n9) 1) ((sl + u) % (zSz nw n9))) sn (k)) (ee) (cc) _ _ ⟨hv, hCW, ⟨hr1, hr2, hr3, hr4, hr5⟩, (by rw [zgs_z (by omega)]; exact hrel), hS⟩ n9 hn9 ls (lv_sub hl [1, 2, 3, 4, 5, 6, 7, 8, 9, 12, 0] rfl)
        · refine lv_iload hx hb dL_law_1529 (lv_at hl 19 rfl) ?_
          refine z_feq (tgt := 1568) hx hb dL_law_1531 (by decide) (by omega) (fun c_8 => ?_) (fun c_8 => by exfalso; omega)
          refine lv_aload_n hx hb dL_law_1568 rfl (lv_at hl 1 rfl) ?_
          refine lv_iload hx hb dL_law_1569 (lv_at hl 11 rfl) ?_
          refine lv_iload hx hb dL_law_1571 (lv_at hl 17 rfl) ?_
          refine lv_iload hx hb dL_law_1573 (lv_at hl 18 rfl) ?_
          refine z_wrV (As := [.int (nI (n9)), .int (nI (sl)), .int (nI (sn))]) (rest := []) (q := (RX5, TX5, 7)) S hG (c_X5_setMotif_2 E (r := n9) (j := sl) (w := nI sn) hok hinj hct hn9 hz0 hsl (zin_n (Or.inr (by omega)) (by omega) (by omega) (by omega))) 3 gL_law_X5_setMotif rfl kX5_setMotif ⟨Nat.le_of_ble_eq_true rfl, Nat.le_of_ble_eq_true rfl⟩ ⟨Nat.le_of_ble_eq_true rfl, Nat.le_of_ble_eq_true rfl⟩ (hCW) rfl h5 rfl hl.1 rfl rfl (Nat.le_of_ble_eq_true rfl) dL_law_1575 hS (fun q h => hA1 q h) (fun Hn locs h_10 q_9 o_11 hS => ?_)
          have hz : Hn.size = H.size := q_9.trans hz
          have hCW := h_10
          have hr1 := va_at.kept hr1 (o_11 _ (hdis _ (Or.inl rfl)))
          have hr2 := va_at.kept hr2 (o_11 _ (hdis _ (Or.inr (Or.inl rfl))))
          have hr3 := va_at.kept hr3 (o_11 _ (hdis _ (Or.inr (Or.inr (Or.inl rfl)))))
          have hr4 := va_at.kept hr4 (o_11 _ (hdis _ (Or.inr (Or.inr (Or.inr (Or.inl rfl))))))
          have hr5 := va_at.kept hr5 (o_11 _ (hdis _ (Or.inr (Or.inr (Or.inr (Or.inr rfl))))))
          obtain ⟨f5, h5⟩ := zCW_recv hCW
          refine lv_iload hx hb dL_law_1578 (lv_at hl 19 rfl) ?_
          refine z_feq (tgt := 1598) hx hb dL_law_1580 (by decide) (by omega) (fun c_12 => ?_) (fun c_12 => by exfalso; omega)
          refine lv_bipush (v := (-2)) hx hb dL_law_1598 (by decide) ?_
          refine lv_icmp_ne (tgt := 1607) hx hb dL_law_1600 (by decide) (fun c_13 => by exfalso; exact c_13 rfl) (fun c_13 => ?_)
          refine lv_iconst (v := nI (1)) hx hb dL_law_1603 (by decide) ?_
          refine lv_goto (tgt := 1608) hx hb dL_law_1604 (by decide) ?_
          refine lv_istore (lv' := [(14, .int (nI (1))), (0, .ref (b)), (1, .ref (ad 287)), (2, .ref (ra)), (3, .ref (ba)), (4, .ref (ga)), (5, .ref (ea)), (6, .ref (ca)), (7, .int (nI (zNl nw))), (8, .int (nI (i))), (9, .int (h9)), (10, .int (nI (kd))), (11, .int (nI (n9))), (12, .int (nI (k9))), (13, .int (-1)), (15, .int (zfm (zfd (zSz nw) 6))), (16, .long (lN (zLn (zimg (zSz nw n9) (zKd nw n9) (zls (zSz nw n9) (zKd nw n9) 1)) (zSz nw n9)))), (18, .int (nI (sl))), (19, .int (nI (sn))), (20, .int (nI (0))), (21, .int (nI (k)))]) hx hb dL_law_1608 hl (by decide) rfl (fun ls hl => ?_)
          refine lv_goto (tgt := 1734) hx hb dL_law_1610 (by decide) ?_
          exact kk (nw, sv, an, hh, ct, ln, cd) (rr) (bb) (zgs gg (fun u => zimg (zSz nw n9) (zKd nw n9) (zls (zSz nw n9) (zKd nw n9) 1) ((sl + u) % (zSz nw n9))) sn (k)) (ee) (cc) _ _ ⟨hv, hCW, ⟨hr1, hr2, hr3, hr4, hr5⟩, (by rw [zgs_z (by omega)]; exact hrel), hS⟩ n9 hn9 ls (lv_sub hl [1, 2, 3, 4, 5, 6, 7, 8, 9, 12, 0] rfl)
    exact L1522 ((sn - (0)) + 1) (0) (Nat.lt_succ_self _) (Nat.zero_le _) (Or.inl rfl) _ _ hS hz (hCW) (hr1) (hr2) (by rw [← zgs_0]; exact hr3) (hr4) (hr5) ls (lv_sub hl [5, 6, 7, 8, 9, 10, 11, 12, 13, 14, 15, 16, 17, 18, 19, 20, 4, 3, 2, 1, 0] rfl)
  · refine lv_iconst (v := nI (1)) hx hb dL_law_1512 (by decide) ?_
    refine lv_goto (tgt := 1517) hx hb dL_law_1513 (by decide) ?_
    refine lv_istore (lv' := [(20, .int (nI (1))), (19, .int (nI (sn))), (18, .int (nI (sl))), (16, .long (lN (zLn (zimg (zSz nw n9) (zKd nw n9) (zls (zSz nw n9) (zKd nw n9) 1)) (zSz nw n9)))), (0, .ref (b)), (1, .ref (ad 287)), (2, .ref (ra)), (3, .ref (ba)), (4, .ref (ga)), (5, .ref (ea)), (6, .ref (ca)), (7, .int (nI (zNl nw))), (8, .int (nI (i))), (9, .int (h9)), (10, .int (nI (kd))), (11, .int (nI (n9))), (12, .int (nI (k9))), (13, .int (-1)), (14, .int (nI (1))), (15, .int (zfm (zfd (zSz nw) 6)))]) hx hb dL_law_1517 hl (by decide) rfl (fun ls hl => ?_)
    refine lv_iconst (v := nI (0)) hx hb dL_law_1519 (by decide) ?_
    refine lv_istore (lv' := [(21, .int (nI (0))), (20, .int (nI (1))), (19, .int (nI (sn))), (18, .int (nI (sl))), (16, .long (lN (zLn (zimg (zSz nw n9) (zKd nw n9) (zls (zSz nw n9) (zKd nw n9) 1)) (zSz nw n9)))), (0, .ref (b)), (1, .ref (ad 287)), (2, .ref (ra)), (3, .ref (ba)), (4, .ref (ga)), (5, .ref (ea)), (6, .ref (ca)), (7, .int (nI (zNl nw))), (8, .int (nI (i))), (9, .int (h9)), (10, .int (nI (kd))), (11, .int (nI (n9))), (12, .int (nI (k9))), (13, .int (-1)), (14, .int (nI (1))), (15, .int (zfm (zfd (zSz nw) 6)))]) hx hb dL_law_1520 hl (by decide) rfl (fun ls hl => ?_)
    have L1522 : ∀ (dd : Nat) (k : Nat), sn - k < dd → (k ≤ sn) → (k = 0 ∨ sn ≤ zSz nw n9) → ∀ (Hn : Heap) (locs : List Loc) (hS : va_S (fun q => s.heap.size ≤ q) s.heap Hn locs) (hz : Hn.size = H.size) (hCW : zCW E ad nw sv an hh ct ln cd Hn) (hr1 : zLo E ra 6 (rr) Hn) (hr2 : zat E ba (.inl (zI E, 10, .inl (bb))) Hn) (hr3 : zat E ga (.inl (zI E, 7, .inl (zgs gg (fun u => zimg (zSz nw n9) (zKd nw n9) (zls (zSz nw n9) (zKd nw n9) 1) ((sl + u) % (zSz nw n9))) sn (k)))) Hn) (hr4 : zLo E ea 10 ee Hn) (hr5 : zat E ca (.inl (zI E, 10, .inl cc)) Hn) (ls : Array Slot), lv_has ls 22 [(0, .ref (b)), (1, .ref (ad 287)), (2, .ref (ra)), (3, .ref (ba)), (4, .ref (ga)), (5, .ref (ea)), (6, .ref (ca)), (7, .int (nI (zNl nw))), (8, .int (nI (i))), (9, .int (h9)), (10, .int (nI (kd))), (11, .int (nI (n9))), (12, .int (nI (k9))), (13, .int (-1)), (14, .int (nI (1))), (15, .int (zfm (zfd (zSz nw) 6))), (16, .long (lN (zLn (zimg (zSz nw n9) (zKd nw n9) (zls (zSz nw n9) (zKd nw n9) 1)) (zSz nw n9)))), (18, .int (nI (sl))), (19, .int (nI (sn))), (20, .int (nI (1))), (21, .int (nI (k)))] → zLW p e s m b below meth c E Q Hn locs 1522 ls [] := by
      intro dd
      induction dd with
      | zero => intro k hdd; exact absurd hdd (Nat.not_lt_zero _)
      | succ dd ih1522 =>
        intro k hdd1522 hk6 hk0 Hn locs hS hz hCW hr1 hr2 hr3 hr4 hr5 ls hl
        obtain ⟨f5, h5⟩ := zCW_recv hCW
        refine lv_iload hx hb dL_law_1522 (lv_at hl 20 rfl) ?_
        refine lv_iload hx hb dL_law_1524 (lv_at hl 18 rfl) ?_
        refine z_cge (tgt := 1568) hx hb dL_law_1526 (by decide) ⟨by omega, by omega⟩ (fun c_14 => ?_) (fun c_14 => ?_)
        · refine lv_aload_n hx hb dL_law_1568 rfl (lv_at hl 1 rfl) ?_
          refine lv_iload hx hb dL_law_1569 (lv_at hl 11 rfl) ?_
          refine lv_iload hx hb dL_law_1571 (lv_at hl 17 rfl) ?_
          refine lv_iload hx hb dL_law_1573 (lv_at hl 18 rfl) ?_
          refine z_wrV (As := [.int (nI (n9)), .int (nI (sl)), .int (nI (sn))]) (rest := []) (q := (RX5, TX5, 7)) S hG (c_X5_setMotif_3 E (r := n9) (j := sl) (w := sn) hok hinj hct hn9 hz0 hsl ⟨hsn.1, hsn.2, by omega⟩) 3 gL_law_X5_setMotif rfl kX5_setMotif ⟨Nat.le_of_ble_eq_true rfl, Nat.le_of_ble_eq_true rfl⟩ ⟨Nat.le_of_ble_eq_true rfl, Nat.le_of_ble_eq_true rfl⟩ (hCW) rfl h5 rfl hl.1 rfl rfl (Nat.le_of_ble_eq_true rfl) dL_law_1575 hS (fun q h => hA1 q h) (fun Hn locs h_16 q_15 o_17 hS => ?_)
          have hz : Hn.size = H.size := q_15.trans hz
          have hCW := h_16
          have hr1 := va_at.kept hr1 (o_17 _ (hdis _ (Or.inl rfl)))
          have hr2 := va_at.kept hr2 (o_17 _ (hdis _ (Or.inr (Or.inl rfl))))
          have hr3 := va_at.kept hr3 (o_17 _ (hdis _ (Or.inr (Or.inr (Or.inl rfl)))))
          have hr4 := va_at.kept hr4 (o_17 _ (hdis _ (Or.inr (Or.inr (Or.inr (Or.inl rfl))))))
          have hr5 := va_at.kept hr5 (o_17 _ (hdis _ (Or.inr (Or.inr (Or.inr (Or.inr rfl))))))
          obtain ⟨f5, h5⟩ := zCW_recv hCW
          refine lv_iload hx hb dL_law_1578 (lv_at hl 19 rfl) ?_
          refine z_feq (tgt := 1598) hx hb dL_law_1580 (by decide) (by omega) (fun c_18 => by exfalso; omega) (fun c_18 => ?_)
          refine lv_aload hx hb dL_law_1583 (lv_at hl 4 rfl) ?_
          refine lv_aload_n hx hb dL_law_1585 rfl (lv_at hl 2 rfl) ?_
          refine lv_iload hx hb dL_law_1586 (lv_at hl 11 rfl) ?_
          refine z_lald (j := n9) hx hb hG hr1 ⟨by omega, by omega⟩ dL_law_1588 ?_
          refine z_topl (y := lN (zLn (zKd nw n9) (zSz nw n9))) (congrArg lN ((e1r _ hn9).trans (zRn_e hz0))) ?_
          refine z_roSX (As := [.ref (ga), .long (lN (zLn (zKd nw n9) (zSz nw n9)))]) (rest := [.int (zjb (zset (zmt sn (zpm (fun u => zimg (zSz nw n9) (zKd nw n9) (zls (zSz nw n9) (zKd nw n9) 1) ((sl + u) % (zSz nw n9))) (zSg nw) sn) (zSz nw n9) (zKd nw n9)) (zSz nw n9)))]) S hG (c_L_places E (ml := sn) (gg := zgs gg (fun u => zimg (zSz nw n9) (zKd nw n9) (zls (zSz nw n9) (zKd nw n9) 1) ((sl + u) % (zSz nw n9))) sn (k)) hs4 hk4 (by rw [show k = sn by omega]; exact zgs_6 hsn.2 hsn.1) hsn.2) 2 gL_law_L_places rfl kL_places.2 ⟨Nat.le_of_ble_eq_true rfl, Nat.le_of_ble_eq_true rfl⟩ ⟨Nat.le_of_ble_eq_true rfl, Nat.le_of_ble_eq_true rfl⟩ (hr3) rfl hl.1 rfl rfl (Nat.le_of_ble_eq_true rfl) dL_law_1589 ?_
          refine z_roSX (As := [.int (zset (zmt sn (zgs gg (fun u => zimg (zSz nw n9) (zKd nw n9) (zls (zSz nw n9) (zKd nw n9) 1) ((sl + u) % (zSz nw n9))) sn (k)) (zSz nw n9) (zKd nw n9)) (zSz nw n9))]) (rest := [.int (zjb (zset (zmt sn (zpm (fun u => zimg (zSz nw n9) (zKd nw n9) (zls (zSz nw n9) (zKd nw n9) 1) ((sl + u) % (zSz nw n9))) (zSg nw) sn) (zSz nw n9) (zKd nw n9)) (zSz nw n9)))]) S hG (c_L_ones E (x := zset (zmt sn (zgs gg (fun u => zimg (zSz nw n9) (zKd nw n9) (zls (zSz nw n9) (zKd nw n9) 1) ((sl + u) % (zSz nw n9))) sn (k)) (zSz nw n9) (zKd nw n9)) (zSz nw n9))) 1 gL_law_L_ones rfl kL_ones.2 ⟨Nat.le_of_ble_eq_true rfl, Nat.le_of_ble_eq_true rfl⟩ ⟨Nat.le_of_ble_eq_true rfl, Nat.le_of_ble_eq_true rfl⟩ (trivial) rfl hl.1 rfl rfl (Nat.le_of_ble_eq_true rfl) dL_law_1592 ?_
          refine lv_goto (tgt := 1600) hx hb dL_law_1595 (by decide) ?_
          refine lv_icmp_ne (tgt := 1607) hx hb dL_law_1600 (by decide) (fun c_19 => by exfalso; exact c_19 (by rw [zjb_bc _ hb4.2.1]; exact congrArg (fun z => zbc (zset z (zSz nw n9)) 16) (zmt_cg (ml := sn) (g := zpm (fun u => zimg (zSz nw n9) (zKd nw n9) (zls (zSz nw n9) (zKd nw n9) 1) ((sl + u) % (zSz nw n9))) (zSg nw) sn) (g' := zgs gg (fun u => zimg (zSz nw n9) (zKd nw n9) (zls (zSz nw n9) (zKd nw n9) 1) ((sl + u) % (zSz nw n9))) sn (k)) (fun k8 h8 => (if_pos h8).trans (zgs_k (gg := gg) (q := (fun u => zimg (zSz nw n9) (zKd nw n9) (zls (zSz nw n9) (zKd nw n9) 1) ((sl + u) % (zSz nw n9)))) (sn := sn) (t := k) (k := k8) (show k8 < k by omega)).symm)))) (fun c_19 => ?_)
          refine lv_iconst (v := nI (1)) hx hb dL_law_1603 (by decide) ?_
          refine lv_goto (tgt := 1608) hx hb dL_law_1604 (by decide) ?_
          refine lv_istore (lv' := [(14, .int (nI (1))), (0, .ref (b)), (1, .ref (ad 287)), (2, .ref (ra)), (3, .ref (ba)), (4, .ref (ga)), (5, .ref (ea)), (6, .ref (ca)), (7, .int (nI (zNl nw))), (8, .int (nI (i))), (9, .int (h9)), (10, .int (nI (kd))), (11, .int (nI (n9))), (12, .int (nI (k9))), (13, .int (-1)), (15, .int (zfm (zfd (zSz nw) 6))), (16, .long (lN (zLn (zimg (zSz nw n9) (zKd nw n9) (zls (zSz nw n9) (zKd nw n9) 1)) (zSz nw n9)))), (18, .int (nI (sl))), (19, .int (nI (sn))), (20, .int (nI (1))), (21, .int (nI (k)))]) hx hb dL_law_1608 hl (by decide) rfl (fun ls hl => ?_)
          refine lv_goto (tgt := 1734) hx hb dL_law_1610 (by decide) ?_
          exact kk (ztR (nw, sv, an, hh, ct, ln, cd) (zsMo nw sn (zpm (fun u => zimg (zSz nw n9) (zKd nw n9) (zls (zSz nw n9) (zKd nw n9) 1) ((sl + u) % (zSz nw n9))) (zSg nw) sn))) (rr) (bb) (zgs gg (fun u => zimg (zSz nw n9) (zKd nw n9) (zls (zSz nw n9) (zKd nw n9) 1) ((sl + u) % (zSz nw n9))) sn (k)) (ee) (cc) _ _ ⟨zInv_r hv (zOk_mo hok hsn.2), hCW, ⟨hr1, hr2, hr3, hr4, hr5⟩, (by rw [show k = sn by omega]; exact zR_mo hrel (zgs_6 hsn.2 hsn.1) (fun k8 h8 => (zgs_k h8).trans (if_pos h8).symm)), hS⟩ n9 hn9 ls (lv_sub hl [1, 2, 3, 4, 5, 6, 7, 8, 9, 12, 0] rfl)
        · refine lv_iload hx hb dL_law_1529 (lv_at hl 19 rfl) ?_
          refine z_feq (tgt := 1568) hx hb dL_law_1531 (by decide) (by omega) (fun c_20 => by exfalso; omega) (fun c_20 => ?_)
          refine lv_aload hx hb dL_law_1534 (lv_at hl 4 rfl) ?_
          refine lv_iload hx hb dL_law_1536 (lv_at hl 20 rfl) ?_
          refine lv_lload hx hb dL_law_1538 (lv_at hl 16 rfl) ?_
          refine lv_iload hx hb dL_law_1540 (lv_at hl 17 rfl) ?_
          refine lv_iload hx hb dL_law_1542 (lv_at hl 20 rfl) ?_
          refine z_iadd hx hb dL_law_1544 ?_
          refine lv_lload hx hb dL_law_1545 (lv_at hl 16 rfl) ?_
          refine z_roSX (As := [.long (lN (zLn (zimg (zSz nw n9) (zKd nw n9) (zls (zSz nw n9) (zKd nw n9) 1)) (zSz nw n9)))]) (rest := [.int (nI (sl + k)), .long (lN (zLn (zimg (zSz nw n9) (zKd nw n9) (zls (zSz nw n9) (zKd nw n9) 1)) (zSz nw n9))), .int (nI (k)), .ref (ga)]) S hG (c_L_slots E (f := zimg (zSz nw n9) (zKd nw n9) (zls (zSz nw n9) (zKd nw n9) 1)) hs4 hlf) 1 gL_law_L_slots rfl kL_slots.2 ⟨Nat.le_of_ble_eq_true rfl, Nat.le_of_ble_eq_true rfl⟩ ⟨Nat.le_of_ble_eq_true rfl, Nat.le_of_ble_eq_true rfl⟩ (trivial) rfl hl.1 rfl rfl (Nat.le_of_ble_eq_true rfl) dL_law_1547 ?_
          refine z_irem hx hb dL_law_1550 ⟨by omega, by omega, by omega⟩ ?_
          refine z_roSX (As := [.long (lN (zLn (zimg (zSz nw n9) (zKd nw n9) (zls (zSz nw n9) (zKd nw n9) 1)) (zSz nw n9))), .int (nI ((sl + k) % (zSz nw n9)))]) (rest := [.int (nI (k)), .ref (ga)]) S hG (c_L_kind E (f := zimg (zSz nw n9) (zKd nw n9) (zls (zSz nw n9) (zKd nw n9) 1)) (j := (sl + k) % (zSz nw n9)) hs4 hlf (Nat.mod_lt _ hb4.1)) 2 gL_law_L_kind rfl kL_kind.2 ⟨Nat.le_of_ble_eq_true rfl, Nat.le_of_ble_eq_true rfl⟩ ⟨Nat.le_of_ble_eq_true rfl, Nat.le_of_ble_eq_true rfl⟩ (trivial) rfl hl.1 rfl rfl (Nat.le_of_ble_eq_true rfl) dL_law_1551 ?_
          refine z_iast (j := k) hx hb hG hr3 ⟨by omega, by omega⟩ hS (hge _ (Or.inr (Or.inr (Or.inl rfl)))) dL_law_1554 (fun Hn locs h_21 o_22 hS => ?_)
          have hCW := zCW_kept hCW (fun q hq => o_22.2 q (fun e9 => hdis q (by rw [e9]; exact Or.inr (Or.inr (Or.inl rfl))) hq))
          have hr1 := va_at.kept hr1 (o_22.2 _ (by omega))
          have hr2 := va_at.kept hr2 (o_22.2 _ (by omega))
          have hr3 := h_21
          have hr4 := va_at.kept hr4 (o_22.2 _ (by omega))
          have hr5 := va_at.kept hr5 (o_22.2 _ (by omega))
          obtain ⟨f5, h5⟩ := zCW_recv hCW
          have hz : Hn.size = H.size := o_22.1.trans hz
          refine lv_aload hx hb dL_law_1555 (lv_at hl 4 rfl) ?_
          refine lv_bipush (v := nI (6)) hx hb dL_law_1557 (by decide) ?_
          refine lv_iload hx hb dL_law_1559 (lv_at hl 18 rfl) ?_
          refine z_iast (j := 6) hx hb hG hr3 ⟨by omega, by omega⟩ hS (hge _ (Or.inr (Or.inr (Or.inl rfl)))) dL_law_1561 (fun Hn locs h_23 o_24 hS => ?_)
          have hCW := zCW_kept hCW (fun q hq => o_24.2 q (fun e9 => hdis q (by rw [e9]; exact Or.inr (Or.inr (Or.inl rfl))) hq))
          have hr1 := va_at.kept hr1 (o_24.2 _ (by omega))
          have hr2 := va_at.kept hr2 (o_24.2 _ (by omega))
          have hr3 := h_23
          have hr4 := va_at.kept hr4 (o_24.2 _ (by omega))
          have hr5 := va_at.kept hr5 (o_24.2 _ (by omega))
          obtain ⟨f5, h5⟩ := zCW_recv hCW
          have hz : Hn.size = H.size := o_24.1.trans hz
          refine lv_iinc (v := nI (k + 1)) (lv' := [(21, .int (nI (k + 1))), (0, .ref (b)), (1, .ref (ad 287)), (2, .ref (ra)), (3, .ref (ba)), (4, .ref (ga)), (5, .ref (ea)), (6, .ref (ca)), (7, .int (nI (zNl nw))), (8, .int (nI (i))), (9, .int (h9)), (10, .int (nI (kd))), (11, .int (nI (n9))), (12, .int (nI (k9))), (13, .int (-1)), (14, .int (nI (1))), (15, .int (zfm (zfd (zSz nw) 6))), (16, .long (lN (zLn (zimg (zSz nw n9) (zKd nw n9) (zls (zSz nw n9) (zKd nw n9) 1)) (zSz nw n9)))), (18, .int (nI (sl))), (19, .int (nI (sn))), (20, .int (nI (1)))]) hx hb dL_law_1562 hl (k := 20) rfl (z_inc1 _) (by decide) rfl (fun ls hl => ?_)
          refine lv_goto (tgt := 1522) hx hb dL_law_1565 (by decide) ?_
          have hl9 := lv_sub hl [1, 2, 3, 4, 5, 6, 7, 8, 9, 10, 11, 12, 13, 14, 15, 16, 17, 18, 19, 20, 0] (l' := [(0, .ref (b)), (1, .ref (ad 287)), (2, .ref (ra)), (3, .ref (ba)), (4, .ref (ga)), (5, .ref (ea)), (6, .ref (ca)), (7, .int (nI (zNl nw))), (8, .int (nI (i))), (9, .int (h9)), (10, .int (nI (kd))), (11, .int (nI (n9))), (12, .int (nI (k9))), (13, .int (-1)), (14, .int (nI (1))), (15, .int (zfm (zfd (zSz nw) 6))), (16, .long (lN (zLn (zimg (zSz nw n9) (zKd nw n9) (zls (zSz nw n9) (zKd nw n9) 1)) (zSz nw n9)))), (18, .int (nI (sl))), (19, .int (nI (sn))), (20, .int (nI (1))), (21, .int (nI (k + 1)))]) rfl
          have e9_21 : (k + 1) = ((k + 1)) := by omega
          exact ih1522 (k + 1) (by omega) (by omega) (by omega) _ _ hS hz (hCW) (hr1) (hr2) (by rw [← zgs_s (by omega)]; exact hr3) (hr4) (hr5) ls (by rw [← e9_21]; exact hl9)
    exact L1522 ((sn - (0)) + 1) (0) (Nat.lt_succ_self _) (Nat.zero_le _) (Or.inl rfl) _ _ hS hz (hCW) (hr1) (hr2) (by rw [← zgs_0]; exact hr3) (hr4) (hr5) ls (lv_sub hl [5, 6, 7, 8, 9, 10, 11, 12, 13, 14, 15, 16, 17, 18, 19, 20, 4, 3, 2, 1, 0] rfl)

set_option maxHeartbeats 4000000 in
set_option maxRecDepth 100000 in
theorem lw_note {p : Program} {e : Env} {s : State} {m : MethodId} {b L : Nat} {xs : Nat → Int32} {below : List Frame} {meth : Method} {c : Code} {E : zEnv} {ad : Nat → Nat} {ra ba ga ea ca : Nat} {Q : State → Prop} {i : Nat} (F : zLF E p s m c b L xs) (D : zLA ad ra ba ga ea ca s) (kk : zLJ p e s m b below meth c E ad ra ba ga ea ca Q i) {τ : zT} {rr : Nat → Nat} {bb gg : Nat → Int32} {ee : Nat → Nat} {cc : Nat → Int32} {H : Heap} {locs : List Loc} (hs : zLS E ad ra ba ga ea ca s τ rr bb gg ee cc H locs) {n9 k9 kd : Nat} {h9 : Int32} (hn9 : n9 < 6) (hk9 : 1 ≤ k9 ∧ k9 ≤ 5) (hr0 : ¬ zRn τ.1 n9 = 0) {ls : Array Slot} (hl : lv_has ls 22 [(0, .ref (b)), (1, .ref (ad 287)), (2, .ref (ra)), (3, .ref (ba)), (4, .ref (ga)), (5, .ref (ea)), (6, .ref (ca)), (7, .int (nI (zNl τ.1))), (8, .int (nI (i))), (9, .int (h9)), (10, .int (nI (kd))), (11, .int (nI (n9))), (12, .int (nI (k9))), (13, .int (-1)), (14, .int (nI (1))), (15, .int (zfm (zfd (zSz τ.1) 6)))]) : zLW p e s m b below meth c E Q H locs 1613 ls [] := by
  obtain ⟨S, hG, hX, hbl, hL⟩ := id F
  obtain ⟨hinj, hA1, hdis, hge, hd1, hd2, hd3, hd4⟩ := id D
  obtain ⟨hx, hb, hml9, hown, hts⟩ := id S
  have hbA : ¬ (fun q : Nat => s.heap.size ≤ q) b := Nat.not_le.mpr hbl
  obtain ⟨hv, hCW0, hRW, hrel, hS⟩ := hs
  obtain ⟨nw, sv, an, hh, ct, ln, cd⟩ := τ
  have hCW : zCW E ad nw sv an hh ct ln cd H := hCW0
  have hrel : zRel nw rr bb gg ee cc := hrel
  have hok : zOk nw := hv.1
  have hct : ct ≤ 5 := hv.2.2.2.1
  obtain ⟨hr1, hr2, hr3, hr4, hr5⟩ := id hRW
  obtain ⟨f5, h5⟩ := zCW_recv hCW
  obtain ⟨e1r, e2r, e3r, e4r, e5r⟩ := id hrel
  have hml := hok.2.2.2.1
  have hnl := hok.2.2.2.2.1
  have hz : H.size = H.size := rfl
  have hl : lv_has ls 22 [(0, .ref (b)), (1, .ref (ad 287)), (2, .ref (ra)), (3, .ref (ba)), (4, .ref (ga)), (5, .ref (ea)), (6, .ref (ca)), (7, .int (nI (zNl nw))), (8, .int (nI (i))), (9, .int (h9)), (10, .int (nI (kd))), (11, .int (nI (n9))), (12, .int (nI (k9))), (13, .int (-1)), (14, .int (nI (1))), (15, .int (zfm (zfd (zSz nw) 6)))] := hl
  have hz0 : zSz nw n9 ≠ 0 := zRn_1 hr0
  have hs4 := hok.s4 hn9 hz0
  have hk4 := hok.k4 hn9
  have hb4 := hs4.b
  have hq4 := hs4.q
  have hle : zLe 1 (zSz nw n9) (zKd nw n9) < 2 ^ 51 := zLe_62 hs4 hk4
  refine lv_aload_n hx hb dL_law_1613 rfl (lv_at hl 2 rfl) ?_
  refine lv_iload hx hb dL_law_1614 (lv_at hl 11 rfl) ?_
  refine z_lald (j := n9) hx hb hG hr1 ⟨by omega, by omega⟩ dL_law_1616 ?_
  refine z_topl (y := lN (zLn (zKd nw n9) (zSz nw n9))) (congrArg lN ((e1r _ hn9).trans (zRn_e hz0))) ?_
  refine lv_iconst (v := nI (1)) hx hb dL_law_1617 (by decide) ?_
  refine z_roSX (As := [.long (lN (zLn (zKd nw n9) (zSz nw n9))), .int (nI (1))]) (rest := []) S hG (c_L_least E (lv := 1) hs4 hk4 (by decide)) 2 gL_law_L_least rfl kL_least.2 ⟨Nat.le_of_ble_eq_true rfl, Nat.le_of_ble_eq_true rfl⟩ ⟨Nat.le_of_ble_eq_true rfl, Nat.le_of_ble_eq_true rfl⟩ (trivial) rfl hl.1 rfl rfl (Nat.le_of_ble_eq_true rfl) dL_law_1618 ?_
  refine lv_lstore (lv' := [(16, .long (lN (zLe 1 (zSz nw n9) (zKd nw n9)))), (0, .ref (b)), (1, .ref (ad 287)), (2, .ref (ra)), (3, .ref (ba)), (4, .ref (ga)), (5, .ref (ea)), (6, .ref (ca)), (7, .int (nI (zNl nw))), (8, .int (nI (i))), (9, .int (h9)), (10, .int (nI (kd))), (11, .int (nI (n9))), (12, .int (nI (k9))), (13, .int (-1)), (14, .int (nI (1))), (15, .int (zfm (zfd (zSz nw) 6)))]) hx hb dL_law_1621 hl (by decide) rfl (fun ls hl => ?_)
  refine lv_iconst (v := nI (0)) hx hb dL_law_1623 (by decide) ?_
  refine lv_istore (lv' := [(18, .int (nI (0))), (16, .long (lN (zLe 1 (zSz nw n9) (zKd nw n9)))), (0, .ref (b)), (1, .ref (ad 287)), (2, .ref (ra)), (3, .ref (ba)), (4, .ref (ga)), (5, .ref (ea)), (6, .ref (ca)), (7, .int (nI (zNl nw))), (8, .int (nI (i))), (9, .int (h9)), (10, .int (nI (kd))), (11, .int (nI (n9))), (12, .int (nI (k9))), (13, .int (-1)), (14, .int (nI (1))), (15, .int (zfm (zfd (zSz nw) 6)))]) hx hb dL_law_1624 hl (by decide) rfl (fun ls hl => ?_)
  have L1626 : ∀ (dd : Nat) (k : Nat), zNl nw - k < dd → (k ≤ zNl nw) → (∀ t, t < k → (fun t => zal (zSz nw (6 + t)) (zKd nw (6 + t)) (zSz nw n9) (zKd nw n9) 1) t = false) → ∀ (ls : Array Slot), lv_has ls 22 [(0, .ref (b)), (1, .ref (ad 287)), (2, .ref (ra)), (3, .ref (ba)), (4, .ref (ga)), (5, .ref (ea)), (6, .ref (ca)), (7, .int (nI (zNl nw))), (8, .int (nI (i))), (9, .int (h9)), (10, .int (nI (kd))), (11, .int (nI (n9))), (12, .int (nI (k9))), (13, .int (-1)), (14, .int (nI (1))), (15, .int (zfm (zfd (zSz nw) 6))), (16, .long (lN (zLe 1 (zSz nw n9) (zKd nw n9)))), (18, .int (nI (k)))] → zLW p e s m b below meth c E Q H locs 1626 ls [] := by
    intro dd
    induction dd with
    | zero => intro k hdd; exact absurd hdd (Nat.not_lt_zero _)
    | succ dd ih1626 =>
      intro k hdd1626 hkn hno ls hl
      refine lv_iload hx hb dL_law_1626 (lv_at hl 17 rfl) ?_
      refine lv_iload hx hb dL_law_1628 (lv_at hl 7 rfl) ?_
      refine z_cge (tgt := 1650) hx hb dL_law_1630 (by decide) ⟨by omega, by omega⟩ (fun c_1 => ?_) (fun c_1 => ?_)
      · have hfo : k < zNl nw → zLe 1 (zSz nw (6 + k)) (zKd nw (6 + k)) = zLe 1 (zSz nw n9) (zKd nw n9) := fun h8 => by omega
        rcases (show (k = zNl nw ∧ k = 10) ∨ (k = zNl nw ∧ k < 10) ∨ k < zNl nw by omega) with q1 | q1 | q1
        · have he : zff (fun t => zal (zSz nw (6 + t)) (zKd nw (6 + t)) (zSz nw n9) (zKd nw n9) 1) (zNl nw) = 10 := by rw [zff_no (fun t h8 => hno t (by omega))]; omega
          refine lv_aload_n hx hb dL_law_1650 rfl (lv_at hl 1 rfl) ?_
          refine lv_iload hx hb dL_law_1651 (lv_at hl 11 rfl) ?_
          refine z_wrV (As := [.int (nI (n9))]) (rest := []) (q := (RX5, TX5, 7)) S hG (c_X5_note_1 E (r := n9) hok hinj hct hn9 hz0 he) 1 gL_law_X5_note rfl kX5_note ⟨Nat.le_of_ble_eq_true rfl, Nat.le_of_ble_eq_true rfl⟩ ⟨Nat.le_of_ble_eq_true rfl, Nat.le_of_ble_eq_true rfl⟩ (hCW) rfl h5 rfl hl.1 rfl rfl (Nat.le_of_ble_eq_true rfl) dL_law_1653 hS (fun q h => hA1 q h) (fun Hn locs h_3 q_2 o_4 hS => ?_)
          have hz : Hn.size = H.size := q_2.trans hz
          have hCW := h_3
          have hr1 := va_at.kept hr1 (o_4 _ (hdis _ (Or.inl rfl)))
          have hr2 := va_at.kept hr2 (o_4 _ (hdis _ (Or.inr (Or.inl rfl))))
          have hr3 := va_at.kept hr3 (o_4 _ (hdis _ (Or.inr (Or.inr (Or.inl rfl)))))
          have hr4 := va_at.kept hr4 (o_4 _ (hdis _ (Or.inr (Or.inr (Or.inr (Or.inl rfl))))))
          have hr5 := va_at.kept hr5 (o_4 _ (hdis _ (Or.inr (Or.inr (Or.inr (Or.inr rfl))))))
          obtain ⟨f5, h5⟩ := zCW_recv hCW
          refine lv_iload hx hb dL_law_1656 (lv_at hl 17 rfl) ?_
          refine lv_bipush (v := nI (10)) hx hb dL_law_1658 (by decide) ?_
          refine z_cne (tgt := 1668) hx hb dL_law_1660 (by decide) ⟨by omega, by omega⟩ (fun c_5 => by exfalso; omega) (fun c_5 => ?_)
          refine lv_bipush (v := (-4)) hx hb dL_law_1663 (by decide) ?_
          refine lv_goto (tgt := 1670) hx hb dL_law_1665 (by decide) ?_
          refine lv_icmp_ne (tgt := 1677) hx hb dL_law_1670 (by decide) (fun c_6 => by exfalso; exact c_6 rfl) (fun c_6 => ?_)
          refine lv_iconst (v := nI (1)) hx hb dL_law_1673 (by decide) ?_
          refine lv_goto (tgt := 1678) hx hb dL_law_1674 (by decide) ?_
          refine lv_istore (lv' := [(14, .int (nI (1))), (0, .ref (b)), (1, .ref (ad 287)), (2, .ref (ra)), (3, .ref (ba)), (4, .ref (ga)), (5, .ref (ea)), (6, .ref (ca)), (7, .int (nI (zNl nw))), (8, .int (nI (i))), (9, .int (h9)), (10, .int (nI (kd))), (11, .int (nI (n9))), (12, .int (nI (k9))), (13, .int (-1)), (15, .int (zfm (zfd (zSz nw) 6))), (16, .long (lN (zLe 1 (zSz nw n9) (zKd nw n9)))), (18, .int (nI (k)))]) hx hb dL_law_1678 hl (by decide) rfl (fun ls hl => ?_)
          refine lv_iload hx hb dL_law_1680 (lv_at hl 17 rfl) ?_
          refine lv_bipush (v := nI (10)) hx hb dL_law_1682 (by decide) ?_
          refine z_cge (tgt := 1734) hx hb dL_law_1684 (by decide) ⟨by omega, by omega⟩ (fun c_7 => ?_) (fun c_7 => by exfalso; omega)
          exact kk (nw, sv, an, hh, ct, ln, cd) (rr) (bb) (gg) (ee) (cc) _ _ ⟨hv, hCW, ⟨hr1, hr2, hr3, hr4, hr5⟩, hrel, hS⟩ n9 hn9 ls (lv_sub hl [1, 2, 3, 4, 5, 6, 7, 8, 9, 12, 0] rfl)
        · obtain ⟨q2, q3⟩ := q1
          subst q2
          have he : zff (fun t => zal (zSz nw (6 + t)) (zKd nw (6 + t)) (zSz nw n9) (zKd nw n9) 1) (zNl nw) = zNl nw := zff_no (fun t h8 => hno t h8)
          refine lv_aload_n hx hb dL_law_1650 rfl (lv_at hl 1 rfl) ?_
          refine lv_iload hx hb dL_law_1651 (lv_at hl 11 rfl) ?_
          refine z_wrV (As := [.int (nI (n9))]) (rest := []) (q := (RX5, TX5, 7)) S hG (c_X5_note_3 E (r := n9) (en := zNl nw) hok hinj hct hn9 hz0 he ⟨rfl, q3⟩) 1 gL_law_X5_note rfl kX5_note ⟨Nat.le_of_ble_eq_true rfl, Nat.le_of_ble_eq_true rfl⟩ ⟨Nat.le_of_ble_eq_true rfl, Nat.le_of_ble_eq_true rfl⟩ (hCW) rfl h5 rfl hl.1 rfl rfl (Nat.le_of_ble_eq_true rfl) dL_law_1653 hS (fun q h => hA1 q h) (fun Hn locs h_9 q_8 o_10 hS => ?_)
          have hz : Hn.size = H.size := q_8.trans hz
          have hCW := h_9
          have hr1 := va_at.kept hr1 (o_10 _ (hdis _ (Or.inl rfl)))
          have hr2 := va_at.kept hr2 (o_10 _ (hdis _ (Or.inr (Or.inl rfl))))
          have hr3 := va_at.kept hr3 (o_10 _ (hdis _ (Or.inr (Or.inr (Or.inl rfl)))))
          have hr4 := va_at.kept hr4 (o_10 _ (hdis _ (Or.inr (Or.inr (Or.inr (Or.inl rfl))))))
          have hr5 := va_at.kept hr5 (o_10 _ (hdis _ (Or.inr (Or.inr (Or.inr (Or.inr rfl))))))
          obtain ⟨f5, h5⟩ := zCW_recv hCW
          refine lv_iload hx hb dL_law_1656 (lv_at hl 17 rfl) ?_
          refine lv_bipush (v := nI (10)) hx hb dL_law_1658 (by decide) ?_
          refine z_cne (tgt := 1668) hx hb dL_law_1660 (by decide) ⟨by omega, by omega⟩ (fun c_11 => ?_) (fun c_11 => by exfalso; omega)
          refine lv_iload hx hb dL_law_1668 (lv_at hl 17 rfl) ?_
          refine lv_icmp_ne (tgt := 1677) hx hb dL_law_1670 (by decide) (fun c_12 => by exfalso; exact c_12 rfl) (fun c_12 => ?_)
          refine lv_iconst (v := nI (1)) hx hb dL_law_1673 (by decide) ?_
          refine lv_goto (tgt := 1678) hx hb dL_law_1674 (by decide) ?_
          refine lv_istore (lv' := [(14, .int (nI (1))), (0, .ref (b)), (1, .ref (ad 287)), (2, .ref (ra)), (3, .ref (ba)), (4, .ref (ga)), (5, .ref (ea)), (6, .ref (ca)), (7, .int (nI (zNl nw))), (8, .int (nI (i))), (9, .int (h9)), (10, .int (nI (kd))), (11, .int (nI (n9))), (12, .int (nI (k9))), (13, .int (-1)), (15, .int (zfm (zfd (zSz nw) 6))), (16, .long (lN (zLe 1 (zSz nw n9) (zKd nw n9)))), (18, .int (nI (zNl nw)))]) hx hb dL_law_1678 hl (by decide) rfl (fun ls hl => ?_)
          refine lv_iload hx hb dL_law_1680 (lv_at hl 17 rfl) ?_
          refine lv_bipush (v := nI (10)) hx hb dL_law_1682 (by decide) ?_
          refine z_cge (tgt := 1734) hx hb dL_law_1684 (by decide) ⟨by omega, by omega⟩ (fun c_13 => by exfalso; omega) (fun c_13 => ?_)
          refine lv_aload hx hb dL_law_1687 (lv_at hl 6 rfl) ?_
          refine lv_iload hx hb dL_law_1689 (lv_at hl 17 rfl) ?_
          refine lv_lload hx hb dL_law_1691 (lv_at hl 16 rfl) ?_
          refine z_last (j := zNl nw) hx hb hG hr4 ⟨by omega, by omega⟩ hS (hge _ (Or.inr (Or.inr (Or.inr (Or.inl rfl))))) dL_law_1693 (fun Hn locs h_14 o_15 hS => ?_)
          have hCW := zCW_kept hCW (fun q hq => o_15.2 q (fun e9 => hdis q (by rw [e9]; exact Or.inr (Or.inr (Or.inr (Or.inl rfl)))) hq))
          have hr1 := va_at.kept hr1 (o_15.2 _ (by omega))
          have hr2 := va_at.kept hr2 (o_15.2 _ (by omega))
          have hr3 := va_at.kept hr3 (o_15.2 _ (by omega))
          have hr4 := h_14
          have hr5 := va_at.kept hr5 (o_15.2 _ (by omega))
          obtain ⟨f5, h5⟩ := zCW_recv hCW
          have hz : Hn.size = H.size := o_15.1.trans hz
          refine lv_aload hx hb dL_law_1694 (lv_at hl 7 rfl) ?_
          refine lv_iload hx hb dL_law_1696 (lv_at hl 17 rfl) ?_
          refine lv_iload hx hb dL_law_1698 (lv_at hl 17 rfl) ?_
          refine lv_iload hx hb dL_law_1700 (lv_at hl 8 rfl) ?_
          refine z_cne (tgt := 1709) hx hb dL_law_1702 (by decide) ⟨by omega, by omega⟩ (fun c_16 => by exfalso; exact c_16 rfl) (fun c_16 => ?_)
          refine lv_iconst (v := nI (1)) hx hb dL_law_1705 (by decide) ?_
          refine lv_goto (tgt := 1716) hx hb dL_law_1706 (by decide) ?_
          refine z_iast (j := zNl nw) hx hb hG hr5 ⟨by omega, by omega⟩ hS (hge _ (Or.inr (Or.inr (Or.inr (Or.inr rfl))))) dL_law_1716 (fun Hn locs h_17 o_18 hS => ?_)
          have hCW := zCW_kept hCW (fun q hq => o_18.2 q (fun e9 => hdis q (by rw [e9]; exact Or.inr (Or.inr (Or.inr (Or.inr rfl)))) hq))
          have hr1 := va_at.kept hr1 (o_18.2 _ (by omega))
          have hr2 := va_at.kept hr2 (o_18.2 _ (by omega))
          have hr3 := va_at.kept hr3 (o_18.2 _ (by omega))
          have hr4 := va_at.kept hr4 (o_18.2 _ (by omega))
          have hr5 := h_17
          obtain ⟨f5, h5⟩ := zCW_recv hCW
          have hz : Hn.size = H.size := o_18.1.trans hz
          refine lv_iload hx hb dL_law_1717 (lv_at hl 8 rfl) ?_
          refine lv_iload hx hb dL_law_1719 (lv_at hl 17 rfl) ?_
          refine lv_iload hx hb dL_law_1721 (lv_at hl 8 rfl) ?_
          refine z_cne (tgt := 1730) hx hb dL_law_1723 (by decide) ⟨by omega, by omega⟩ (fun c_19 => by exfalso; exact c_19 rfl) (fun c_19 => ?_)
          refine lv_iconst (v := nI (1)) hx hb dL_law_1726 (by decide) ?_
          refine lv_goto (tgt := 1731) hx hb dL_law_1727 (by decide) ?_
          refine z_iadd hx hb dL_law_1731 ?_
          refine lv_istore (lv' := [(7, .int (nI ((zNl nw) + 1))), (14, .int (nI (1))), (0, .ref (b)), (1, .ref (ad 287)), (2, .ref (ra)), (3, .ref (ba)), (4, .ref (ga)), (5, .ref (ea)), (6, .ref (ca)), (8, .int (nI (i))), (9, .int (h9)), (10, .int (nI (kd))), (11, .int (nI (n9))), (12, .int (nI (k9))), (13, .int (-1)), (15, .int (zfm (zfd (zSz nw) 6))), (16, .long (lN (zLe 1 (zSz nw n9) (zKd nw n9)))), (18, .int (nI (zNl nw)))]) hx hb dL_law_1732 hl (by decide) rfl (fun ls hl => ?_)
          exact kk (ztR (nw, sv, an, hh, ct, ln, cd) (zsTm (zsNl (zsRg nw (6 + zNl nw) (zSz nw n9) (zKd nw n9)) (zNl nw + 1)) (upd (upd (zTm nw) (zNl nw) (nI 0)) (zNl nw) ((upd (zTm nw) (zNl nw) (nI 0)) (zNl nw) + nI 1)))) (rr) (bb) (gg) (zun ee (zNl nw) (zLe 1 (zSz nw n9) (zKd nw n9))) (upd cc (zNl nw) (nI (1))) _ _ ⟨zInv_r hv (zOk_nl hok q3 hs4 hk4), hCW, ⟨hr1, hr2, hr3, hr4, hr5⟩, zR_nl hrel rfl, hS⟩ n9 hn9 ls (lv_sub hl [2, 3, 4, 5, 6, 7, 8, 0, 9, 12, 1] rfl)
        · have hy : (fun t => zal (zSz nw (6 + t)) (zKd nw (6 + t)) (zSz nw n9) (zKd nw n9) 1) k = true := (zAL (hok.2.2.2.2.2 k q1).1 hs4 (hok.2.2.2.2.2 k q1).2 hk4 (by decide)).mp (hfo q1)
          have he : zff (fun t => zal (zSz nw (6 + t)) (zKd nw (6 + t)) (zSz nw n9) (zKd nw n9) 1) (zNl nw) = k := zff_is q1 hno hy
          refine lv_aload_n hx hb dL_law_1650 rfl (lv_at hl 1 rfl) ?_
          refine lv_iload hx hb dL_law_1651 (lv_at hl 11 rfl) ?_
          refine z_wrV (As := [.int (nI (n9))]) (rest := []) (q := (RX5, TX5, 7)) S hG (c_X5_note_2 E (r := n9) (en := k) hok hinj hct hn9 hz0 he q1) 1 gL_law_X5_note rfl kX5_note ⟨Nat.le_of_ble_eq_true rfl, Nat.le_of_ble_eq_true rfl⟩ ⟨Nat.le_of_ble_eq_true rfl, Nat.le_of_ble_eq_true rfl⟩ (hCW) rfl h5 rfl hl.1 rfl rfl (Nat.le_of_ble_eq_true rfl) dL_law_1653 hS (fun q h => hA1 q h) (fun Hn locs h_21 q_20 o_22 hS => ?_)
          have hz : Hn.size = H.size := q_20.trans hz
          have hCW := h_21
          have hr1 := va_at.kept hr1 (o_22 _ (hdis _ (Or.inl rfl)))
          have hr2 := va_at.kept hr2 (o_22 _ (hdis _ (Or.inr (Or.inl rfl))))
          have hr3 := va_at.kept hr3 (o_22 _ (hdis _ (Or.inr (Or.inr (Or.inl rfl)))))
          have hr4 := va_at.kept hr4 (o_22 _ (hdis _ (Or.inr (Or.inr (Or.inr (Or.inl rfl))))))
          have hr5 := va_at.kept hr5 (o_22 _ (hdis _ (Or.inr (Or.inr (Or.inr (Or.inr rfl))))))
          obtain ⟨f5, h5⟩ := zCW_recv hCW
          refine lv_iload hx hb dL_law_1656 (lv_at hl 17 rfl) ?_
          refine lv_bipush (v := nI (10)) hx hb dL_law_1658 (by decide) ?_
          refine z_cne (tgt := 1668) hx hb dL_law_1660 (by decide) ⟨by omega, by omega⟩ (fun c_23 => ?_) (fun c_23 => by exfalso; omega)
          refine lv_iload hx hb dL_law_1668 (lv_at hl 17 rfl) ?_
          refine lv_icmp_ne (tgt := 1677) hx hb dL_law_1670 (by decide) (fun c_24 => by exfalso; exact c_24 rfl) (fun c_24 => ?_)
          refine lv_iconst (v := nI (1)) hx hb dL_law_1673 (by decide) ?_
          refine lv_goto (tgt := 1678) hx hb dL_law_1674 (by decide) ?_
          refine lv_istore (lv' := [(14, .int (nI (1))), (0, .ref (b)), (1, .ref (ad 287)), (2, .ref (ra)), (3, .ref (ba)), (4, .ref (ga)), (5, .ref (ea)), (6, .ref (ca)), (7, .int (nI (zNl nw))), (8, .int (nI (i))), (9, .int (h9)), (10, .int (nI (kd))), (11, .int (nI (n9))), (12, .int (nI (k9))), (13, .int (-1)), (15, .int (zfm (zfd (zSz nw) 6))), (16, .long (lN (zLe 1 (zSz nw n9) (zKd nw n9)))), (18, .int (nI (k)))]) hx hb dL_law_1678 hl (by decide) rfl (fun ls hl => ?_)
          refine lv_iload hx hb dL_law_1680 (lv_at hl 17 rfl) ?_
          refine lv_bipush (v := nI (10)) hx hb dL_law_1682 (by decide) ?_
          refine z_cge (tgt := 1734) hx hb dL_law_1684 (by decide) ⟨by omega, by omega⟩ (fun c_25 => by exfalso; omega) (fun c_25 => ?_)
          refine lv_aload hx hb dL_law_1687 (lv_at hl 6 rfl) ?_
          refine lv_iload hx hb dL_law_1689 (lv_at hl 17 rfl) ?_
          refine lv_lload hx hb dL_law_1691 (lv_at hl 16 rfl) ?_
          refine z_last (j := k) hx hb hG hr4 ⟨by omega, by omega⟩ hS (hge _ (Or.inr (Or.inr (Or.inr (Or.inl rfl))))) dL_law_1693 (fun Hn locs h_26 o_27 hS => ?_)
          have hCW := zCW_kept hCW (fun q hq => o_27.2 q (fun e9 => hdis q (by rw [e9]; exact Or.inr (Or.inr (Or.inr (Or.inl rfl)))) hq))
          have hr1 := va_at.kept hr1 (o_27.2 _ (by omega))
          have hr2 := va_at.kept hr2 (o_27.2 _ (by omega))
          have hr3 := va_at.kept hr3 (o_27.2 _ (by omega))
          have hr4 := h_26
          have hr5 := va_at.kept hr5 (o_27.2 _ (by omega))
          obtain ⟨f5, h5⟩ := zCW_recv hCW
          have hz : Hn.size = H.size := o_27.1.trans hz
          refine lv_aload hx hb dL_law_1694 (lv_at hl 7 rfl) ?_
          refine lv_iload hx hb dL_law_1696 (lv_at hl 17 rfl) ?_
          refine lv_iload hx hb dL_law_1698 (lv_at hl 17 rfl) ?_
          refine lv_iload hx hb dL_law_1700 (lv_at hl 8 rfl) ?_
          refine z_cne (tgt := 1709) hx hb dL_law_1702 (by decide) ⟨by omega, by omega⟩ (fun c_28 => ?_) (fun c_28 => by exfalso; omega)
          refine lv_aload hx hb dL_law_1709 (lv_at hl 7 rfl) ?_
          refine lv_iload hx hb dL_law_1711 (lv_at hl 17 rfl) ?_
          refine z_iald (j := k) hx hb hG hr5 ⟨by omega, by omega⟩ dL_law_1713 ?_
          refine z_top (y := (cc k)) (rfl) ?_
          refine lv_iconst (v := nI (1)) hx hb dL_law_1714 (by decide) ?_
          refine lv_iadd hx hb dL_law_1715 ?_
          refine z_iast (j := k) hx hb hG hr5 ⟨by omega, by omega⟩ hS (hge _ (Or.inr (Or.inr (Or.inr (Or.inr rfl))))) dL_law_1716 (fun Hn locs h_29 o_30 hS => ?_)
          have hCW := zCW_kept hCW (fun q hq => o_30.2 q (fun e9 => hdis q (by rw [e9]; exact Or.inr (Or.inr (Or.inr (Or.inr rfl)))) hq))
          have hr1 := va_at.kept hr1 (o_30.2 _ (by omega))
          have hr2 := va_at.kept hr2 (o_30.2 _ (by omega))
          have hr3 := va_at.kept hr3 (o_30.2 _ (by omega))
          have hr4 := va_at.kept hr4 (o_30.2 _ (by omega))
          have hr5 := h_29
          obtain ⟨f5, h5⟩ := zCW_recv hCW
          have hz : Hn.size = H.size := o_30.1.trans hz
          refine lv_iload hx hb dL_law_1717 (lv_at hl 8 rfl) ?_
          refine lv_iload hx hb dL_law_1719 (lv_at hl 17 rfl) ?_
          refine lv_iload hx hb dL_law_1721 (lv_at hl 8 rfl) ?_
          refine z_cne (tgt := 1730) hx hb dL_law_1723 (by decide) ⟨by omega, by omega⟩ (fun c_31 => ?_) (fun c_31 => by exfalso; omega)
          refine lv_iconst (v := nI (0)) hx hb dL_law_1730 (by decide) ?_
          refine z_iadd hx hb dL_law_1731 ?_
          refine lv_istore (lv' := [(7, .int (nI ((zNl nw) + 0))), (14, .int (nI (1))), (0, .ref (b)), (1, .ref (ad 287)), (2, .ref (ra)), (3, .ref (ba)), (4, .ref (ga)), (5, .ref (ea)), (6, .ref (ca)), (8, .int (nI (i))), (9, .int (h9)), (10, .int (nI (kd))), (11, .int (nI (n9))), (12, .int (nI (k9))), (13, .int (-1)), (15, .int (zfm (zfd (zSz nw) 6))), (16, .long (lN (zLe 1 (zSz nw n9) (zKd nw n9)))), (18, .int (nI (k)))]) hx hb dL_law_1732 hl (by decide) rfl (fun ls hl => ?_)
          exact kk (ztR (nw, sv, an, hh, ct, ln, cd) (zsTm nw (upd (zTm nw) k (zTm nw k + nI 1)))) (rr) (bb) (gg) (zun ee k (zLe 1 (zSz nw n9) (zKd nw n9))) (upd cc k ((cc k) + nI (1))) _ _ ⟨zInv_r hv (zOk_tm hok), hCW, ⟨hr1, hr2, hr3, hr4, hr5⟩, zR_tm hrel q1 (hfo q1).symm, hS⟩ n9 hn9 ls (lv_sub hl [2, 3, 4, 5, 6, 7, 8, 0, 9, 12, 1] rfl)
      · refine lv_aload hx hb dL_law_1633 (lv_at hl 5 rfl) ?_
        refine lv_iload hx hb dL_law_1635 (lv_at hl 17 rfl) ?_
        refine z_lald (j := k) hx hb hG hr4 ⟨by omega, by omega⟩ dL_law_1637 ?_
        refine z_topl (y := lN (zLe 1 (zSz nw (6 + k)) (zKd nw (6 + k)))) (congrArg lN (e5r k (by omega)).1) ?_
        refine lv_lload hx hb dL_law_1638 (lv_at hl 16 rfl) ?_
        refine W.lcmp hx hb dL_law_1640 ?_
        refine z_leq (tgt := 1650) hx hb dL_law_1641 (by decide) ⟨by have h8 := zLe_62 (lv := 1) (hok.2.2.2.2.2 k (by omega)).1 (hok.2.2.2.2.2 k (by omega)).2; omega, by omega⟩ (fun c_32 => ?_) (fun c_32 => ?_)
        · have hfo : k < zNl nw → zLe 1 (zSz nw (6 + k)) (zKd nw (6 + k)) = zLe 1 (zSz nw n9) (zKd nw n9) := fun _ => c_32
          rcases (show (k = zNl nw ∧ k = 10) ∨ (k = zNl nw ∧ k < 10) ∨ k < zNl nw by omega) with q1 | q1 | q1
          · have he : zff (fun t => zal (zSz nw (6 + t)) (zKd nw (6 + t)) (zSz nw n9) (zKd nw n9) 1) (zNl nw) = 10 := by rw [zff_no (fun t h8 => hno t (by omega))]; omega
            refine lv_aload_n hx hb dL_law_1650 rfl (lv_at hl 1 rfl) ?_
            refine lv_iload hx hb dL_law_1651 (lv_at hl 11 rfl) ?_
            refine z_wrV (As := [.int (nI (n9))]) (rest := []) (q := (RX5, TX5, 7)) S hG (c_X5_note_1 E (r := n9) hok hinj hct hn9 hz0 he) 1 gL_law_X5_note rfl kX5_note ⟨Nat.le_of_ble_eq_true rfl, Nat.le_of_ble_eq_true rfl⟩ ⟨Nat.le_of_ble_eq_true rfl, Nat.le_of_ble_eq_true rfl⟩ (hCW) rfl h5 rfl hl.1 rfl rfl (Nat.le_of_ble_eq_true rfl) dL_law_1653 hS (fun q h => hA1 q h) (fun Hn locs h_34 q_33 o_35 hS => ?_)
            have hz : Hn.size = H.size := q_33.trans hz
            have hCW := h_34
            have hr1 := va_at.kept hr1 (o_35 _ (hdis _ (Or.inl rfl)))
            have hr2 := va_at.kept hr2 (o_35 _ (hdis _ (Or.inr (Or.inl rfl))))
            have hr3 := va_at.kept hr3 (o_35 _ (hdis _ (Or.inr (Or.inr (Or.inl rfl)))))
            have hr4 := va_at.kept hr4 (o_35 _ (hdis _ (Or.inr (Or.inr (Or.inr (Or.inl rfl))))))
            have hr5 := va_at.kept hr5 (o_35 _ (hdis _ (Or.inr (Or.inr (Or.inr (Or.inr rfl))))))
            obtain ⟨f5, h5⟩ := zCW_recv hCW
            refine lv_iload hx hb dL_law_1656 (lv_at hl 17 rfl) ?_
            refine lv_bipush (v := nI (10)) hx hb dL_law_1658 (by decide) ?_
            refine z_cne (tgt := 1668) hx hb dL_law_1660 (by decide) ⟨by omega, by omega⟩ (fun c_36 => by exfalso; omega) (fun c_36 => ?_)
            refine lv_bipush (v := (-4)) hx hb dL_law_1663 (by decide) ?_
            refine lv_goto (tgt := 1670) hx hb dL_law_1665 (by decide) ?_
            refine lv_icmp_ne (tgt := 1677) hx hb dL_law_1670 (by decide) (fun c_37 => by exfalso; exact c_37 rfl) (fun c_37 => ?_)
            refine lv_iconst (v := nI (1)) hx hb dL_law_1673 (by decide) ?_
            refine lv_goto (tgt := 1678) hx hb dL_law_1674 (by decide) ?_
            refine lv_istore (lv' := [(14, .int (nI (1))), (0, .ref (b)), (1, .ref (ad 287)), (2, .ref (ra)), (3, .ref (ba)), (4, .ref (ga)), (5, .ref (ea)), (6, .ref (ca)), (7, .int (nI (zNl nw))), (8, .int (nI (i))), (9, .int (h9)), (10, .int (nI (kd))), (11, .int (nI (n9))), (12, .int (nI (k9))), (13, .int (-1)), (15, .int (zfm (zfd (zSz nw) 6))), (16, .long (lN (zLe 1 (zSz nw n9) (zKd nw n9)))), (18, .int (nI (k)))]) hx hb dL_law_1678 hl (by decide) rfl (fun ls hl => ?_)
            refine lv_iload hx hb dL_law_1680 (lv_at hl 17 rfl) ?_
            refine lv_bipush (v := nI (10)) hx hb dL_law_1682 (by decide) ?_
            refine z_cge (tgt := 1734) hx hb dL_law_1684 (by decide) ⟨by omega, by omega⟩ (fun c_38 => ?_) (fun c_38 => by exfalso; omega)
            exact kk (nw, sv, an, hh, ct, ln, cd) (rr) (bb) (gg) (ee) (cc) _ _ ⟨hv, hCW, ⟨hr1, hr2, hr3, hr4, hr5⟩, hrel, hS⟩ n9 hn9 ls (lv_sub hl [1, 2, 3, 4, 5, 6, 7, 8, 9, 12, 0] rfl)
          · obtain ⟨q2, q3⟩ := q1
            subst q2
            have he : zff (fun t => zal (zSz nw (6 + t)) (zKd nw (6 + t)) (zSz nw n9) (zKd nw n9) 1) (zNl nw) = zNl nw := zff_no (fun t h8 => hno t h8)
            refine lv_aload_n hx hb dL_law_1650 rfl (lv_at hl 1 rfl) ?_
            refine lv_iload hx hb dL_law_1651 (lv_at hl 11 rfl) ?_
            refine z_wrV (As := [.int (nI (n9))]) (rest := []) (q := (RX5, TX5, 7)) S hG (c_X5_note_3 E (r := n9) (en := zNl nw) hok hinj hct hn9 hz0 he ⟨rfl, q3⟩) 1 gL_law_X5_note rfl kX5_note ⟨Nat.le_of_ble_eq_true rfl, Nat.le_of_ble_eq_true rfl⟩ ⟨Nat.le_of_ble_eq_true rfl, Nat.le_of_ble_eq_true rfl⟩ (hCW) rfl h5 rfl hl.1 rfl rfl (Nat.le_of_ble_eq_true rfl) dL_law_1653 hS (fun q h => hA1 q h) (fun Hn locs h_40 q_39 o_41 hS => ?_)
            have hz : Hn.size = H.size := q_39.trans hz
            have hCW := h_40
            have hr1 := va_at.kept hr1 (o_41 _ (hdis _ (Or.inl rfl)))
            have hr2 := va_at.kept hr2 (o_41 _ (hdis _ (Or.inr (Or.inl rfl))))
            have hr3 := va_at.kept hr3 (o_41 _ (hdis _ (Or.inr (Or.inr (Or.inl rfl)))))
            have hr4 := va_at.kept hr4 (o_41 _ (hdis _ (Or.inr (Or.inr (Or.inr (Or.inl rfl))))))
            have hr5 := va_at.kept hr5 (o_41 _ (hdis _ (Or.inr (Or.inr (Or.inr (Or.inr rfl))))))
            obtain ⟨f5, h5⟩ := zCW_recv hCW
            refine lv_iload hx hb dL_law_1656 (lv_at hl 17 rfl) ?_
            refine lv_bipush (v := nI (10)) hx hb dL_law_1658 (by decide) ?_
            refine z_cne (tgt := 1668) hx hb dL_law_1660 (by decide) ⟨by omega, by omega⟩ (fun c_42 => ?_) (fun c_42 => by exfalso; omega)
            refine lv_iload hx hb dL_law_1668 (lv_at hl 17 rfl) ?_
            refine lv_icmp_ne (tgt := 1677) hx hb dL_law_1670 (by decide) (fun c_43 => by exfalso; exact c_43 rfl) (fun c_43 => ?_)
            refine lv_iconst (v := nI (1)) hx hb dL_law_1673 (by decide) ?_
            refine lv_goto (tgt := 1678) hx hb dL_law_1674 (by decide) ?_
            refine lv_istore (lv' := [(14, .int (nI (1))), (0, .ref (b)), (1, .ref (ad 287)), (2, .ref (ra)), (3, .ref (ba)), (4, .ref (ga)), (5, .ref (ea)), (6, .ref (ca)), (7, .int (nI (zNl nw))), (8, .int (nI (i))), (9, .int (h9)), (10, .int (nI (kd))), (11, .int (nI (n9))), (12, .int (nI (k9))), (13, .int (-1)), (15, .int (zfm (zfd (zSz nw) 6))), (16, .long (lN (zLe 1 (zSz nw n9) (zKd nw n9)))), (18, .int (nI (zNl nw)))]) hx hb dL_law_1678 hl (by decide) rfl (fun ls hl => ?_)
            refine lv_iload hx hb dL_law_1680 (lv_at hl 17 rfl) ?_
            refine lv_bipush (v := nI (10)) hx hb dL_law_1682 (by decide) ?_
            refine z_cge (tgt := 1734) hx hb dL_law_1684 (by decide) ⟨by omega, by omega⟩ (fun c_44 => by exfalso; omega) (fun c_44 => ?_)
            refine lv_aload hx hb dL_law_1687 (lv_at hl 6 rfl) ?_
            refine lv_iload hx hb dL_law_1689 (lv_at hl 17 rfl) ?_
            refine lv_lload hx hb dL_law_1691 (lv_at hl 16 rfl) ?_
            refine z_last (j := zNl nw) hx hb hG hr4 ⟨by omega, by omega⟩ hS (hge _ (Or.inr (Or.inr (Or.inr (Or.inl rfl))))) dL_law_1693 (fun Hn locs h_45 o_46 hS => ?_)
            have hCW := zCW_kept hCW (fun q hq => o_46.2 q (fun e9 => hdis q (by rw [e9]; exact Or.inr (Or.inr (Or.inr (Or.inl rfl)))) hq))
            have hr1 := va_at.kept hr1 (o_46.2 _ (by omega))
            have hr2 := va_at.kept hr2 (o_46.2 _ (by omega))
            have hr3 := va_at.kept hr3 (o_46.2 _ (by omega))
            have hr4 := h_45
            have hr5 := va_at.kept hr5 (o_46.2 _ (by omega))
            obtain ⟨f5, h5⟩ := zCW_recv hCW
            have hz : Hn.size = H.size := o_46.1.trans hz
            refine lv_aload hx hb dL_law_1694 (lv_at hl 7 rfl) ?_
            refine lv_iload hx hb dL_law_1696 (lv_at hl 17 rfl) ?_
            refine lv_iload hx hb dL_law_1698 (lv_at hl 17 rfl) ?_
            refine lv_iload hx hb dL_law_1700 (lv_at hl 8 rfl) ?_
            refine z_cne (tgt := 1709) hx hb dL_law_1702 (by decide) ⟨by omega, by omega⟩ (fun c_47 => by exfalso; exact c_47 rfl) (fun c_47 => ?_)
            refine lv_iconst (v := nI (1)) hx hb dL_law_1705 (by decide) ?_
            refine lv_goto (tgt := 1716) hx hb dL_law_1706 (by decide) ?_
            refine z_iast (j := zNl nw) hx hb hG hr5 ⟨by omega, by omega⟩ hS (hge _ (Or.inr (Or.inr (Or.inr (Or.inr rfl))))) dL_law_1716 (fun Hn locs h_48 o_49 hS => ?_)
            have hCW := zCW_kept hCW (fun q hq => o_49.2 q (fun e9 => hdis q (by rw [e9]; exact Or.inr (Or.inr (Or.inr (Or.inr rfl)))) hq))
            have hr1 := va_at.kept hr1 (o_49.2 _ (by omega))
            have hr2 := va_at.kept hr2 (o_49.2 _ (by omega))
            have hr3 := va_at.kept hr3 (o_49.2 _ (by omega))
            have hr4 := va_at.kept hr4 (o_49.2 _ (by omega))
            have hr5 := h_48
            obtain ⟨f5, h5⟩ := zCW_recv hCW
            have hz : Hn.size = H.size := o_49.1.trans hz
            refine lv_iload hx hb dL_law_1717 (lv_at hl 8 rfl) ?_
            refine lv_iload hx hb dL_law_1719 (lv_at hl 17 rfl) ?_
            refine lv_iload hx hb dL_law_1721 (lv_at hl 8 rfl) ?_
            refine z_cne (tgt := 1730) hx hb dL_law_1723 (by decide) ⟨by omega, by omega⟩ (fun c_50 => by exfalso; exact c_50 rfl) (fun c_50 => ?_)
            refine lv_iconst (v := nI (1)) hx hb dL_law_1726 (by decide) ?_
            refine lv_goto (tgt := 1731) hx hb dL_law_1727 (by decide) ?_
            refine z_iadd hx hb dL_law_1731 ?_
            refine lv_istore (lv' := [(7, .int (nI ((zNl nw) + 1))), (14, .int (nI (1))), (0, .ref (b)), (1, .ref (ad 287)), (2, .ref (ra)), (3, .ref (ba)), (4, .ref (ga)), (5, .ref (ea)), (6, .ref (ca)), (8, .int (nI (i))), (9, .int (h9)), (10, .int (nI (kd))), (11, .int (nI (n9))), (12, .int (nI (k9))), (13, .int (-1)), (15, .int (zfm (zfd (zSz nw) 6))), (16, .long (lN (zLe 1 (zSz nw n9) (zKd nw n9)))), (18, .int (nI (zNl nw)))]) hx hb dL_law_1732 hl (by decide) rfl (fun ls hl => ?_)
            exact kk (ztR (nw, sv, an, hh, ct, ln, cd) (zsTm (zsNl (zsRg nw (6 + zNl nw) (zSz nw n9) (zKd nw n9)) (zNl nw + 1)) (upd (upd (zTm nw) (zNl nw) (nI 0)) (zNl nw) ((upd (zTm nw) (zNl nw) (nI 0)) (zNl nw) + nI 1)))) (rr) (bb) (gg) (zun ee (zNl nw) (zLe 1 (zSz nw n9) (zKd nw n9))) (upd cc (zNl nw) (nI (1))) _ _ ⟨zInv_r hv (zOk_nl hok q3 hs4 hk4), hCW, ⟨hr1, hr2, hr3, hr4, hr5⟩, zR_nl hrel rfl, hS⟩ n9 hn9 ls (lv_sub hl [2, 3, 4, 5, 6, 7, 8, 0, 9, 12, 1] rfl)
          · have hy : (fun t => zal (zSz nw (6 + t)) (zKd nw (6 + t)) (zSz nw n9) (zKd nw n9) 1) k = true := (zAL (hok.2.2.2.2.2 k q1).1 hs4 (hok.2.2.2.2.2 k q1).2 hk4 (by decide)).mp (hfo q1)
            have he : zff (fun t => zal (zSz nw (6 + t)) (zKd nw (6 + t)) (zSz nw n9) (zKd nw n9) 1) (zNl nw) = k := zff_is q1 hno hy
            refine lv_aload_n hx hb dL_law_1650 rfl (lv_at hl 1 rfl) ?_
            refine lv_iload hx hb dL_law_1651 (lv_at hl 11 rfl) ?_
            refine z_wrV (As := [.int (nI (n9))]) (rest := []) (q := (RX5, TX5, 7)) S hG (c_X5_note_2 E (r := n9) (en := k) hok hinj hct hn9 hz0 he q1) 1 gL_law_X5_note rfl kX5_note ⟨Nat.le_of_ble_eq_true rfl, Nat.le_of_ble_eq_true rfl⟩ ⟨Nat.le_of_ble_eq_true rfl, Nat.le_of_ble_eq_true rfl⟩ (hCW) rfl h5 rfl hl.1 rfl rfl (Nat.le_of_ble_eq_true rfl) dL_law_1653 hS (fun q h => hA1 q h) (fun Hn locs h_52 q_51 o_53 hS => ?_)
            have hz : Hn.size = H.size := q_51.trans hz
            have hCW := h_52
            have hr1 := va_at.kept hr1 (o_53 _ (hdis _ (Or.inl rfl)))
            have hr2 := va_at.kept hr2 (o_53 _ (hdis _ (Or.inr (Or.inl rfl))))
            have hr3 := va_at.kept hr3 (o_53 _ (hdis _ (Or.inr (Or.inr (Or.inl rfl)))))
            have hr4 := va_at.kept hr4 (o_53 _ (hdis _ (Or.inr (Or.inr (Or.inr (Or.inl rfl))))))
            have hr5 := va_at.kept hr5 (o_53 _ (hdis _ (Or.inr (Or.inr (Or.inr (Or.inr rfl))))))
            obtain ⟨f5, h5⟩ := zCW_recv hCW
            refine lv_iload hx hb dL_law_1656 (lv_at hl 17 rfl) ?_
            refine lv_bipush (v := nI (10)) hx hb dL_law_1658 (by decide) ?_
            refine z_cne (tgt := 1668) hx hb dL_law_1660 (by decide) ⟨by omega, by omega⟩ (fun c_54 => ?_) (fun c_54 => by exfalso; omega)
            refine lv_iload hx hb dL_law_1668 (lv_at hl 17 rfl) ?_
            refine lv_icmp_ne (tgt := 1677) hx hb dL_law_1670 (by decide) (fun c_55 => by exfalso; exact c_55 rfl) (fun c_55 => ?_)
            refine lv_iconst (v := nI (1)) hx hb dL_law_1673 (by decide) ?_
            refine lv_goto (tgt := 1678) hx hb dL_law_1674 (by decide) ?_
            refine lv_istore (lv' := [(14, .int (nI (1))), (0, .ref (b)), (1, .ref (ad 287)), (2, .ref (ra)), (3, .ref (ba)), (4, .ref (ga)), (5, .ref (ea)), (6, .ref (ca)), (7, .int (nI (zNl nw))), (8, .int (nI (i))), (9, .int (h9)), (10, .int (nI (kd))), (11, .int (nI (n9))), (12, .int (nI (k9))), (13, .int (-1)), (15, .int (zfm (zfd (zSz nw) 6))), (16, .long (lN (zLe 1 (zSz nw n9) (zKd nw n9)))), (18, .int (nI (k)))]) hx hb dL_law_1678 hl (by decide) rfl (fun ls hl => ?_)
            refine lv_iload hx hb dL_law_1680 (lv_at hl 17 rfl) ?_
            refine lv_bipush (v := nI (10)) hx hb dL_law_1682 (by decide) ?_
            refine z_cge (tgt := 1734) hx hb dL_law_1684 (by decide) ⟨by omega, by omega⟩ (fun c_56 => by exfalso; omega) (fun c_56 => ?_)
            refine lv_aload hx hb dL_law_1687 (lv_at hl 6 rfl) ?_
            refine lv_iload hx hb dL_law_1689 (lv_at hl 17 rfl) ?_
            refine lv_lload hx hb dL_law_1691 (lv_at hl 16 rfl) ?_
            refine z_last (j := k) hx hb hG hr4 ⟨by omega, by omega⟩ hS (hge _ (Or.inr (Or.inr (Or.inr (Or.inl rfl))))) dL_law_1693 (fun Hn locs h_57 o_58 hS => ?_)
            have hCW := zCW_kept hCW (fun q hq => o_58.2 q (fun e9 => hdis q (by rw [e9]; exact Or.inr (Or.inr (Or.inr (Or.inl rfl)))) hq))
            have hr1 := va_at.kept hr1 (o_58.2 _ (by omega))
            have hr2 := va_at.kept hr2 (o_58.2 _ (by omega))
            have hr3 := va_at.kept hr3 (o_58.2 _ (by omega))
            have hr4 := h_57
            have hr5 := va_at.kept hr5 (o_58.2 _ (by omega))
            obtain ⟨f5, h5⟩ := zCW_recv hCW
            have hz : Hn.size = H.size := o_58.1.trans hz
            refine lv_aload hx hb dL_law_1694 (lv_at hl 7 rfl) ?_
            refine lv_iload hx hb dL_law_1696 (lv_at hl 17 rfl) ?_
            refine lv_iload hx hb dL_law_1698 (lv_at hl 17 rfl) ?_
            refine lv_iload hx hb dL_law_1700 (lv_at hl 8 rfl) ?_
            refine z_cne (tgt := 1709) hx hb dL_law_1702 (by decide) ⟨by omega, by omega⟩ (fun c_59 => ?_) (fun c_59 => by exfalso; omega)
            refine lv_aload hx hb dL_law_1709 (lv_at hl 7 rfl) ?_
            refine lv_iload hx hb dL_law_1711 (lv_at hl 17 rfl) ?_
            refine z_iald (j := k) hx hb hG hr5 ⟨by omega, by omega⟩ dL_law_1713 ?_
            refine z_top (y := (cc k)) (rfl) ?_
            refine lv_iconst (v := nI (1)) hx hb dL_law_1714 (by decide) ?_
            refine lv_iadd hx hb dL_law_1715 ?_
            refine z_iast (j := k) hx hb hG hr5 ⟨by omega, by omega⟩ hS (hge _ (Or.inr (Or.inr (Or.inr (Or.inr rfl))))) dL_law_1716 (fun Hn locs h_60 o_61 hS => ?_)
            have hCW := zCW_kept hCW (fun q hq => o_61.2 q (fun e9 => hdis q (by rw [e9]; exact Or.inr (Or.inr (Or.inr (Or.inr rfl)))) hq))
            have hr1 := va_at.kept hr1 (o_61.2 _ (by omega))
            have hr2 := va_at.kept hr2 (o_61.2 _ (by omega))
            have hr3 := va_at.kept hr3 (o_61.2 _ (by omega))
            have hr4 := va_at.kept hr4 (o_61.2 _ (by omega))
            have hr5 := h_60
            obtain ⟨f5, h5⟩ := zCW_recv hCW
            have hz : Hn.size = H.size := o_61.1.trans hz
            refine lv_iload hx hb dL_law_1717 (lv_at hl 8 rfl) ?_
            refine lv_iload hx hb dL_law_1719 (lv_at hl 17 rfl) ?_
            refine lv_iload hx hb dL_law_1721 (lv_at hl 8 rfl) ?_
            refine z_cne (tgt := 1730) hx hb dL_law_1723 (by decide) ⟨by omega, by omega⟩ (fun c_62 => ?_) (fun c_62 => by exfalso; omega)
            refine lv_iconst (v := nI (0)) hx hb dL_law_1730 (by decide) ?_
            refine z_iadd hx hb dL_law_1731 ?_
            refine lv_istore (lv' := [(7, .int (nI ((zNl nw) + 0))), (14, .int (nI (1))), (0, .ref (b)), (1, .ref (ad 287)), (2, .ref (ra)), (3, .ref (ba)), (4, .ref (ga)), (5, .ref (ea)), (6, .ref (ca)), (8, .int (nI (i))), (9, .int (h9)), (10, .int (nI (kd))), (11, .int (nI (n9))), (12, .int (nI (k9))), (13, .int (-1)), (15, .int (zfm (zfd (zSz nw) 6))), (16, .long (lN (zLe 1 (zSz nw n9) (zKd nw n9)))), (18, .int (nI (k)))]) hx hb dL_law_1732 hl (by decide) rfl (fun ls hl => ?_)
            exact kk (ztR (nw, sv, an, hh, ct, ln, cd) (zsTm nw (upd (zTm nw) k (zTm nw k + nI 1)))) (rr) (bb) (gg) (zun ee k (zLe 1 (zSz nw n9) (zKd nw n9))) (upd cc k ((cc k) + nI (1))) _ _ ⟨zInv_r hv (zOk_tm hok), hCW, ⟨hr1, hr2, hr3, hr4, hr5⟩, zR_tm hrel q1 (hfo q1).symm, hS⟩ n9 hn9 ls (lv_sub hl [2, 3, 4, 5, 6, 7, 8, 0, 9, 12, 1] rfl)
        · refine lv_iinc (v := nI (k + 1)) (lv' := [(18, .int (nI (k + 1))), (0, .ref (b)), (1, .ref (ad 287)), (2, .ref (ra)), (3, .ref (ba)), (4, .ref (ga)), (5, .ref (ea)), (6, .ref (ca)), (7, .int (nI (zNl nw))), (8, .int (nI (i))), (9, .int (h9)), (10, .int (nI (kd))), (11, .int (nI (n9))), (12, .int (nI (k9))), (13, .int (-1)), (14, .int (nI (1))), (15, .int (zfm (zfd (zSz nw) 6))), (16, .long (lN (zLe 1 (zSz nw n9) (zKd nw n9))))]) hx hb dL_law_1644 hl (k := 17) rfl (z_inc1 _) (by decide) rfl (fun ls hl => ?_)
          refine lv_goto (tgt := 1626) hx hb dL_law_1647 (by decide) ?_
          have hl9 := lv_sub hl [1, 2, 3, 4, 5, 6, 7, 8, 9, 10, 11, 12, 13, 14, 15, 16, 17, 0] (l' := [(0, .ref (b)), (1, .ref (ad 287)), (2, .ref (ra)), (3, .ref (ba)), (4, .ref (ga)), (5, .ref (ea)), (6, .ref (ca)), (7, .int (nI (zNl nw))), (8, .int (nI (i))), (9, .int (h9)), (10, .int (nI (kd))), (11, .int (nI (n9))), (12, .int (nI (k9))), (13, .int (-1)), (14, .int (nI (1))), (15, .int (zfm (zfd (zSz nw) 6))), (16, .long (lN (zLe 1 (zSz nw n9) (zKd nw n9)))), (18, .int (nI (k + 1)))]) rfl
          have e9_18 : (k + 1) = ((k + 1)) := by omega
          exact ih1626 (k + 1) (by omega) (by omega) (zft hno (zAL_f (hok.2.2.2.2.2 k (by omega)).1 hs4 (hok.2.2.2.2.2 k (by omega)).2 hk4 (by decide) c_32)) ls (by rw [← e9_18]; exact hl9)
  exact L1626 ((zNl nw - (0)) + 1) (0) (Nat.lt_succ_self _) (Nat.zero_le _) (fun t h8 => absurd h8 (Nat.not_lt_zero t)) ls (lv_sub hl [2, 3, 4, 5, 6, 7, 8, 9, 10, 11, 12, 13, 14, 15, 16, 17, 1, 0] rfl)
