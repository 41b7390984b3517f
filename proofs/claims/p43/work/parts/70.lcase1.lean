/-! the law: the 22 kinds of a round -/
set_option maxHeartbeats 4000000 in
set_option maxRecDepth 100000 in
theorem lw_make {p : Program} {e : Env} {s : State} {m : MethodId} {b L : Nat} {xs : Nat → Int32} {below : List Frame} {meth : Method} {c : Code} {E : zEnv} {ad : Nat → Nat} {ra ba ga ea ca : Nat} {Q : State → Prop} {i : Nat} (F : zLF E p s m c b L xs) (D : zLA ad ra ba ga ea ca s) (kk : zLJ p e s m b below meth c E ad ra ba ga ea ca Q i) {τ : zT} {rr : Nat → Nat} {bb gg : Nat → Int32} {ee : Nat → Nat} {cc : Nat → Int32} {H : Heap} {locs : List Loc} (hs : zLS E ad ra ba ga ea ca s τ rr bb gg ee cc H locs) {n9 k9 kd : Nat} {h9 : Int32} (hn9 : n9 < 6) (hk9 : 1 ≤ k9 ∧ k9 ≤ 5)  {ls : Array Slot} (hl : lv_has ls 22 [(0, .ref (b)), (1, .ref (ad 287)), (2, .ref (ra)), (3, .ref (ba)), (4, .ref (ga)), (5, .ref (ea)), (6, .ref (ca)), (7, .int (nI (zNl τ.1))), (8, .int (nI (i))), (9, .int (h9)), (10, .int (nI (kd))), (11, .int (nI (n9))), (12, .int (nI (k9))), (13, .int (-1)), (14, .int (nI (1))), (15, .int (zfm (zfd (zSz τ.1) 6)))]) : zLW p e s m b below meth c E Q H locs 191 ls [] := by
  obtain ⟨S, hG, hX, hbl, hL⟩ := id F
  obtain ⟨hinj, hA1, hdis, hge, hd1, hd2, hd3, hd4⟩ := id D
  obtain ⟨hx, hb, hml9, hown, hts⟩ := id S
  have hbA : ¬ (fun q : Nat => s.heap.size ≤ q) b := Nat.not_le.mpr hbl
  obtain ⟨hv, hCW0, hRW, hrel, hS⟩ := hs
  obtain ⟨nw, sv, an, hh, ct, ln, cd⟩ := τ
  have hCW : zCW E ad nw sv an hh ct ln cd H := hCW0
  have hrel : zRel nw rr bb gg ee cc := hrel
  have hok : zOk nw := hv.1
  have hct : ct ≤ 5 := hv.2.2.2.1
  obtain ⟨hr1, hr2, hr3, hr4, hr5⟩ := id hRW
  obtain ⟨f5, h5⟩ := zCW_recv hCW
  obtain ⟨e1r, e2r, e3r, e4r, e5r⟩ := id hrel
  have hml := hok.2.2.2.1
  have hnl := hok.2.2.2.2.1
  have hz : H.size = H.size := rfl
  have hl : lv_has ls 22 [(0, .ref (b)), (1, .ref (ad 287)), (2, .ref (ra)), (3, .ref (ba)), (4, .ref (ga)), (5, .ref (ea)), (6, .ref (ca)), (7, .int (nI (zNl nw))), (8, .int (nI (i))), (9, .int (h9)), (10, .int (nI (kd))), (11, .int (nI (n9))), (12, .int (nI (k9))), (13, .int (-1)), (14, .int (nI (1))), (15, .int (zfm (zfd (zSz nw) 6)))] := hl
  obtain ⟨w9, hw90⟩ : ∃ y : Nat, y = 4 + 4 * zlw (h9 >>> (nI (11) &&& 31)) 4 := ⟨_, rfl⟩
  have hw9 : zsz4 w9 := by have h8 := zlw_lt (h9 >>> (nI (11) &&& 31)) (n := 4) (by decide); unfold zsz4; omega
  have hw8 := hw9.b
  rcases zfd_ca (zSz nw) with q1 | q1
  · rw [zfm_6 q1] at hl
    refine lv_iconst (v := nI (4)) hx hb dL_law_191 (by decide) ?_
    refine lv_iconst (v := nI (4)) hx hb dL_law_192 (by decide) ?_
    refine lv_iload hx hb dL_law_193 (lv_at hl 9 rfl) ?_
    refine lv_bipush (v := nI (11)) hx hb dL_law_195 (by decide) ?_
    refine lv_ishr hx hb dL_law_197 ?_
    refine lv_iconst (v := nI (4)) hx hb dL_law_198 (by decide) ?_
    refine z_roSX (As := [.int ((h9) >>> (nI (11) &&& 31)), .int (nI (4))]) (rest := [.int (nI (4)), .int (nI (4))]) S hG (c_L_low E (v := (h9) >>> (nI (11) &&& 31)) (n := 4) ⟨by omega, by omega⟩) 2 gL_law_L_low rfl kL_low.2 ⟨Nat.le_of_ble_eq_true rfl, Nat.le_of_ble_eq_true rfl⟩ ⟨Nat.le_of_ble_eq_true rfl, Nat.le_of_ble_eq_true rfl⟩ (trivial) rfl hl.1 rfl rfl (Nat.le_of_ble_eq_true rfl) dL_law_199 ?_
    refine z_imul hx hb dL_law_202 ?_
    refine z_iadd hx hb dL_law_203 ?_
    refine z_top (y := nI (w9)) (by rw [hw90]) ?_
    refine lv_istore (lv' := [(16, .int (nI (w9))), (0, .ref (b)), (1, .ref (ad 287)), (2, .ref (ra)), (3, .ref (ba)), (4, .ref (ga)), (5, .ref (ea)), (6, .ref (ca)), (7, .int (nI (zNl nw))), (8, .int (nI (i))), (9, .int (h9)), (10, .int (nI (kd))), (11, .int (nI (n9))), (12, .int (nI (k9))), (13, .int (-1)), (14, .int (nI (1))), (15, .int (-1))]) hx hb dL_law_204 hl (by decide) rfl (fun ls hl => ?_)
    refine lv_aload_n hx hb dL_law_206 rfl (lv_at hl 2 rfl) ?_
    refine lv_iload hx hb dL_law_207 (lv_at hl 0 rfl) ?_
    refine z_wrV (As := [.int (nI (w9))]) (rest := []) (q := (RX5, TX5, 7)) S hG (c_X5_make_1 E (w := w9) hok hinj hct hw9 q1) 1 gL_law_X5_make rfl kX5_make ⟨Nat.le_of_ble_eq_true rfl, Nat.le_of_ble_eq_true rfl⟩ ⟨Nat.le_of_ble_eq_true rfl, Nat.le_of_ble_eq_true rfl⟩ (hCW) rfl h5 rfl hl.1 rfl rfl (Nat.le_of_ble_eq_true rfl) dL_law_209 hS (fun q h => hA1 q h) (fun Hn locs h_2 q_1 o_3 hS => ?_)
    have hz : Hn.size = H.size := q_1.trans hz
    have hCW := h_2
    have hr1 := va_at.kept hr1 (o_3 _ (hdis _ (Or.inl rfl)))
    have hr2 := va_at.kept hr2 (o_3 _ (hdis _ (Or.inr (Or.inl rfl))))
    have hr3 := va_at.kept hr3 (o_3 _ (hdis _ (Or.inr (Or.inr (Or.inl rfl)))))
    have hr4 := va_at.kept hr4 (o_3 _ (hdis _ (Or.inr (Or.inr (Or.inr (Or.inl rfl))))))
    have hr5 := va_at.kept hr5 (o_3 _ (hdis _ (Or.inr (Or.inr (Or.inr (Or.inr rfl))))))
    obtain ⟨f5, h5⟩ := zCW_recv hCW
    refine lv_iload hx hb dL_law_212 (lv_at hl 16 rfl) ?_
    refine lv_if_ge (tgt := 222) hx hb dL_law_214 (by decide) (fun c_4 => by exfalso; exact absurd c_4 (by decide)) (fun c_4 => ?_)
    refine lv_bipush (v := (-4)) hx hb dL_law_217 (by decide) ?_
    refine lv_goto (tgt := 224) hx hb dL_law_219 (by decide) ?_
    refine lv_icmp_ne (tgt := 231) hx hb dL_law_224 (by decide) (fun c_5 => by exfalso; exact c_5 rfl) (fun c_5 => ?_)
    refine lv_iconst (v := nI (1)) hx hb dL_law_227 (by decide) ?_
    refine lv_goto (tgt := 232) hx hb dL_law_228 (by decide) ?_
    refine lv_istore (lv' := [(14, .int (nI (1))), (16, .int (nI (w9))), (0, .ref (b)), (1, .ref (ad 287)), (2, .ref (ra)), (3, .ref (ba)), (4, .ref (ga)), (5, .ref (ea)), (6, .ref (ca)), (7, .int (nI (zNl nw))), (8, .int (nI (i))), (9, .int (h9)), (10, .int (nI (kd))), (11, .int (nI (n9))), (12, .int (nI (k9))), (13, .int (-1)), (15, .int (-1))]) hx hb dL_law_232 hl (by decide) rfl (fun ls hl => ?_)
    refine lv_iload hx hb dL_law_234 (lv_at hl 16 rfl) ?_
    refine lv_if_lt (tgt := 251) hx hb dL_law_236 (by decide) (fun c_6 => ?_) (fun c_6 => by exfalso; exact c_6 (by decide))
    refine lv_goto (tgt := 1734) hx hb dL_law_251 (by decide) ?_
    exact kk (nw, sv, an, hh, ct, ln, cd) (rr) (bb) (gg) (ee) (cc) _ _ ⟨hv, hCW, ⟨hr1, hr2, hr3, hr4, hr5⟩, hrel, hS⟩ n9 hn9 ls (lv_sub hl [2, 3, 4, 5, 6, 7, 8, 9, 10, 13, 0] rfl)
  · rw [zfm_n q1] at hl
    refine lv_iconst (v := nI (4)) hx hb dL_law_191 (by decide) ?_
    refine lv_iconst (v := nI (4)) hx hb dL_law_192 (by decide) ?_
    refine lv_iload hx hb dL_law_193 (lv_at hl 9 rfl) ?_
    refine lv_bipush (v := nI (11)) hx hb dL_law_195 (by decide) ?_
    refine lv_ishr hx hb dL_law_197 ?_
    refine lv_iconst (v := nI (4)) hx hb dL_law_198 (by decide) ?_
    refine z_roSX (As := [.int ((h9) >>> (nI (11) &&& 31)), .int (nI (4))]) (rest := [.int (nI (4)), .int (nI (4))]) S hG (c_L_low E (v := (h9) >>> (nI (11) &&& 31)) (n := 4) ⟨by omega, by omega⟩) 2 gL_law_L_low rfl kL_low.2 ⟨Nat.le_of_ble_eq_true rfl, Nat.le_of_ble_eq_true rfl⟩ ⟨Nat.le_of_ble_eq_true rfl, Nat.le_of_ble_eq_true rfl⟩ (trivial) rfl hl.1 rfl rfl (Nat.le_of_ble_eq_true rfl) dL_law_199 ?_
    refine z_imul hx hb dL_law_202 ?_
    refine z_iadd hx hb dL_law_203 ?_
    refine z_top (y := nI (w9)) (by rw [hw90]) ?_
    refine lv_istore (lv' := [(16, .int (nI (w9))), (0, .ref (b)), (1, .ref (ad 287)), (2, .ref (ra)), (3, .ref (ba)), (4, .ref (ga)), (5, .ref (ea)), (6, .ref (ca)), (7, .int (nI (zNl nw))), (8, .int (nI (i))), (9, .int (h9)), (10, .int (nI (kd))), (11, .int (nI (n9))), (12, .int (nI (k9))), (13, .int (-1)), (14, .int (nI (1))), (15, .int (nI (zfd (zSz nw) 6)))]) hx hb dL_law_204 hl (by decide) rfl (fun ls hl => ?_)
    refine lv_aload_n hx hb dL_law_206 rfl (lv_at hl 2 rfl) ?_
    refine lv_iload hx hb dL_law_207 (lv_at hl 0 rfl) ?_
    refine z_wrV (As := [.int (nI (w9))]) (rest := []) (q := (RX5, TX5, 7)) S hG (c_X5_make_2 E (w := w9) hok hinj hct hw9 q1) 1 gL_law_X5_make rfl kX5_make ⟨Nat.le_of_ble_eq_true rfl, Nat.le_of_ble_eq_true rfl⟩ ⟨Nat.le_of_ble_eq_true rfl, Nat.le_of_ble_eq_true rfl⟩ (hCW) rfl h5 rfl hl.1 rfl rfl (Nat.le_of_ble_eq_true rfl) dL_law_209 hS (fun q h => hA1 q h) (fun Hn locs h_8 q_7 o_9 hS => ?_)
    have hz : Hn.size = H.size := q_7.trans hz
    have hCW := h_8
    have hr1 := va_at.kept hr1 (o_9 _ (hdis _ (Or.inl rfl)))
    have hr2 := va_at.kept hr2 (o_9 _ (hdis _ (Or.inr (Or.inl rfl))))
    have hr3 := va_at.kept hr3 (o_9 _ (hdis _ (Or.inr (Or.inr (Or.inl rfl)))))
    have hr4 := va_at.kept hr4 (o_9 _ (hdis _ (Or.inr (Or.inr (Or.inr (Or.inl rfl))))))
    have hr5 := va_at.kept hr5 (o_9 _ (hdis _ (Or.inr (Or.inr (Or.inr (Or.inr rfl))))))
    obtain ⟨f5, h5⟩ := zCW_recv hCW
    refine lv_iload hx hb dL_law_212 (lv_at hl 16 rfl) ?_
    refine z_fge (tgt := 222) hx hb dL_law_214 (by decide) (by omega) ?_
    refine lv_iload hx hb dL_law_222 (lv_at hl 16 rfl) ?_
    refine lv_icmp_ne (tgt := 231) hx hb dL_law_224 (by decide) (fun c_11 => by exfalso; exact c_11 rfl) (fun c_11 => ?_)
    refine lv_iconst (v := nI (1)) hx hb dL_law_227 (by decide) ?_
    refine lv_goto (tgt := 232) hx hb dL_law_228 (by decide) ?_
    refine lv_istore (lv' := [(14, .int (nI (1))), (16, .int (nI (w9))), (0, .ref (b)), (1, .ref (ad 287)), (2, .ref (ra)), (3, .ref (ba)), (4, .ref (ga)), (5, .ref (ea)), (6, .ref (ca)), (7, .int (nI (zNl nw))), (8, .int (nI (i))), (9, .int (h9)), (10, .int (nI (kd))), (11, .int (nI (n9))), (12, .int (nI (k9))), (13, .int (-1)), (15, .int (nI (zfd (zSz nw) 6)))]) hx hb dL_law_232 hl (by decide) rfl (fun ls hl => ?_)
    refine lv_iload hx hb dL_law_234 (lv_at hl 16 rfl) ?_
    refine z_flt (tgt := 251) hx hb dL_law_236 (by decide) (by omega) ?_
    refine lv_aload_n hx hb dL_law_239 rfl (lv_at hl 4 rfl) ?_
    refine lv_iload hx hb dL_law_240 (lv_at hl 16 rfl) ?_
    refine lv_ldc2 (v := 7) hx hb hown (hts (.constantLong RL 10 (7)) hL7_law) dL_law_242 ?_
    refine z_topl (y := lN 7) rfl ?_
    refine lv_iconst (v := nI (3)) hx hb dL_law_245 (by decide) ?_
    refine lv_iload hx hb dL_law_246 (lv_at hl 1 rfl) ?_
    refine z_imul hx hb dL_law_248 ?_
    refine z_lshl hx hb dL_law_249 (by omega) ?_
    refine z_last (j := zfd (zSz nw) 6) hx hb hG hr1 ⟨by omega, by omega⟩ hS (hge _ (Or.inl rfl)) dL_law_250 (fun Hn locs h_13 o_14 hS => ?_)
    have hCW := zCW_kept hCW (fun q hq => o_14.2 q (fun e9 => hdis q (by rw [e9]; exact Or.inl rfl) hq))
    have hr1 := h_13
    have hr2 := va_at.kept hr2 (o_14.2 _ (by omega))
    have hr3 := va_at.kept hr3 (o_14.2 _ (by omega))
    have hr4 := va_at.kept hr4 (o_14.2 _ (by omega))
    have hr5 := va_at.kept hr5 (o_14.2 _ (by omega))
    obtain ⟨f5, h5⟩ := zCW_recv hCW
    have hz : Hn.size = H.size := o_14.1.trans hz
    refine lv_goto (tgt := 1734) hx hb dL_law_251 (by decide) ?_
    exact kk (ztR (nw, sv, an, hh, ct, ln, cd) (zsRg nw (zfd (zSz nw) 6) w9 (fun _ => 0))) (zun rr (zfd (zSz nw) 6) (7 * 2 ^ (3 * w9))) (bb) (gg) (ee) (cc) _ _ ⟨zInv_r hv (zOk_rg hok q1 (Or.inr hw9) (fun _ _ => ⟨0, by decide, rfl⟩)), hCW, ⟨hr1, hr2, hr3, hr4, hr5⟩, zR_rg hrel q1 (fun e9 => by omega) (fun _ => zLn_zz hw9), hS⟩ n9 hn9 ls (lv_sub hl [2, 3, 4, 5, 6, 7, 8, 9, 10, 13, 0] rfl)

set_option maxHeartbeats 4000000 in
set_option maxRecDepth 100000 in
theorem lw_fill {p : Program} {e : Env} {s : State} {m : MethodId} {b L : Nat} {xs : Nat → Int32} {below : List Frame} {meth : Method} {c : Code} {E : zEnv} {ad : Nat → Nat} {ra ba ga ea ca : Nat} {Q : State → Prop} {i : Nat} (F : zLF E p s m c b L xs) (D : zLA ad ra ba ga ea ca s) (kk : zLJ p e s m b below meth c E ad ra ba ga ea ca Q i) {τ : zT} {rr : Nat → Nat} {bb gg : Nat → Int32} {ee : Nat → Nat} {cc : Nat → Int32} {H : Heap} {locs : List Loc} (hs : zLS E ad ra ba ga ea ca s τ rr bb gg ee cc H locs) {n9 k9 kd : Nat} {h9 : Int32} (hn9 : n9 < 6) (hk9 : 1 ≤ k9 ∧ k9 ≤ 5)  {ls : Array Slot} (hl : lv_has ls 22 [(0, .ref (b)), (1, .ref (ad 287)), (2, .ref (ra)), (3, .ref (ba)), (4, .ref (ga)), (5, .ref (ea)), (6, .ref (ca)), (7, .int (nI (zNl τ.1))), (8, .int (nI (i))), (9, .int (h9)), (10, .int (nI (kd))), (11, .int (nI (n9))), (12, .int (nI (k9))), (13, .int (-1)), (14, .int (nI (1))), (15, .int (zfm (zfd (zSz τ.1) 6)))]) : zLW p e s m b below meth c E Q H locs 260 ls [] := by
  obtain ⟨S, hG, hX, hbl, hL⟩ := id F
  obtain ⟨hinj, hA1, hdis, hge, hd1, hd2, hd3, hd4⟩ := id D
  obtain ⟨hx, hb, hml9, hown, hts⟩ := id S
  have hbA : ¬ (fun q : Nat => s.heap.size ≤ q) b := Nat.not_le.mpr hbl
  obtain ⟨hv, hCW0, hRW, hrel, hS⟩ := hs
  obtain ⟨nw, sv, an, hh, ct, ln, cd⟩ := τ
  have hCW : zCW E ad nw sv an hh ct ln cd H := hCW0
  have hrel : zRel nw rr bb gg ee cc := hrel
  have hok : zOk nw := hv.1
  have hct : ct ≤ 5 := hv.2.2.2.1
  obtain ⟨hr1, hr2, hr3, hr4, hr5⟩ := id hRW
  obtain ⟨f5, h5⟩ := zCW_recv hCW
  obtain ⟨e1r, e2r, e3r, e4r, e5r⟩ := id hrel
  have hml := hok.2.2.2.1
  have hnl := hok.2.2.2.2.1
  have hz : H.size = H.size := rfl
  have hl : lv_has ls 22 [(0, .ref (b)), (1, .ref (ad 287)), (2, .ref (ra)), (3, .ref (ba)), (4, .ref (ga)), (5, .ref (ea)), (6, .ref (ca)), (7, .int (nI (zNl nw))), (8, .int (nI (i))), (9, .int (h9)), (10, .int (nI (kd))), (11, .int (nI (n9))), (12, .int (nI (k9))), (13, .int (-1)), (14, .int (nI (1))), (15, .int (zfm (zfd (zSz nw) 6)))] := hl
  refine lv_iload hx hb dL_law_260 (lv_at hl 9 rfl) ?_
  refine lv_bipush (v := nI (11)) hx hb dL_law_262 (by decide) ?_
  refine lv_ishr hx hb dL_law_264 ?_
  refine lv_iload hx hb dL_law_265 (lv_at hl 9 rfl) ?_
  refine lv_bipush (v := nI (26)) hx hb dL_law_267 (by decide) ?_
  refine lv_ishr hx hb dL_law_269 ?_
  refine lv_iconst (v := nI (2)) hx hb dL_law_270 (by decide) ?_
  refine z_roSX (As := [.int ((h9) >>> (nI (26) &&& 31)), .int (nI (2))]) (rest := [.int ((h9) >>> (nI (11) &&& 31))]) S hG (c_L_low E (v := (h9) >>> (nI (26) &&& 31)) (n := 2) ⟨by omega, by omega⟩) 2 gL_law_L_low rfl kL_low.2 ⟨Nat.le_of_ble_eq_true rfl, Nat.le_of_ble_eq_true rfl⟩ ⟨Nat.le_of_ble_eq_true rfl, Nat.le_of_ble_eq_true rfl⟩ (trivial) rfl hl.1 rfl rfl (Nat.le_of_ble_eq_true rfl) dL_law_271 ?_
  refine z_fne (tgt := 282) hx hb dL_law_274 (by decide) (by have h8 := zlw_lt (h9 >>> (nI (26) &&& 31)) (n := 2) (by decide); omega) (fun c_1 => ?_) (fun c_1 => ?_)
  · refine lv_bipush (v := nI (20)) hx hb dL_law_282 (by decide) ?_
    refine z_roSX (As := [.int ((h9) >>> (nI (11) &&& 31)), .int (nI (20))]) (rest := []) S hG (c_L_low E (v := (h9) >>> (nI (11) &&& 31)) (n := 20) ⟨by omega, by omega⟩) 2 gL_law_L_low rfl kL_low.2 ⟨Nat.le_of_ble_eq_true rfl, Nat.le_of_ble_eq_true rfl⟩ ⟨Nat.le_of_ble_eq_true rfl, Nat.le_of_ble_eq_true rfl⟩ (trivial) rfl hl.1 rfl rfl (Nat.le_of_ble_eq_true rfl) dL_law_284 ?_
    refine lv_istore (lv' := [(16, .int (nI (zlw ((h9) >>> (nI (11) &&& 31)) 20))), (0, .ref (b)), (1, .ref (ad 287)), (2, .ref (ra)), (3, .ref (ba)), (4, .ref (ga)), (5, .ref (ea)), (6, .ref (ca)), (7, .int (nI (zNl nw))), (8, .int (nI (i))), (9, .int (h9)), (10, .int (nI (kd))), (11, .int (nI (n9))), (12, .int (nI (k9))), (13, .int (-1)), (14, .int (nI (1))), (15, .int (zfm (zfd (zSz nw) 6)))]) hx hb dL_law_287 hl (by decide) rfl (fun ls hl => ?_)
    refine lv_aload_n hx hb dL_law_289 rfl (lv_at hl 2 rfl) ?_
    refine lv_iload hx hb dL_law_290 (lv_at hl 13 rfl) ?_
    refine lv_iload hx hb dL_law_292 (lv_at hl 0 rfl) ?_
    refine z_wrV (As := [.int (nI (k9)), .int (nI (zlw ((h9) >>> (nI (11) &&& 31)) 20))]) (rest := []) (q := (RX5, TX5, 7)) S hG (c_X5_fill_2 E (j := k9) (w := zlw ((h9) >>> (nI (11) &&& 31)) 20) hok hinj hct hk9 ⟨Nat.zero_le _, by have h8 := zlw_lt (h9 >>> (nI (11) &&& 31)) (n := 20) (by decide); omega⟩) 2 gL_law_X5_fill rfl kX5_fill ⟨Nat.le_of_ble_eq_true rfl, Nat.le_of_ble_eq_true rfl⟩ ⟨Nat.le_of_ble_eq_true rfl, Nat.le_of_ble_eq_true rfl⟩ (hCW) rfl h5 rfl hl.1 rfl rfl (Nat.le_of_ble_eq_true rfl) dL_law_294 hS (fun q h => hA1 q h) (fun Hn locs h_3 q_2 o_4 hS => ?_)
    have hz : Hn.size = H.size := q_2.trans hz
    have hCW := h_3
    have hr1 := va_at.kept hr1 (o_4 _ (hdis _ (Or.inl rfl)))
    have hr2 := va_at.kept hr2 (o_4 _ (hdis _ (Or.inr (Or.inl rfl))))
    have hr3 := va_at.kept hr3 (o_4 _ (hdis _ (Or.inr (Or.inr (Or.inl rfl)))))
    have hr4 := va_at.kept hr4 (o_4 _ (hdis _ (Or.inr (Or.inr (Or.inr (Or.inl rfl))))))
    have hr5 := va_at.kept hr5 (o_4 _ (hdis _ (Or.inr (Or.inr (Or.inr (Or.inr rfl))))))
    obtain ⟨f5, h5⟩ := zCW_recv hCW
    refine lv_aload_n hx hb dL_law_297 rfl (lv_at hl 4 rfl) ?_
    refine lv_iload hx hb dL_law_298 (lv_at hl 13 rfl) ?_
    refine lv_iconst (v := nI (1)) hx hb dL_law_300 (by decide) ?_
    refine z_isub hx hb dL_law_301 (by omega) ?_
    refine z_iald (j := k9 - 1) hx hb hG hr2 ⟨by omega, by omega⟩ dL_law_302 ?_
    refine z_top (y := (zBx nw k9)) ((e2r k9 hk9.1 hk9.2).1) ?_
    refine lv_icmp_ne (tgt := 310) hx hb dL_law_303 (by decide) (fun c_5 => by exfalso; exact c_5 rfl) (fun c_5 => ?_)
    refine lv_iconst (v := nI (1)) hx hb dL_law_306 (by decide) ?_
    refine lv_goto (tgt := 311) hx hb dL_law_307 (by decide) ?_
    refine lv_istore (lv' := [(14, .int (nI (1))), (16, .int (nI (zlw ((h9) >>> (nI (11) &&& 31)) 20))), (0, .ref (b)), (1, .ref (ad 287)), (2, .ref (ra)), (3, .ref (ba)), (4, .ref (ga)), (5, .ref (ea)), (6, .ref (ca)), (7, .int (nI (zNl nw))), (8, .int (nI (i))), (9, .int (h9)), (10, .int (nI (kd))), (11, .int (nI (n9))), (12, .int (nI (k9))), (13, .int (-1)), (15, .int (zfm (zfd (zSz nw) 6)))]) hx hb dL_law_311 hl (by decide) rfl (fun ls hl => ?_)
    refine lv_aload_n hx hb dL_law_313 rfl (lv_at hl 5 rfl) ?_
    refine lv_iload hx hb dL_law_314 (lv_at hl 14 rfl) ?_
    refine lv_iconst (v := nI (1)) hx hb dL_law_316 (by decide) ?_
    refine z_isub hx hb dL_law_317 (by omega) ?_
    refine lv_iload hx hb dL_law_318 (lv_at hl 1 rfl) ?_
    refine z_iast (j := k9 - 1) hx hb hG hr2 ⟨by omega, by omega⟩ hS (hge _ (Or.inr (Or.inl rfl))) dL_law_320 (fun Hn locs h_6 o_7 hS => ?_)
    have hCW := zCW_kept hCW (fun q hq => o_7.2 q (fun e9 => hdis q (by rw [e9]; exact Or.inr (Or.inl rfl)) hq))
    have hr1 := va_at.kept hr1 (o_7.2 _ (by omega))
    have hr2 := h_6
    have hr3 := va_at.kept hr3 (o_7.2 _ (by omega))
    have hr4 := va_at.kept hr4 (o_7.2 _ (by omega))
    have hr5 := va_at.kept hr5 (o_7.2 _ (by omega))
    obtain ⟨f5, h5⟩ := zCW_recv hCW
    have hz : Hn.size = H.size := o_7.1.trans hz
    refine lv_goto (tgt := 1734) hx hb dL_law_321 (by decide) ?_
    exact kk (ztR (nw, sv, an, hh, ct, ln, cd) (zsBx nw (upd (zBx nw) k9 (nI (zlw ((h9) >>> (nI (11) &&& 31)) 20))))) (rr) (upd bb (k9 - 1) (nI (zlw ((h9) >>> (nI (11) &&& 31)) 20))) (gg) (ee) (cc) _ _ ⟨zInv_r hv (zOk_bx1 hok (by have h8 := zlw_lt (h9 >>> (nI (11) &&& 31)) (n := 20) (by decide); omega)), hCW, ⟨hr1, hr2, hr3, hr4, hr5⟩, zR_b1 hrel hk9, hS⟩ n9 hn9 ls (lv_sub hl [2, 3, 4, 5, 6, 7, 8, 9, 10, 13, 0] rfl)
  · refine lv_bipush (v := nI (100)) hx hb dL_law_277 (by decide) ?_
    refine lv_goto (tgt := 284) hx hb dL_law_279 (by decide) ?_
    refine z_roSX (As := [.int ((h9) >>> (nI (11) &&& 31)), .int (nI (100))]) (rest := []) S hG (c_L_low E (v := (h9) >>> (nI (11) &&& 31)) (n := 100) ⟨by omega, by omega⟩) 2 gL_law_L_low rfl kL_low.2 ⟨Nat.le_of_ble_eq_true rfl, Nat.le_of_ble_eq_true rfl⟩ ⟨Nat.le_of_ble_eq_true rfl, Nat.le_of_ble_eq_true rfl⟩ (trivial) rfl hl.1 rfl rfl (Nat.le_of_ble_eq_true rfl) dL_law_284 ?_
    refine lv_istore (lv' := [(16, .int (nI (zlw ((h9) >>> (nI (11) &&& 31)) 100))), (0, .ref (b)), (1, .ref (ad 287)), (2, .ref (ra)), (3, .ref (ba)), (4, .ref (ga)), (5, .ref (ea)), (6, .ref (ca)), (7, .int (nI (zNl nw))), (8, .int (nI (i))), (9, .int (h9)), (10, .int (nI (kd))), (11, .int (nI (n9))), (12, .int (nI (k9))), (13, .int (-1)), (14, .int (nI (1))), (15, .int (zfm (zfd (zSz nw) 6)))]) hx hb dL_law_287 hl (by decide) rfl (fun ls hl => ?_)
    refine lv_aload_n hx hb dL_law_289 rfl (lv_at hl 2 rfl) ?_
    refine lv_iload hx hb dL_law_290 (lv_at hl 13 rfl) ?_
    refine lv_iload hx hb dL_law_292 (lv_at hl 0 rfl) ?_
    refine z_wrV (As := [.int (nI (k9)), .int (nI (zlw ((h9) >>> (nI (11) &&& 31)) 100))]) (rest := []) (q := (RX5, TX5, 7)) S hG (c_X5_fill_2 E (j := k9) (w := zlw ((h9) >>> (nI (11) &&& 31)) 100) hok hinj hct hk9 ⟨Nat.zero_le _, by have h8 := zlw_lt (h9 >>> (nI (11) &&& 31)) (n := 100) (by decide); omega⟩) 2 gL_law_X5_fill rfl kX5_fill ⟨Nat.le_of_ble_eq_true rfl, Nat.le_of_ble_eq_true rfl⟩ ⟨Nat.le_of_ble_eq_true rfl, Nat.le_of_ble_eq_true rfl⟩ (hCW) rfl h5 rfl hl.1 rfl rfl (Nat.le_of_ble_eq_true rfl) dL_law_294 hS (fun q h => hA1 q h) (fun Hn locs h_9 q_8 o_10 hS => ?_)
    have hz : Hn.size = H.size := q_8.trans hz
    have hCW := h_9
    have hr1 := va_at.kept hr1 (o_10 _ (hdis _ (Or.inl rfl)))
    have hr2 := va_at.kept hr2 (o_10 _ (hdis _ (Or.inr (Or.inl rfl))))
    have hr3 := va_at.kept hr3 (o_10 _ (hdis _ (Or.inr (Or.inr (Or.inl rfl)))))
    have hr4 := va_at.kept hr4 (o_10 _ (hdis _ (Or.inr (Or.inr (Or.inr (Or.inl rfl))))))
    have hr5 := va_at.kept hr5 (o_10 _ (hdis _ (Or.inr (Or.inr (Or.inr (Or.inr rfl))))))
    obtain ⟨f5, h5⟩ := zCW_recv hCW
    refine lv_aload_n hx hb dL_law_297 rfl (lv_at hl 4 rfl) ?_
    refine lv_iload hx hb dL_law_298 (lv_at hl 13 rfl) ?_
    refine lv_iconst (v := nI (1)) hx hb dL_law_300 (by decide) ?_
    refine z_isub hx hb dL_law_301 (by omega) ?_
    refine z_iald (j := k9 - 1) hx hb hG hr2 ⟨by omega, by omega⟩ dL_law_302 ?_
    refine z_top (y := (zBx nw k9)) ((e2r k9 hk9.1 hk9.2).1) ?_
    refine lv_icmp_ne (tgt := 310) hx hb dL_law_303 (by decide) (fun c_11 => by exfalso; exact c_11 rfl) (fun c_11 => ?_)
    refine lv_iconst (v := nI (1)) hx hb dL_law_306 (by decide) ?_
    refine lv_goto (tgt := 311) hx hb dL_law_307 (by decide) ?_
    refine lv_istore (lv' := [(14, .int (nI (1))), (16, .int (nI (zlw ((h9) >>> (nI (11) &&& 31)) 100))), (0, .ref (b)), (1, .ref (ad 287)), (2, .ref (ra)), (3, .ref (ba)), (4, .ref (ga)), (5, .ref (ea)), (6, .ref (ca)), (7, .int (nI (zNl nw))), (8, .int (nI (i))), (9, .int (h9)), (10, .int (nI (kd))), (11, .int (nI (n9))), (12, .int (nI (k9))), (13, .int (-1)), (15, .int (zfm (zfd (zSz nw) 6)))]) hx hb dL_law_311 hl (by decide) rfl (fun ls hl => ?_)
    refine lv_aload_n hx hb dL_law_313 rfl (lv_at hl 5 rfl) ?_
    refine lv_iload hx hb dL_law_314 (lv_at hl 14 rfl) ?_
    refine lv_iconst (v := nI (1)) hx hb dL_law_316 (by decide) ?_
    refine z_isub hx hb dL_law_317 (by omega) ?_
    refine lv_iload hx hb dL_law_318 (lv_at hl 1 rfl) ?_
    refine z_iast (j := k9 - 1) hx hb hG hr2 ⟨by omega, by omega⟩ hS (hge _ (Or.inr (Or.inl rfl))) dL_law_320 (fun Hn locs h_12 o_13 hS => ?_)
    have hCW := zCW_kept hCW (fun q hq => o_13.2 q (fun e9 => hdis q (by rw [e9]; exact Or.inr (Or.inl rfl)) hq))
    have hr1 := va_at.kept hr1 (o_13.2 _ (by omega))
    have hr2 := h_12
    have hr3 := va_at.kept hr3 (o_13.2 _ (by omega))
    have hr4 := va_at.kept hr4 (o_13.2 _ (by omega))
    have hr5 := va_at.kept hr5 (o_13.2 _ (by omega))
    obtain ⟨f5, h5⟩ := zCW_recv hCW
    have hz : Hn.size = H.size := o_13.1.trans hz
    refine lv_goto (tgt := 1734) hx hb dL_law_321 (by decide) ?_
    exact kk (ztR (nw, sv, an, hh, ct, ln, cd) (zsBx nw (upd (zBx nw) k9 (nI (zlw ((h9) >>> (nI (11) &&& 31)) 100))))) (rr) (upd bb (k9 - 1) (nI (zlw ((h9) >>> (nI (11) &&& 31)) 100))) (gg) (ee) (cc) _ _ ⟨zInv_r hv (zOk_bx1 hok (by have h8 := zlw_lt (h9 >>> (nI (11) &&& 31)) (n := 100) (by decide); omega)), hCW, ⟨hr1, hr2, hr3, hr4, hr5⟩, zR_b1 hrel hk9, hS⟩ n9 hn9 ls (lv_sub hl [2, 3, 4, 5, 6, 7, 8, 9, 10, 13, 0] rfl)

set_option maxHeartbeats 4000000 in
set_option maxRecDepth 100000 in
theorem lw_weigh {p : Program} {e : Env} {s : State} {m : MethodId} {b L : Nat} {xs : Nat → Int32} {below : List Frame} {meth : Method} {c : Code} {E : zEnv} {ad : Nat → Nat} {ra ba ga ea ca : Nat} {Q : State → Prop} {i : Nat} (F : zLF E p s m c b L xs) (D : zLA ad ra ba ga ea ca s) (kk : zLJ p e s m b below meth c E ad ra ba ga ea ca Q i) {τ : zT} {rr : Nat → Nat} {bb gg : Nat → Int32} {ee : Nat → Nat} {cc : Nat → Int32} {H : Heap} {locs : List Loc} (hs : zLS E ad ra ba ga ea ca s τ rr bb gg ee cc H locs) {n9 k9 kd : Nat} {h9 : Int32} (hn9 : n9 < 6) (hk9 : 1 ≤ k9 ∧ k9 ≤ 5)  {ls : Array Slot} (hl : lv_has ls 22 [(0, .ref (b)), (1, .ref (ad 287)), (2, .ref (ra)), (3, .ref (ba)), (4, .ref (ga)), (5, .ref (ea)), (6, .ref (ca)), (7, .int (nI (zNl τ.1))), (8, .int (nI (i))), (9, .int (h9)), (10, .int (nI (kd))), (11, .int (nI (n9))), (12, .int (nI (k9))), (13, .int (-1)), (14, .int (nI (1))), (15, .int (zfm (zfd (zSz τ.1) 6)))]) : zLW p e s m b below meth c E Q H locs 330 ls [] := by
  obtain ⟨S, hG, hX, hbl, hL⟩ := id F
  obtain ⟨hinj, hA1, hdis, hge, hd1, hd2, hd3, hd4⟩ := id D
  obtain ⟨hx, hb, hml9, hown, hts⟩ := id S
  have hbA : ¬ (fun q : Nat => s.heap.size ≤ q) b := Nat.not_le.mpr hbl
  obtain ⟨hv, hCW0, hRW, hrel, hS⟩ := hs
  obtain ⟨nw, sv, an, hh, ct, ln, cd⟩ := τ
  have hCW : zCW E ad nw sv an hh ct ln cd H := hCW0
  have hrel : zRel nw rr bb gg ee cc := hrel
  have hok : zOk nw := hv.1
  have hct : ct ≤ 5 := hv.2.2.2.1
  obtain ⟨hr1, hr2, hr3, hr4, hr5⟩ := id hRW
  obtain ⟨f5, h5⟩ := zCW_recv hCW
  obtain ⟨e1r, e2r, e3r, e4r, e5r⟩ := id hrel
  have hml := hok.2.2.2.1
  have hnl := hok.2.2.2.2.1
  have hz : H.size = H.size := rfl
  have hl : lv_has ls 22 [(0, .ref (b)), (1, .ref (ad 287)), (2, .ref (ra)), (3, .ref (ba)), (4, .ref (ga)), (5, .ref (ea)), (6, .ref (ca)), (7, .int (nI (zNl nw))), (8, .int (nI (i))), (9, .int (h9)), (10, .int (nI (kd))), (11, .int (nI (n9))), (12, .int (nI (k9))), (13, .int (-1)), (14, .int (nI (1))), (15, .int (zfm (zfd (zSz nw) 6)))] := hl
  refine lv_iconst (v := nI (1)) hx hb dL_law_330 (by decide) ?_
  refine lv_iload hx hb dL_law_331 (lv_at hl 9 rfl) ?_
  refine lv_bipush (v := nI (11)) hx hb dL_law_333 (by decide) ?_
  refine lv_ishr hx hb dL_law_335 ?_
  refine lv_bipush (v := nI (50)) hx hb dL_law_336 (by decide) ?_
  refine z_roSX (As := [.int ((h9) >>> (nI (11) &&& 31)), .int (nI (50))]) (rest := [.int (nI (1))]) S hG (c_L_low E (v := (h9) >>> (nI (11) &&& 31)) (n := 50) ⟨by omega, by omega⟩) 2 gL_law_L_low rfl kL_low.2 ⟨Nat.le_of_ble_eq_true rfl, Nat.le_of_ble_eq_true rfl⟩ ⟨Nat.le_of_ble_eq_true rfl, Nat.le_of_ble_eq_true rfl⟩ (trivial) rfl hl.1 rfl rfl (Nat.le_of_ble_eq_true rfl) dL_law_338 ?_
  refine z_iadd hx hb dL_law_341 ?_
  refine lv_istore (lv' := [(16, .int (nI (1 + (zlw ((h9) >>> (nI (11) &&& 31)) 50)))), (0, .ref (b)), (1, .ref (ad 287)), (2, .ref (ra)), (3, .ref (ba)), (4, .ref (ga)), (5, .ref (ea)), (6, .ref (ca)), (7, .int (nI (zNl nw))), (8, .int (nI (i))), (9, .int (h9)), (10, .int (nI (kd))), (11, .int (nI (n9))), (12, .int (nI (k9))), (13, .int (-1)), (14, .int (nI (1))), (15, .int (zfm (zfd (zSz nw) 6)))]) hx hb dL_law_342 hl (by decide) rfl (fun ls hl => ?_)
  refine lv_aload_n hx hb dL_law_344 rfl (lv_at hl 2 rfl) ?_
  refine lv_iload hx hb dL_law_345 (lv_at hl 13 rfl) ?_
  refine lv_iload hx hb dL_law_347 (lv_at hl 0 rfl) ?_
  refine z_wrV (As := [.int (nI (k9)), .int (nI (1 + (zlw ((h9) >>> (nI (11) &&& 31)) 50)))]) (rest := []) (q := (RX5, TX5, 7)) S hG (c_X5_weigh_2 E (j := k9) (w := 1 + zlw (h9 >>> (nI (11) &&& 31)) 50) hok hinj hct hk9 ⟨by omega, by have h8 := zlw_lt (h9 >>> (nI (11) &&& 31)) (n := 50) (by decide); omega⟩) 2 gL_law_X5_weigh rfl kX5_weigh ⟨Nat.le_of_ble_eq_true rfl, Nat.le_of_ble_eq_true rfl⟩ ⟨Nat.le_of_ble_eq_true rfl, Nat.le_of_ble_eq_true rfl⟩ (hCW) rfl h5 rfl hl.1 rfl rfl (Nat.le_of_ble_eq_true rfl) dL_law_349 hS (fun q h => hA1 q h) (fun Hn locs h_2 q_1 o_3 hS => ?_)
  have hz : Hn.size = H.size := q_1.trans hz
  have hCW := h_2
  have hr1 := va_at.kept hr1 (o_3 _ (hdis _ (Or.inl rfl)))
  have hr2 := va_at.kept hr2 (o_3 _ (hdis _ (Or.inr (Or.inl rfl))))
  have hr3 := va_at.kept hr3 (o_3 _ (hdis _ (Or.inr (Or.inr (Or.inl rfl)))))
  have hr4 := va_at.kept hr4 (o_3 _ (hdis _ (Or.inr (Or.inr (Or.inr (Or.inl rfl))))))
  have hr5 := va_at.kept hr5 (o_3 _ (hdis _ (Or.inr (Or.inr (Or.inr (Or.inr rfl))))))
  obtain ⟨f5, h5⟩ := zCW_recv hCW
  refine lv_aload_n hx hb dL_law_352 rfl (lv_at hl 4 rfl) ?_
  refine lv_iconst (v := nI (4)) hx hb dL_law_353 (by decide) ?_
  refine lv_iload hx hb dL_law_354 (lv_at hl 13 rfl) ?_
  refine z_iadd hx hb dL_law_356 ?_
  refine z_iald (j := 4 + k9) hx hb hG hr2 ⟨by omega, by omega⟩ dL_law_357 ?_
  refine z_top (y := (zWt nw k9)) ((e2r k9 hk9.1 hk9.2).2) ?_
  refine lv_icmp_ne (tgt := 365) hx hb dL_law_358 (by decide) (fun c_4 => by exfalso; exact c_4 rfl) (fun c_4 => ?_)
  refine lv_iconst (v := nI (1)) hx hb dL_law_361 (by decide) ?_
  refine lv_goto (tgt := 366) hx hb dL_law_362 (by decide) ?_
  refine lv_istore (lv' := [(14, .int (nI (1))), (16, .int (nI (1 + (zlw ((h9) >>> (nI (11) &&& 31)) 50)))), (0, .ref (b)), (1, .ref (ad 287)), (2, .ref (ra)), (3, .ref (ba)), (4, .ref (ga)), (5, .ref (ea)), (6, .ref (ca)), (7, .int (nI (zNl nw))), (8, .int (nI (i))), (9, .int (h9)), (10, .int (nI (kd))), (11, .int (nI (n9))), (12, .int (nI (k9))), (13, .int (-1)), (15, .int (zfm (zfd (zSz nw) 6)))]) hx hb dL_law_366 hl (by decide) rfl (fun ls hl => ?_)
  refine lv_aload_n hx hb dL_law_368 rfl (lv_at hl 5 rfl) ?_
  refine lv_iconst (v := nI (4)) hx hb dL_law_369 (by decide) ?_
  refine lv_iload hx hb dL_law_370 (lv_at hl 14 rfl) ?_
  refine z_iadd hx hb dL_law_372 ?_
  refine lv_iload hx hb dL_law_373 (lv_at hl 1 rfl) ?_
  refine z_iast (j := 4 + k9) hx hb hG hr2 ⟨by omega, by omega⟩ hS (hge _ (Or.inr (Or.inl rfl))) dL_law_375 (fun Hn locs h_5 o_6 hS => ?_)
  have hCW := zCW_kept hCW (fun q hq => o_6.2 q (fun e9 => hdis q (by rw [e9]; exact Or.inr (Or.inl rfl)) hq))
  have hr1 := va_at.kept hr1 (o_6.2 _ (by omega))
  have hr2 := h_5
  have hr3 := va_at.kept hr3 (o_6.2 _ (by omega))
  have hr4 := va_at.kept hr4 (o_6.2 _ (by omega))
  have hr5 := va_at.kept hr5 (o_6.2 _ (by omega))
  obtain ⟨f5, h5⟩ := zCW_recv hCW
  have hz : Hn.size = H.size := o_6.1.trans hz
  refine lv_goto (tgt := 1734) hx hb dL_law_376 (by decide) ?_
  exact kk (ztR (nw, sv, an, hh, ct, ln, cd) (zsWt nw (upd (zWt nw) k9 (nI (1 + zlw (h9 >>> (nI (11) &&& 31)) 50))))) (rr) (upd bb (4 + k9) (nI (1 + (zlw ((h9) >>> (nI (11) &&& 31)) 50)))) (gg) (ee) (cc) _ _ ⟨zInv_r hv (zOk_wt hok), hCW, ⟨hr1, hr2, hr3, hr4, hr5⟩, zR_w1 hrel hk9, hS⟩ n9 hn9 ls (lv_sub hl [2, 3, 4, 5, 6, 7, 8, 9, 10, 13, 0] rfl)

set_option maxHeartbeats 4000000 in
set_option maxRecDepth 100000 in
theorem lw_sign {p : Program} {e : Env} {s : State} {m : MethodId} {b L : Nat} {xs : Nat → Int32} {below : List Frame} {meth : Method} {c : Code} {E : zEnv} {ad : Nat → Nat} {ra ba ga ea ca : Nat} {Q : State → Prop} {i : Nat} (F : zLF E p s m c b L xs) (D : zLA ad ra ba ga ea ca s) (kk : zLJ p e s m b below meth c E ad ra ba ga ea ca Q i) {τ : zT} {rr : Nat → Nat} {bb gg : Nat → Int32} {ee : Nat → Nat} {cc : Nat → Int32} {H : Heap} {locs : List Loc} (hs : zLS E ad ra ba ga ea ca s τ rr bb gg ee cc H locs) {n9 k9 kd : Nat} {h9 : Int32} (hn9 : n9 < 6) (hk9 : 1 ≤ k9 ∧ k9 ≤ 5)  {ls : Array Slot} (hl : lv_has ls 22 [(0, .ref (b)), (1, .ref (ad 287)), (2, .ref (ra)), (3, .ref (ba)), (4, .ref (ga)), (5, .ref (ea)), (6, .ref (ca)), (7, .int (nI (zNl τ.1))), (8, .int (nI (i))), (9, .int (h9)), (10, .int (nI (kd))), (11, .int (nI (n9))), (12, .int (nI (k9))), (13, .int (-1)), (14, .int (nI (1))), (15, .int (zfm (zfd (zSz τ.1) 6)))]) : zLW p e s m b below meth c E Q H locs 385 ls [] := by
  obtain ⟨S, hG, hX, hbl, hL⟩ := id F
  obtain ⟨hinj, hA1, hdis, hge, hd1, hd2, hd3, hd4⟩ := id D
  obtain ⟨hx, hb, hml9, hown, hts⟩ := id S
  have hbA : ¬ (fun q : Nat => s.heap.size ≤ q) b := Nat.not_le.mpr hbl
  obtain ⟨hv, hCW0, hRW, hrel, hS⟩ := hs
  obtain ⟨nw, sv, an, hh, ct, ln, cd⟩ := τ
  have hCW : zCW E ad nw sv an hh ct ln cd H := hCW0
  have hrel : zRel nw rr bb gg ee cc := hrel
  have hok : zOk nw := hv.1
  have hct : ct ≤ 5 := hv.2.2.2.1
  obtain ⟨hr1, hr2, hr3, hr4, hr5⟩ := id hRW
  obtain ⟨f5, h5⟩ := zCW_recv hCW
  obtain ⟨e1r, e2r, e3r, e4r, e5r⟩ := id hrel
  have hml := hok.2.2.2.1
  have hnl := hok.2.2.2.2.1
  have hz : H.size = H.size := rfl
  have hl : lv_has ls 22 [(0, .ref (b)), (1, .ref (ad 287)), (2, .ref (ra)), (3, .ref (ba)), (4, .ref (ga)), (5, .ref (ea)), (6, .ref (ca)), (7, .int (nI (zNl nw))), (8, .int (nI (i))), (9, .int (h9)), (10, .int (nI (kd))), (11, .int (nI (n9))), (12, .int (nI (k9))), (13, .int (-1)), (14, .int (nI (1))), (15, .int (zfm (zfd (zSz nw) 6)))] := hl
  obtain ⟨at9, hat0⟩ : ∃ y : Nat, y = zlw (h9 >>> (nI (14) &&& 31)) (zMl nw + 2) := ⟨_, rfl⟩
  have hat9 : at9 < zMl nw + 2 := by rw [hat0]; exact zlw_lt _ (by omega)
  refine lv_iload hx hb dL_law_385 (lv_at hl 9 rfl) ?_
  refine lv_bipush (v := nI (11)) hx hb dL_law_387 (by decide) ?_
  refine lv_ishr hx hb dL_law_389 ?_
  refine lv_bipush (v := nI (7)) hx hb dL_law_390 (by decide) ?_
  refine z_roSX (As := [.int ((h9) >>> (nI (11) &&& 31)), .int (nI (7))]) (rest := []) S hG (c_L_low E (v := (h9) >>> (nI (11) &&& 31)) (n := 7) ⟨by omega, by omega⟩) 2 gL_law_L_low rfl kL_low.2 ⟨Nat.le_of_ble_eq_true rfl, Nat.le_of_ble_eq_true rfl⟩ ⟨Nat.le_of_ble_eq_true rfl, Nat.le_of_ble_eq_true rfl⟩ (trivial) rfl hl.1 rfl rfl (Nat.le_of_ble_eq_true rfl) dL_law_392 ?_
  refine lv_istore (lv' := [(16, .int (nI (zlw ((h9) >>> (nI (11) &&& 31)) 7))), (0, .ref (b)), (1, .ref (ad 287)), (2, .ref (ra)), (3, .ref (ba)), (4, .ref (ga)), (5, .ref (ea)), (6, .ref (ca)), (7, .int (nI (zNl nw))), (8, .int (nI (i))), (9, .int (h9)), (10, .int (nI (kd))), (11, .int (nI (n9))), (12, .int (nI (k9))), (13, .int (-1)), (14, .int (nI (1))), (15, .int (zfm (zfd (zSz nw) 6)))]) hx hb dL_law_395 hl (by decide) rfl (fun ls hl => ?_)
  refine lv_iload hx hb dL_law_397 (lv_at hl 0 rfl) ?_
  refine lv_bipush (v := nI (6)) hx hb dL_law_399 (by decide) ?_
  refine z_cne (tgt := 409) hx hb dL_law_401 (by decide) ⟨by have h8 := zlw_lt (h9 >>> (nI (11) &&& 31)) (n := 7) (by decide); omega, by omega⟩ (fun c_1 => ?_) (fun c_1 => ?_)
  · refine lv_iload hx hb dL_law_409 (lv_at hl 0 rfl) ?_
    refine lv_istore (lv' := [(16, .int (nI (zlw ((h9) >>> (nI (11) &&& 31)) 7))), (0, .ref (b)), (1, .ref (ad 287)), (2, .ref (ra)), (3, .ref (ba)), (4, .ref (ga)), (5, .ref (ea)), (6, .ref (ca)), (7, .int (nI (zNl nw))), (8, .int (nI (i))), (9, .int (h9)), (10, .int (nI (kd))), (11, .int (nI (n9))), (12, .int (nI (k9))), (13, .int (-1)), (14, .int (nI (1))), (15, .int (zfm (zfd (zSz nw) 6)))]) hx hb dL_law_411 hl (by decide) rfl (fun ls hl => ?_)
    refine lv_iload hx hb dL_law_413 (lv_at hl 10 rfl) ?_
    refine lv_bipush (v := nI (14)) hx hb dL_law_415 (by decide) ?_
    refine lv_ishr hx hb dL_law_417 ?_
    refine lv_aload hx hb dL_law_418 (lv_at hl 5 rfl) ?_
    refine lv_bipush (v := nI (6)) hx hb dL_law_420 (by decide) ?_
    refine z_iald (j := 6) hx hb hG hr3 ⟨by omega, by omega⟩ dL_law_422 ?_
    refine z_top (y := nI (zMl nw)) (e3r) ?_
    refine lv_iconst (v := nI (2)) hx hb dL_law_423 (by decide) ?_
    refine z_iadd hx hb dL_law_424 ?_
    refine z_roSX (As := [.int ((h9) >>> (nI (14) &&& 31)), .int (nI ((zMl nw) + 2))]) (rest := []) S hG (c_L_low E (v := (h9) >>> (nI (14) &&& 31)) (n := (zMl nw) + 2) ⟨by omega, by omega⟩) 2 gL_law_L_low rfl kL_low.2 ⟨Nat.le_of_ble_eq_true rfl, Nat.le_of_ble_eq_true rfl⟩ ⟨Nat.le_of_ble_eq_true rfl, Nat.le_of_ble_eq_true rfl⟩ (trivial) rfl hl.1 rfl rfl (Nat.le_of_ble_eq_true rfl) dL_law_425 ?_
    refine z_top (y := nI (at9)) (by rw [hat0]) ?_
    refine lv_istore (lv' := [(17, .int (nI (at9))), (16, .int (nI (zlw ((h9) >>> (nI (11) &&& 31)) 7))), (0, .ref (b)), (1, .ref (ad 287)), (2, .ref (ra)), (3, .ref (ba)), (4, .ref (ga)), (5, .ref (ea)), (6, .ref (ca)), (7, .int (nI (zNl nw))), (8, .int (nI (i))), (9, .int (h9)), (10, .int (nI (kd))), (11, .int (nI (n9))), (12, .int (nI (k9))), (13, .int (-1)), (14, .int (nI (1))), (15, .int (zfm (zfd (zSz nw) 6)))]) hx hb dL_law_428 hl (by decide) rfl (fun ls hl => ?_)
    refine lv_iload hx hb dL_law_430 (lv_at hl 0 rfl) ?_
    refine lv_aload hx hb dL_law_432 (lv_at hl 6 rfl) ?_
    refine lv_bipush (v := nI (6)) hx hb dL_law_434 (by decide) ?_
    refine z_iald (j := 6) hx hb hG hr3 ⟨by omega, by omega⟩ dL_law_436 ?_
    refine z_top (y := nI (zMl nw)) (e3r) ?_
    refine z_cgt (tgt := 451) hx hb dL_law_437 (by decide) ⟨by omega, by omega⟩ (fun c_2 => ?_) (fun c_2 => ?_)
    · refine lv_iconst (v := nI (0)) hx hb dL_law_451 (by decide) ?_
      refine lv_istore (lv' := [(18, .int (nI (0))), (17, .int (nI (at9))), (16, .int (nI (zlw ((h9) >>> (nI (11) &&& 31)) 7))), (0, .ref (b)), (1, .ref (ad 287)), (2, .ref (ra)), (3, .ref (ba)), (4, .ref (ga)), (5, .ref (ea)), (6, .ref (ca)), (7, .int (nI (zNl nw))), (8, .int (nI (i))), (9, .int (h9)), (10, .int (nI (kd))), (11, .int (nI (n9))), (12, .int (nI (k9))), (13, .int (-1)), (14, .int (nI (1))), (15, .int (zfm (zfd (zSz nw) 6)))]) hx hb dL_law_452 hl (by decide) rfl (fun ls hl => ?_)
      refine lv_iload hx hb dL_law_454 (lv_at hl 0 rfl) ?_
      refine z_feq (tgt := 493) hx hb dL_law_456 (by decide) (by omega) (fun c_3 => ?_) (fun c_3 => by exfalso; omega)
      refine lv_aload_n hx hb dL_law_493 rfl (lv_at hl 4 rfl) ?_
      refine lv_iload hx hb dL_law_494 (lv_at hl 1 rfl) ?_
      refine lv_iload hx hb dL_law_496 (lv_at hl 2 rfl) ?_
      refine z_wrV (As := [.int (nI (at9)), .int (nI (zlw ((h9) >>> (nI (11) &&& 31)) 7))]) (rest := []) (q := (RX5, TX5, 7)) S hG (c_X5_sign_0 E (x := nI at9) (y := nI (zlw ((h9) >>> (nI (11) &&& 31)) 7)) hok hinj hct (zin_n (by omega) (by omega) (by omega) (by omega))) 2 gL_law_X5_sign rfl kX5_sign ⟨Nat.le_of_ble_eq_true rfl, Nat.le_of_ble_eq_true rfl⟩ ⟨Nat.le_of_ble_eq_true rfl, Nat.le_of_ble_eq_true rfl⟩ (hCW) rfl h5 rfl hl.1 rfl rfl (Nat.le_of_ble_eq_true rfl) dL_law_498 hS (fun q h => hA1 q h) (fun Hn locs h_5 q_4 o_6 hS => ?_)
      have hz : Hn.size = H.size := q_4.trans hz
      have hCW := h_5
      have hr1 := va_at.kept hr1 (o_6 _ (hdis _ (Or.inl rfl)))
      have hr2 := va_at.kept hr2 (o_6 _ (hdis _ (Or.inr (Or.inl rfl))))
      have hr3 := va_at.kept hr3 (o_6 _ (hdis _ (Or.inr (Or.inr (Or.inl rfl)))))
      have hr4 := va_at.kept hr4 (o_6 _ (hdis _ (Or.inr (Or.inr (Or.inr (Or.inl rfl))))))
      have hr5 := va_at.kept hr5 (o_6 _ (hdis _ (Or.inr (Or.inr (Or.inr (Or.inr rfl))))))
      obtain ⟨f5, h5⟩ := zCW_recv hCW
      refine lv_iload hx hb dL_law_501 (lv_at hl 0 rfl) ?_
      refine z_feq (tgt := 514) hx hb dL_law_503 (by decide) (by omega) (fun c_7 => ?_) (fun c_7 => by exfalso; omega)
      refine lv_iload hx hb dL_law_514 (lv_at hl 16 rfl) ?_
      refine lv_icmp_ne (tgt := 523) hx hb dL_law_516 (by decide) (fun c_8 => by exfalso; exact c_8 rfl) (fun c_8 => ?_)
      refine lv_iconst (v := nI (1)) hx hb dL_law_519 (by decide) ?_
      refine lv_goto (tgt := 524) hx hb dL_law_520 (by decide) ?_
      refine lv_istore (lv' := [(14, .int (nI (1))), (18, .int (nI (0))), (17, .int (nI (at9))), (16, .int (nI (zlw ((h9) >>> (nI (11) &&& 31)) 7))), (0, .ref (b)), (1, .ref (ad 287)), (2, .ref (ra)), (3, .ref (ba)), (4, .ref (ga)), (5, .ref (ea)), (6, .ref (ca)), (7, .int (nI (zNl nw))), (8, .int (nI (i))), (9, .int (h9)), (10, .int (nI (kd))), (11, .int (nI (n9))), (12, .int (nI (k9))), (13, .int (-1)), (15, .int (zfm (zfd (zSz nw) 6)))]) hx hb dL_law_524 hl (by decide) rfl (fun ls hl => ?_)
      refine lv_goto (tgt := 1734) hx hb dL_law_526 (by decide) ?_
      exact kk (nw, sv, an, hh, ct, ln, cd) (rr) (bb) (gg) (ee) (cc) _ _ ⟨hv, hCW, ⟨hr1, hr2, hr3, hr4, hr5⟩, hrel, hS⟩ n9 hn9 ls (lv_sub hl [4, 5, 6, 7, 8, 9, 10, 11, 12, 15, 0] rfl)
    · refine lv_iload hx hb dL_law_440 (lv_at hl 0 rfl) ?_
      refine lv_bipush (v := nI (6)) hx hb dL_law_442 (by decide) ?_
      refine z_cge (tgt := 451) hx hb dL_law_444 (by decide) ⟨by omega, by omega⟩ (fun c_9 => ?_) (fun c_9 => ?_)
      · refine lv_iconst (v := nI (0)) hx hb dL_law_451 (by decide) ?_
        refine lv_istore (lv' := [(18, .int (nI (0))), (17, .int (nI (at9))), (16, .int (nI (zlw ((h9) >>> (nI (11) &&& 31)) 7))), (0, .ref (b)), (1, .ref (ad 287)), (2, .ref (ra)), (3, .ref (ba)), (4, .ref (ga)), (5, .ref (ea)), (6, .ref (ca)), (7, .int (nI (zNl nw))), (8, .int (nI (i))), (9, .int (h9)), (10, .int (nI (kd))), (11, .int (nI (n9))), (12, .int (nI (k9))), (13, .int (-1)), (14, .int (nI (1))), (15, .int (zfm (zfd (zSz nw) 6)))]) hx hb dL_law_452 hl (by decide) rfl (fun ls hl => ?_)
        refine lv_iload hx hb dL_law_454 (lv_at hl 0 rfl) ?_
        refine z_feq (tgt := 493) hx hb dL_law_456 (by decide) (by omega) (fun c_10 => ?_) (fun c_10 => by exfalso; omega)
        refine lv_aload_n hx hb dL_law_493 rfl (lv_at hl 4 rfl) ?_
        refine lv_iload hx hb dL_law_494 (lv_at hl 1 rfl) ?_
        refine lv_iload hx hb dL_law_496 (lv_at hl 2 rfl) ?_
        refine z_wrV (As := [.int (nI (at9)), .int (nI (zlw ((h9) >>> (nI (11) &&& 31)) 7))]) (rest := []) (q := (RX5, TX5, 7)) S hG (c_X5_sign_0 E (x := nI at9) (y := nI (zlw ((h9) >>> (nI (11) &&& 31)) 7)) hok hinj hct (zin_n (by omega) (by omega) (by omega) (by omega))) 2 gL_law_X5_sign rfl kX5_sign ⟨Nat.le_of_ble_eq_true rfl, Nat.le_of_ble_eq_true rfl⟩ ⟨Nat.le_of_ble_eq_true rfl, Nat.le_of_ble_eq_true rfl⟩ (hCW) rfl h5 rfl hl.1 rfl rfl (Nat.le_of_ble_eq_true rfl) dL_law_498 hS (fun q h => hA1 q h) (fun Hn locs h_12 q_11 o_13 hS => ?_)
        have hz : Hn.size = H.size := q_11.trans hz
        have hCW := h_12
        have hr1 := va_at.kept hr1 (o_13 _ (hdis _ (Or.inl rfl)))
        have hr2 := va_at.kept hr2 (o_13 _ (hdis _ (Or.inr (Or.inl rfl))))
        have hr3 := va_at.kept hr3 (o_13 _ (hdis _ (Or.inr (Or.inr (Or.inl rfl)))))
        have hr4 := va_at.kept hr4 (o_13 _ (hdis _ (Or.inr (Or.inr (Or.inr (Or.inl rfl))))))
        have hr5 := va_at.kept hr5 (o_13 _ (hdis _ (Or.inr (Or.inr (Or.inr (Or.inr rfl))))))
        obtain ⟨f5, h5⟩ := zCW_recv hCW
        refine lv_iload hx hb dL_law_501 (lv_at hl 0 rfl) ?_
        refine z_feq (tgt := 514) hx hb dL_law_503 (by decide) (by omega) (fun c_14 => ?_) (fun c_14 => by exfalso; omega)
        refine lv_iload hx hb dL_law_514 (lv_at hl 16 rfl) ?_
        refine lv_icmp_ne (tgt := 523) hx hb dL_law_516 (by decide) (fun c_15 => by exfalso; exact c_15 rfl) (fun c_15 => ?_)
        refine lv_iconst (v := nI (1)) hx hb dL_law_519 (by decide) ?_
        refine lv_goto (tgt := 524) hx hb dL_law_520 (by decide) ?_
        refine lv_istore (lv' := [(14, .int (nI (1))), (18, .int (nI (0))), (17, .int (nI (at9))), (16, .int (nI (zlw ((h9) >>> (nI (11) &&& 31)) 7))), (0, .ref (b)), (1, .ref (ad 287)), (2, .ref (ra)), (3, .ref (ba)), (4, .ref (ga)), (5, .ref (ea)), (6, .ref (ca)), (7, .int (nI (zNl nw))), (8, .int (nI (i))), (9, .int (h9)), (10, .int (nI (kd))), (11, .int (nI (n9))), (12, .int (nI (k9))), (13, .int (-1)), (15, .int (zfm (zfd (zSz nw) 6)))]) hx hb dL_law_524 hl (by decide) rfl (fun ls hl => ?_)
        refine lv_goto (tgt := 1734) hx hb dL_law_526 (by decide) ?_
        exact kk (nw, sv, an, hh, ct, ln, cd) (rr) (bb) (gg) (ee) (cc) _ _ ⟨hv, hCW, ⟨hr1, hr2, hr3, hr4, hr5⟩, hrel, hS⟩ n9 hn9 ls (lv_sub hl [4, 5, 6, 7, 8, 9, 10, 11, 12, 15, 0] rfl)
      · refine lv_iconst (v := nI (1)) hx hb dL_law_447 (by decide) ?_
        refine lv_goto (tgt := 452) hx hb dL_law_448 (by decide) ?_
        refine lv_istore (lv' := [(18, .int (nI (1))), (17, .int (nI (at9))), (16, .int (nI (zlw ((h9) >>> (nI (11) &&& 31)) 7))), (0, .ref (b)), (1, .ref (ad 287)), (2, .ref (ra)), (3, .ref (ba)), (4, .ref (ga)), (5, .ref (ea)), (6, .ref (ca)), (7, .int (nI (zNl nw))), (8, .int (nI (i))), (9, .int (h9)), (10, .int (nI (kd))), (11, .int (nI (n9))), (12, .int (nI (k9))), (13, .int (-1)), (14, .int (nI (1))), (15, .int (zfm (zfd (zSz nw) 6)))]) hx hb dL_law_452 hl (by decide) rfl (fun ls hl => ?_)
        refine lv_iload hx hb dL_law_454 (lv_at hl 0 rfl) ?_
        refine z_feq (tgt := 493) hx hb dL_law_456 (by decide) (by omega) (fun c_16 => by exfalso; omega) (fun c_16 => ?_)
        refine lv_aload hx hb dL_law_459 (lv_at hl 7 rfl) ?_
        refine lv_iload hx hb dL_law_461 (lv_at hl 1 rfl) ?_
        refine lv_iload hx hb dL_law_463 (lv_at hl 2 rfl) ?_
        refine z_iast (j := at9) hx hb hG hr3 ⟨by omega, by omega⟩ hS (hge _ (Or.inr (Or.inr (Or.inl rfl)))) dL_law_465 (fun Hn locs h_17 o_18 hS => ?_)
        have hCW := zCW_kept hCW (fun q hq => o_18.2 q (fun e9 => hdis q (by rw [e9]; exact Or.inr (Or.inr (Or.inl rfl))) hq))
        have hr1 := va_at.kept hr1 (o_18.2 _ (by omega))
        have hr2 := va_at.kept hr2 (o_18.2 _ (by omega))
        have hr3 := h_17
        have hr4 := va_at.kept hr4 (o_18.2 _ (by omega))
        have hr5 := va_at.kept hr5 (o_18.2 _ (by omega))
        obtain ⟨f5, h5⟩ := zCW_recv hCW
        have hz : Hn.size = H.size := o_18.1.trans hz
        refine lv_aload hx hb dL_law_466 (lv_at hl 7 rfl) ?_
        refine lv_bipush (v := nI (6)) hx hb dL_law_468 (by decide) ?_
        refine lv_iload hx hb dL_law_470 (lv_at hl 1 rfl) ?_
        refine lv_aload hx hb dL_law_472 (lv_at hl 7 rfl) ?_
        refine lv_bipush (v := nI (6)) hx hb dL_law_474 (by decide) ?_
        refine z_iald (j := 6) hx hb hG hr3 ⟨by omega, by omega⟩ dL_law_476 ?_
        refine z_top (y := nI (zMl nw)) (zsg_6 e3r (by omega)) ?_
        refine z_cne (tgt := 487) hx hb dL_law_477 (by decide) ⟨by omega, by omega⟩ (fun c_19 => ?_) (fun c_19 => ?_)
        · refine lv_aload hx hb dL_law_487 (lv_at hl 7 rfl) ?_
          refine lv_bipush (v := nI (6)) hx hb dL_law_489 (by decide) ?_
          refine z_iald (j := 6) hx hb hG hr3 ⟨by omega, by omega⟩ dL_law_491 ?_
          refine z_top (y := nI (zMl nw)) (zsg_6 e3r (by omega)) ?_
          refine z_iast (j := 6) hx hb hG hr3 ⟨by omega, by omega⟩ hS (hge _ (Or.inr (Or.inr (Or.inl rfl)))) dL_law_492 (fun Hn locs h_20 o_21 hS => ?_)
          have hCW := zCW_kept hCW (fun q hq => o_21.2 q (fun e9 => hdis q (by rw [e9]; exact Or.inr (Or.inr (Or.inl rfl))) hq))
          have hr1 := va_at.kept hr1 (o_21.2 _ (by omega))
          have hr2 := va_at.kept hr2 (o_21.2 _ (by omega))
          have hr3 := h_20
          have hr4 := va_at.kept hr4 (o_21.2 _ (by omega))
          have hr5 := va_at.kept hr5 (o_21.2 _ (by omega))
          obtain ⟨f5, h5⟩ := zCW_recv hCW
          have hz : Hn.size = H.size := o_21.1.trans hz
          refine lv_aload_n hx hb dL_law_493 rfl (lv_at hl 4 rfl) ?_
          refine lv_iload hx hb dL_law_494 (lv_at hl 1 rfl) ?_
          refine lv_iload hx hb dL_law_496 (lv_at hl 2 rfl) ?_
          refine z_wrV (As := [.int (nI (at9)), .int (nI (zlw ((h9) >>> (nI (11) &&& 31)) 7))]) (rest := []) (q := (RX5, TX5, 7)) S hG (c_X5_sign_2k E (i := at9) (y := nI (zlw ((h9) >>> (nI (11) &&& 31)) 7)) hok hinj hct (by omega) (zin_y (by omega) (by have h8 := zlw_lt (h9 >>> (nI (11) &&& 31)) (n := 7) (by decide); omega) (by decide))) 2 gL_law_X5_sign rfl kX5_sign ⟨Nat.le_of_ble_eq_true rfl, Nat.le_of_ble_eq_true rfl⟩ ⟨Nat.le_of_ble_eq_true rfl, Nat.le_of_ble_eq_true rfl⟩ (hCW) rfl h5 rfl hl.1 rfl rfl (Nat.le_of_ble_eq_true rfl) dL_law_498 hS (fun q h => hA1 q h) (fun Hn locs h_23 q_22 o_24 hS => ?_)
          have hz : Hn.size = H.size := q_22.trans hz
          have hCW := h_23
          have hr1 := va_at.kept hr1 (o_24 _ (hdis _ (Or.inl rfl)))
          have hr2 := va_at.kept hr2 (o_24 _ (hdis _ (Or.inr (Or.inl rfl))))
          have hr3 := va_at.kept hr3 (o_24 _ (hdis _ (Or.inr (Or.inr (Or.inl rfl)))))
          have hr4 := va_at.kept hr4 (o_24 _ (hdis _ (Or.inr (Or.inr (Or.inr (Or.inl rfl))))))
          have hr5 := va_at.kept hr5 (o_24 _ (hdis _ (Or.inr (Or.inr (Or.inr (Or.inr rfl))))))
          obtain ⟨f5, h5⟩ := zCW_recv hCW
          refine lv_iload hx hb dL_law_501 (lv_at hl 0 rfl) ?_
          refine z_feq (tgt := 514) hx hb dL_law_503 (by decide) (by omega) (fun c_25 => by exfalso; omega) (fun c_25 => ?_)
          refine lv_aload hx hb dL_law_506 (lv_at hl 7 rfl) ?_
          refine lv_bipush (v := nI (6)) hx hb dL_law_508 (by decide) ?_
          refine z_iald (j := 6) hx hb hG hr3 ⟨by omega, by omega⟩ dL_law_510 ?_
          refine z_top (y := nI (zMl nw)) (if_pos rfl) ?_
          refine lv_goto (tgt := 516) hx hb dL_law_511 (by decide) ?_
          refine lv_icmp_ne (tgt := 523) hx hb dL_law_516 (by decide) (fun c_26 => by exfalso; exact c_26 rfl) (fun c_26 => ?_)
          refine lv_iconst (v := nI (1)) hx hb dL_law_519 (by decide) ?_
          refine lv_goto (tgt := 524) hx hb dL_law_520 (by decide) ?_
          refine lv_istore (lv' := [(14, .int (nI (1))), (18, .int (nI (1))), (17, .int (nI (at9))), (16, .int (nI (zlw ((h9) >>> (nI (11) &&& 31)) 7))), (0, .ref (b)), (1, .ref (ad 287)), (2, .ref (ra)), (3, .ref (ba)), (4, .ref (ga)), (5, .ref (ea)), (6, .ref (ca)), (7, .int (nI (zNl nw))), (8, .int (nI (i))), (9, .int (h9)), (10, .int (nI (kd))), (11, .int (nI (n9))), (12, .int (nI (k9))), (13, .int (-1)), (15, .int (zfm (zfd (zSz nw) 6)))]) hx hb dL_law_524 hl (by decide) rfl (fun ls hl => ?_)
          refine lv_goto (tgt := 1734) hx hb dL_law_526 (by decide) ?_
          exact kk (ztR (nw, sv, an, hh, ct, ln, cd) (zsMo nw (zMl nw) (upd (zSg nw) at9 (nI (zlw ((h9) >>> (nI (11) &&& 31)) 7))))) (rr) (bb) (upd (upd gg at9 (nI (zlw ((h9) >>> (nI (11) &&& 31)) 7))) 6 (nI (zMl nw))) (ee) (cc) _ _ ⟨zInv_r hv (zOk_mo hok hml), hCW, ⟨hr1, hr2, hr3, hr4, hr5⟩, zR_mo hrel (if_pos rfl) (zsg_d e4r (by omega) (by omega)), hS⟩ n9 hn9 ls (lv_sub hl [4, 5, 6, 7, 8, 9, 10, 11, 12, 15, 0] rfl)
        · refine lv_iload hx hb dL_law_480 (lv_at hl 1 rfl) ?_
          refine lv_iconst (v := nI (1)) hx hb dL_law_482 (by decide) ?_
          refine z_iadd hx hb dL_law_483 ?_
          refine lv_goto (tgt := 492) hx hb dL_law_484 (by decide) ?_
          refine z_iast (j := 6) hx hb hG hr3 ⟨by omega, by omega⟩ hS (hge _ (Or.inr (Or.inr (Or.inl rfl)))) dL_law_492 (fun Hn locs h_27 o_28 hS => ?_)
          have hCW := zCW_kept hCW (fun q hq => o_28.2 q (fun e9 => hdis q (by rw [e9]; exact Or.inr (Or.inr (Or.inl rfl))) hq))
          have hr1 := va_at.kept hr1 (o_28.2 _ (by omega))
          have hr2 := va_at.kept hr2 (o_28.2 _ (by omega))
          have hr3 := h_27
          have hr4 := va_at.kept hr4 (o_28.2 _ (by omega))
          have hr5 := va_at.kept hr5 (o_28.2 _ (by omega))
          obtain ⟨f5, h5⟩ := zCW_recv hCW
          have hz : Hn.size = H.size := o_28.1.trans hz
          refine lv_aload_n hx hb dL_law_493 rfl (lv_at hl 4 rfl) ?_
          refine lv_iload hx hb dL_law_494 (lv_at hl 1 rfl) ?_
          refine lv_iload hx hb dL_law_496 (lv_at hl 2 rfl) ?_
          refine z_wrV (As := [.int (nI (at9)), .int (nI (zlw ((h9) >>> (nI (11) &&& 31)) 7))]) (rest := []) (q := (RX5, TX5, 7)) S hG (c_X5_sign_3k E (i := at9) (y := nI (zlw ((h9) >>> (nI (11) &&& 31)) 7)) hok hinj hct ⟨by omega, by omega⟩ (zin_y (by omega) (by have h8 := zlw_lt (h9 >>> (nI (11) &&& 31)) (n := 7) (by decide); omega) (by decide))) 2 gL_law_X5_sign rfl kX5_sign ⟨Nat.le_of_ble_eq_true rfl, Nat.le_of_ble_eq_true rfl⟩ ⟨Nat.le_of_ble_eq_true rfl, Nat.le_of_ble_eq_true rfl⟩ (hCW) rfl h5 rfl hl.1 rfl rfl (Nat.le_of_ble_eq_true rfl) dL_law_498 hS (fun q h => hA1 q h) (fun Hn locs h_30 q_29 o_31 hS => ?_)
          have hz : Hn.size = H.size := q_29.trans hz
          have hCW := h_30
          have hr1 := va_at.kept hr1 (o_31 _ (hdis _ (Or.inl rfl)))
          have hr2 := va_at.kept hr2 (o_31 _ (hdis _ (Or.inr (Or.inl rfl))))
          have hr3 := va_at.kept hr3 (o_31 _ (hdis _ (Or.inr (Or.inr (Or.inl rfl)))))
          have hr4 := va_at.kept hr4 (o_31 _ (hdis _ (Or.inr (Or.inr (Or.inr (Or.inl rfl))))))
          have hr5 := va_at.kept hr5 (o_31 _ (hdis _ (Or.inr (Or.inr (Or.inr (Or.inr rfl))))))
          obtain ⟨f5, h5⟩ := zCW_recv hCW
          refine lv_iload hx hb dL_law_501 (lv_at hl 0 rfl) ?_
          refine z_feq (tgt := 514) hx hb dL_law_503 (by decide) (by omega) (fun c_32 => by exfalso; omega) (fun c_32 => ?_)
          refine lv_aload hx hb dL_law_506 (lv_at hl 7 rfl) ?_
          refine lv_bipush (v := nI (6)) hx hb dL_law_508 (by decide) ?_
          refine z_iald (j := 6) hx hb hG hr3 ⟨by omega, by omega⟩ dL_law_510 ?_
          refine z_top (y := nI (zMl nw + 1)) (zsg_a2 (by omega)) ?_
          refine lv_goto (tgt := 516) hx hb dL_law_511 (by decide) ?_
          refine lv_icmp_ne (tgt := 523) hx hb dL_law_516 (by decide) (fun c_33 => by exfalso; exact c_33 rfl) (fun c_33 => ?_)
          refine lv_iconst (v := nI (1)) hx hb dL_law_519 (by decide) ?_
          refine lv_goto (tgt := 524) hx hb dL_law_520 (by decide) ?_
          refine lv_istore (lv' := [(14, .int (nI (1))), (18, .int (nI (1))), (17, .int (nI (at9))), (16, .int (nI (zlw ((h9) >>> (nI (11) &&& 31)) 7))), (0, .ref (b)), (1, .ref (ad 287)), (2, .ref (ra)), (3, .ref (ba)), (4, .ref (ga)), (5, .ref (ea)), (6, .ref (ca)), (7, .int (nI (zNl nw))), (8, .int (nI (i))), (9, .int (h9)), (10, .int (nI (kd))), (11, .int (nI (n9))), (12, .int (nI (k9))), (13, .int (-1)), (15, .int (zfm (zfd (zSz nw) 6)))]) hx hb dL_law_524 hl (by decide) rfl (fun ls hl => ?_)
          refine lv_goto (tgt := 1734) hx hb dL_law_526 (by decide) ?_
          exact kk (ztR (nw, sv, an, hh, ct, ln, cd) (zsMo nw (zMl nw + 1) (upd (zSg nw) (zMl nw) (nI (zlw ((h9) >>> (nI (11) &&& 31)) 7))))) (rr) (bb) (upd (upd gg at9 (nI (zlw ((h9) >>> (nI (11) &&& 31)) 7))) 6 (nI (at9 + 1))) (ee) (cc) _ _ ⟨zInv_r hv (zOk_mo hok (by omega)), hCW, ⟨hr1, hr2, hr3, hr4, hr5⟩, zR_mo hrel (zsg_a2 (by omega)) (zsg_b e4r (by omega) (by omega)), hS⟩ n9 hn9 ls (lv_sub hl [4, 5, 6, 7, 8, 9, 10, 11, 12, 15, 0] rfl)
  · refine lv_bipush (v := nI (9)) hx hb dL_law_404 (by decide) ?_
    refine lv_goto (tgt := 411) hx hb dL_law_406 (by decide) ?_
    refine lv_istore (lv' := [(16, .int (nI (9))), (0, .ref (b)), (1, .ref (ad 287)), (2, .ref (ra)), (3, .ref (ba)), (4, .ref (ga)), (5, .ref (ea)), (6, .ref (ca)), (7, .int (nI (zNl nw))), (8, .int (nI (i))), (9, .int (h9)), (10, .int (nI (kd))), (11, .int (nI (n9))), (12, .int (nI (k9))), (13, .int (-1)), (14, .int (nI (1))), (15, .int (zfm (zfd (zSz nw) 6)))]) hx hb dL_law_411 hl (by decide) rfl (fun ls hl => ?_)
    refine lv_iload hx hb dL_law_413 (lv_at hl 10 rfl) ?_
    refine lv_bipush (v := nI (14)) hx hb dL_law_415 (by decide) ?_
    refine lv_ishr hx hb dL_law_417 ?_
    refine lv_aload hx hb dL_law_418 (lv_at hl 5 rfl) ?_
    refine lv_bipush (v := nI (6)) hx hb dL_law_420 (by decide) ?_
    refine z_iald (j := 6) hx hb hG hr3 ⟨by omega, by omega⟩ dL_law_422 ?_
    refine z_top (y := nI (zMl nw)) (e3r) ?_
    refine lv_iconst (v := nI (2)) hx hb dL_law_423 (by decide) ?_
    refine z_iadd hx hb dL_law_424 ?_
    refine z_roSX (As := [.int ((h9) >>> (nI (14) &&& 31)), .int (nI ((zMl nw) + 2))]) (rest := []) S hG (c_L_low E (v := (h9) >>> (nI (14) &&& 31)) (n := (zMl nw) + 2) ⟨by omega, by omega⟩) 2 gL_law_L_low rfl kL_low.2 ⟨Nat.le_of_ble_eq_true rfl, Nat.le_of_ble_eq_true rfl⟩ ⟨Nat.le_of_ble_eq_true rfl, Nat.le_of_ble_eq_true rfl⟩ (trivial) rfl hl.1 rfl rfl (Nat.le_of_ble_eq_true rfl) dL_law_425 ?_
    refine z_top (y := nI (at9)) (by rw [hat0]) ?_
    refine lv_istore (lv' := [(17, .int (nI (at9))), (16, .int (nI (9))), (0, .ref (b)), (1, .ref (ad 287)), (2, .ref (ra)), (3, .ref (ba)), (4, .ref (ga)), (5, .ref (ea)), (6, .ref (ca)), (7, .int (nI (zNl nw))), (8, .int (nI (i))), (9, .int (h9)), (10, .int (nI (kd))), (11, .int (nI (n9))), (12, .int (nI (k9))), (13, .int (-1)), (14, .int (nI (1))), (15, .int (zfm (zfd (zSz nw) 6)))]) hx hb dL_law_428 hl (by decide) rfl (fun ls hl => ?_)
    refine lv_iload hx hb dL_law_430 (lv_at hl 0 rfl) ?_
    refine lv_aload hx hb dL_law_432 (lv_at hl 6 rfl) ?_
    refine lv_bipush (v := nI (6)) hx hb dL_law_434 (by decide) ?_
    refine z_iald (j := 6) hx hb hG hr3 ⟨by omega, by omega⟩ dL_law_436 ?_
    refine z_top (y := nI (zMl nw)) (e3r) ?_
    refine z_cgt (tgt := 451) hx hb dL_law_437 (by decide) ⟨by omega, by omega⟩ (fun c_34 => ?_) (fun c_34 => ?_)
    · refine lv_iconst (v := nI (0)) hx hb dL_law_451 (by decide) ?_
      refine lv_istore (lv' := [(18, .int (nI (0))), (17, .int (nI (at9))), (16, .int (nI (9))), (0, .ref (b)), (1, .ref (ad 287)), (2, .ref (ra)), (3, .ref (ba)), (4, .ref (ga)), (5, .ref (ea)), (6, .ref (ca)), (7, .int (nI (zNl nw))), (8, .int (nI (i))), (9, .int (h9)), (10, .int (nI (kd))), (11, .int (nI (n9))), (12, .int (nI (k9))), (13, .int (-1)), (14, .int (nI (1))), (15, .int (zfm (zfd (zSz nw) 6)))]) hx hb dL_law_452 hl (by decide) rfl (fun ls hl => ?_)
      refine lv_iload hx hb dL_law_454 (lv_at hl 0 rfl) ?_
      refine z_feq (tgt := 493) hx hb dL_law_456 (by decide) (by omega) (fun c_35 => ?_) (fun c_35 => by exfalso; omega)
      refine lv_aload_n hx hb dL_law_493 rfl (lv_at hl 4 rfl) ?_
      refine lv_iload hx hb dL_law_494 (lv_at hl 1 rfl) ?_
      refine lv_iload hx hb dL_law_496 (lv_at hl 2 rfl) ?_
      refine z_wrV (As := [.int (nI (at9)), .int (nI (9))]) (rest := []) (q := (RX5, TX5, 7)) S hG (c_X5_sign_0 E (x := nI at9) (y := nI (9)) hok hinj hct (zin_n (by omega) (by omega) (by omega) (by omega))) 2 gL_law_X5_sign rfl kX5_sign ⟨Nat.le_of_ble_eq_true rfl, Nat.le_of_ble_eq_true rfl⟩ ⟨Nat.le_of_ble_eq_true rfl, Nat.le_of_ble_eq_true rfl⟩ (hCW) rfl h5 rfl hl.1 rfl rfl (Nat.le_of_ble_eq_true rfl) dL_law_498 hS (fun q h => hA1 q h) (fun Hn locs h_37 q_36 o_38 hS => ?_)
      have hz : Hn.size = H.size := q_36.trans hz
      have hCW := h_37
      have hr1 := va_at.kept hr1 (o_38 _ (hdis _ (Or.inl rfl)))
      have hr2 := va_at.kept hr2 (o_38 _ (hdis _ (Or.inr (Or.inl rfl))))
      have hr3 := va_at.kept hr3 (o_38 _ (hdis _ (Or.inr (Or.inr (Or.inl rfl)))))
      have hr4 := va_at.kept hr4 (o_38 _ (hdis _ (Or.inr (Or.inr (Or.inr (Or.inl rfl))))))
      have hr5 := va_at.kept hr5 (o_38 _ (hdis _ (Or.inr (Or.inr (Or.inr (Or.inr rfl))))))
      obtain ⟨f5, h5⟩ := zCW_recv hCW
      refine lv_iload hx hb dL_law_501 (lv_at hl 0 rfl) ?_
      refine z_feq (tgt := 514) hx hb dL_law_503 (by decide) (by omega) (fun c_39 => ?_) (fun c_39 => by exfalso; omega)
      refine lv_iload hx hb dL_law_514 (lv_at hl 16 rfl) ?_
      refine lv_icmp_ne (tgt := 523) hx hb dL_law_516 (by decide) (fun c_40 => by exfalso; exact c_40 rfl) (fun c_40 => ?_)
      refine lv_iconst (v := nI (1)) hx hb dL_law_519 (by decide) ?_
      refine lv_goto (tgt := 524) hx hb dL_law_520 (by decide) ?_
      refine lv_istore (lv' := [(14, .int (nI (1))), (18, .int (nI (0))), (17, .int (nI (at9))), (16, .int (nI (9))), (0, .ref (b)), (1, .ref (ad 287)), (2, .ref (ra)), (3, .ref (ba)), (4, .ref (ga)), (5, .ref (ea)), (6, .ref (ca)), (7, .int (nI (zNl nw))), (8, .int (nI (i))), (9, .int (h9)), (10, .int (nI (kd))), (11, .int (nI (n9))), (12, .int (nI (k9))), (13, .int (-1)), (15, .int (zfm (zfd (zSz nw) 6)))]) hx hb dL_law_524 hl (by decide) rfl (fun ls hl => ?_)
      refine lv_goto (tgt := 1734) hx hb dL_law_526 (by decide) ?_
      exact kk (nw, sv, an, hh, ct, ln, cd) (rr) (bb) (gg) (ee) (cc) _ _ ⟨hv, hCW, ⟨hr1, hr2, hr3, hr4, hr5⟩, hrel, hS⟩ n9 hn9 ls (lv_sub hl [4, 5, 6, 7, 8, 9, 10, 11, 12, 15, 0] rfl)
    · refine lv_iload hx hb dL_law_440 (lv_at hl 0 rfl) ?_
      refine lv_bipush (v := nI (6)) hx hb dL_law_442 (by decide) ?_
      refine z_cge (tgt := 451) hx hb dL_law_444 (by decide) ⟨by omega, by omega⟩ (fun c_41 => ?_) (fun c_41 => ?_)
      · refine lv_iconst (v := nI (0)) hx hb dL_law_451 (by decide) ?_
        refine lv_istore (lv' := [(18, .int (nI (0))), (17, .int (nI (at9))), (16, .int (nI (9))), (0, .ref (b)), (1, .ref (ad 287)), (2, .ref (ra)), (3, .ref (ba)), (4, .ref (ga)), (5, .ref (ea)), (6, .ref (ca)), (7, .int (nI (zNl nw))), (8, .int (nI (i))), (9, .int (h9)), (10, .int (nI (kd))), (11, .int (nI (n9))), (12, .int (nI (k9))), (13, .int (-1)), (14, .int (nI (1))), (15, .int (zfm (zfd (zSz nw) 6)))]) hx hb dL_law_452 hl (by decide) rfl (fun ls hl => ?_)
        refine lv_iload hx hb dL_law_454 (lv_at hl 0 rfl) ?_
        refine z_feq (tgt := 493) hx hb dL_law_456 (by decide) (by omega) (fun c_42 => ?_) (fun c_42 => by exfalso; omega)
        refine lv_aload_n hx hb dL_law_493 rfl (lv_at hl 4 rfl) ?_
        refine lv_iload hx hb dL_law_494 (lv_at hl 1 rfl) ?_
        refine lv_iload hx hb dL_law_496 (lv_at hl 2 rfl) ?_
        refine z_wrV (As := [.int (nI (at9)), .int (nI (9))]) (rest := []) (q := (RX5, TX5, 7)) S hG (c_X5_sign_0 E (x := nI at9) (y := nI (9)) hok hinj hct (zin_n (by omega) (by omega) (by omega) (by omega))) 2 gL_law_X5_sign rfl kX5_sign ⟨Nat.le_of_ble_eq_true rfl, Nat.le_of_ble_eq_true rfl⟩ ⟨Nat.le_of_ble_eq_true rfl, Nat.le_of_ble_eq_true rfl⟩ (hCW) rfl h5 rfl hl.1 rfl rfl (Nat.le_of_ble_eq_true rfl) dL_law_498 hS (fun q h => hA1 q h) (fun Hn locs h_44 q_43 o_45 hS => ?_)
        have hz : Hn.size = H.size := q_43.trans hz
        have hCW := h_44
        have hr1 := va_at.kept hr1 (o_45 _ (hdis _ (Or.inl rfl)))
        have hr2 := va_at.kept hr2 (o_45 _ (hdis _ (Or.inr (Or.inl rfl))))
        have hr3 := va_at.kept hr3 (o_45 _ (hdis _ (Or.inr (Or.inr (Or.inl rfl)))))
        have hr4 := va_at.kept hr4 (o_45 _ (hdis _ (Or.inr (Or.inr (Or.inr (Or.inl rfl))))))
        have hr5 := va_at.kept hr5 (o_45 _ (hdis _ (Or.inr (Or.inr (Or.inr (Or.inr rfl))))))
        obtain ⟨f5, h5⟩ := zCW_recv hCW
        refine lv_iload hx hb dL_law_501 (lv_at hl 0 rfl) ?_
        refine z_feq (tgt := 514) hx hb dL_law_503 (by decide) (by omega) (fun c_46 => ?_) (fun c_46 => by exfalso; omega)
        refine lv_iload hx hb dL_law_514 (lv_at hl 16 rfl) ?_
        refine lv_icmp_ne (tgt := 523) hx hb dL_law_516 (by decide) (fun c_47 => by exfalso; exact c_47 rfl) (fun c_47 => ?_)
        refine lv_iconst (v := nI (1)) hx hb dL_law_519 (by decide) ?_
        refine lv_goto (tgt := 524) hx hb dL_law_520 (by decide) ?_
        refine lv_istore (lv' := [(14, .int (nI (1))), (18, .int (nI (0))), (17, .int (nI (at9))), (16, .int (nI (9))), (0, .ref (b)), (1, .ref (ad 287)), (2, .ref (ra)), (3, .ref (ba)), (4, .ref (ga)), (5, .ref (ea)), (6, .ref (ca)), (7, .int (nI (zNl nw))), (8, .int (nI (i))), (9, .int (h9)), (10, .int (nI (kd))), (11, .int (nI (n9))), (12, .int (nI (k9))), (13, .int (-1)), (15, .int (zfm (zfd (zSz nw) 6)))]) hx hb dL_law_524 hl (by decide) rfl (fun ls hl => ?_)
        refine lv_goto (tgt := 1734) hx hb dL_law_526 (by decide) ?_
        exact kk (nw, sv, an, hh, ct, ln, cd) (rr) (bb) (gg) (ee) (cc) _ _ ⟨hv, hCW, ⟨hr1, hr2, hr3, hr4, hr5⟩, hrel, hS⟩ n9 hn9 ls (lv_sub hl [4, 5, 6, 7, 8, 9, 10, 11, 12, 15, 0] rfl)
      · refine lv_iconst (v := nI (1)) hx hb dL_law_447 (by decide) ?_
        refine lv_goto (tgt := 452) hx hb dL_law_448 (by decide) ?_
        refine lv_istore (lv' := [(18, .int (nI (1))), (17, .int (nI (at9))), (16, .int (nI (9))), (0, .ref (b)), (1, .ref (ad 287)), (2, .ref (ra)), (3, .ref (ba)), (4, .ref (ga)), (5, .ref (ea)), (6, .ref (ca)), (7, .int (nI (zNl nw))), (8, .int (nI (i))), (9, .int (h9)), (10, .int (nI (kd))), (11, .int (nI (n9))), (12, .int (nI (k9))), (13, .int (-1)), (14, .int (nI (1))), (15, .int (zfm (zfd (zSz nw) 6)))]) hx hb dL_law_452 hl (by decide) rfl (fun ls hl => ?_)
        refine lv_iload hx hb dL_law_454 (lv_at hl 0 rfl) ?_
        refine z_feq (tgt := 493) hx hb dL_law_456 (by decide) (by omega) (fun c_48 => by exfalso; omega) (fun c_48 => ?_)
        refine lv_aload hx hb dL_law_459 (lv_at hl 7 rfl) ?_
        refine lv_iload hx hb dL_law_461 (lv_at hl 1 rfl) ?_
        refine lv_iload hx hb dL_law_463 (lv_at hl 2 rfl) ?_
        refine z_iast (j := at9) hx hb hG hr3 ⟨by omega, by omega⟩ hS (hge _ (Or.inr (Or.inr (Or.inl rfl)))) dL_law_465 (fun Hn locs h_49 o_50 hS => ?_)
        have hCW := zCW_kept hCW (fun q hq => o_50.2 q (fun e9 => hdis q (by rw [e9]; exact Or.inr (Or.inr (Or.inl rfl))) hq))
        have hr1 := va_at.kept hr1 (o_50.2 _ (by omega))
        have hr2 := va_at.kept hr2 (o_50.2 _ (by omega))
        have hr3 := h_49
        have hr4 := va_at.kept hr4 (o_50.2 _ (by omega))
        have hr5 := va_at.kept hr5 (o_50.2 _ (by omega))
        obtain ⟨f5, h5⟩ := zCW_recv hCW
        have hz : Hn.size = H.size := o_50.1.trans hz
        refine lv_aload hx hb dL_law_466 (lv_at hl 7 rfl) ?_
        refine lv_bipush (v := nI (6)) hx hb dL_law_468 (by decide) ?_
        refine lv_iload hx hb dL_law_470 (lv_at hl 1 rfl) ?_
        refine lv_aload hx hb dL_law_472 (lv_at hl 7 rfl) ?_
        refine lv_bipush (v := nI (6)) hx hb dL_law_474 (by decide) ?_
        refine z_iald (j := 6) hx hb hG hr3 ⟨by omega, by omega⟩ dL_law_476 ?_
        refine z_top (y := nI (zMl nw)) (zsg_6 e3r (by omega)) ?_
        refine z_cne (tgt := 487) hx hb dL_law_477 (by decide) ⟨by omega, by omega⟩ (fun c_51 => ?_) (fun c_51 => ?_)
        · refine lv_aload hx hb dL_law_487 (lv_at hl 7 rfl) ?_
          refine lv_bipush (v := nI (6)) hx hb dL_law_489 (by decide) ?_
          refine z_iald (j := 6) hx hb hG hr3 ⟨by omega, by omega⟩ dL_law_491 ?_
          refine z_top (y := nI (zMl nw)) (zsg_6 e3r (by omega)) ?_
          refine z_iast (j := 6) hx hb hG hr3 ⟨by omega, by omega⟩ hS (hge _ (Or.inr (Or.inr (Or.inl rfl)))) dL_law_492 (fun Hn locs h_52 o_53 hS => ?_)
          have hCW := zCW_kept hCW (fun q hq => o_53.2 q (fun e9 => hdis q (by rw [e9]; exact Or.inr (Or.inr (Or.inl rfl))) hq))
          have hr1 := va_at.kept hr1 (o_53.2 _ (by omega))
          have hr2 := va_at.kept hr2 (o_53.2 _ (by omega))
          have hr3 := h_52
          have hr4 := va_at.kept hr4 (o_53.2 _ (by omega))
          have hr5 := va_at.kept hr5 (o_53.2 _ (by omega))
          obtain ⟨f5, h5⟩ := zCW_recv hCW
          have hz : Hn.size = H.size := o_53.1.trans hz
          refine lv_aload_n hx hb dL_law_493 rfl (lv_at hl 4 rfl) ?_
          refine lv_iload hx hb dL_law_494 (lv_at hl 1 rfl) ?_
          refine lv_iload hx hb dL_law_496 (lv_at hl 2 rfl) ?_
          refine z_wrV (As := [.int (nI (at9)), .int (nI (9))]) (rest := []) (q := (RX5, TX5, 7)) S hG (c_X5_sign_2a E (i := at9) (y := nI (9)) hok hinj hct (by omega) (by decide) rfl) 2 gL_law_X5_sign rfl kX5_sign ⟨Nat.le_of_ble_eq_true rfl, Nat.le_of_ble_eq_true rfl⟩ ⟨Nat.le_of_ble_eq_true rfl, Nat.le_of_ble_eq_true rfl⟩ (hCW) rfl h5 rfl hl.1 rfl rfl (Nat.le_of_ble_eq_true rfl) dL_law_498 hS (fun q h => hA1 q h) (fun Hn locs h_55 q_54 o_56 hS => ?_)
          have hz : Hn.size = H.size := q_54.trans hz
          have hCW := h_55
          have hr1 := va_at.kept hr1 (o_56 _ (hdis _ (Or.inl rfl)))
          have hr2 := va_at.kept hr2 (o_56 _ (hdis _ (Or.inr (Or.inl rfl))))
          have hr3 := va_at.kept hr3 (o_56 _ (hdis _ (Or.inr (Or.inr (Or.inl rfl)))))
          have hr4 := va_at.kept hr4 (o_56 _ (hdis _ (Or.inr (Or.inr (Or.inr (Or.inl rfl))))))
          have hr5 := va_at.kept hr5 (o_56 _ (hdis _ (Or.inr (Or.inr (Or.inr (Or.inr rfl))))))
          obtain ⟨f5, h5⟩ := zCW_recv hCW
          refine lv_iload hx hb dL_law_501 (lv_at hl 0 rfl) ?_
          refine z_feq (tgt := 514) hx hb dL_law_503 (by decide) (by omega) (fun c_57 => by exfalso; omega) (fun c_57 => ?_)
          refine lv_aload hx hb dL_law_506 (lv_at hl 7 rfl) ?_
          refine lv_bipush (v := nI (6)) hx hb dL_law_508 (by decide) ?_
          refine z_iald (j := 6) hx hb hG hr3 ⟨by omega, by omega⟩ dL_law_510 ?_
          refine z_top (y := nI (zMl nw)) (if_pos rfl) ?_
          refine lv_goto (tgt := 516) hx hb dL_law_511 (by decide) ?_
          refine lv_icmp_ne (tgt := 523) hx hb dL_law_516 (by decide) (fun c_58 => by exfalso; exact c_58 rfl) (fun c_58 => ?_)
          refine lv_iconst (v := nI (1)) hx hb dL_law_519 (by decide) ?_
          refine lv_goto (tgt := 524) hx hb dL_law_520 (by decide) ?_
          refine lv_istore (lv' := [(14, .int (nI (1))), (18, .int (nI (1))), (17, .int (nI (at9))), (16, .int (nI (9))), (0, .ref (b)), (1, .ref (ad 287)), (2, .ref (ra)), (3, .ref (ba)), (4, .ref (ga)), (5, .ref (ea)), (6, .ref (ca)), (7, .int (nI (zNl nw))), (8, .int (nI (i))), (9, .int (h9)), (10, .int (nI (kd))), (11, .int (nI (n9))), (12, .int (nI (k9))), (13, .int (-1)), (15, .int (zfm (zfd (zSz nw) 6)))]) hx hb dL_law_524 hl (by decide) rfl (fun ls hl => ?_)
          refine lv_goto (tgt := 1734) hx hb dL_law_526 (by decide) ?_
          exact kk (ztR (nw, sv, an, hh, ct, ln, cd) (zsMo nw (zMl nw) (upd (zSg nw) at9 (nI (9))))) (rr) (bb) (upd (upd gg at9 (nI (9))) 6 (nI (zMl nw))) (ee) (cc) _ _ ⟨zInv_r hv (zOk_mo hok hml), hCW, ⟨hr1, hr2, hr3, hr4, hr5⟩, zR_mo hrel (if_pos rfl) (zsg_d e4r (by omega) (by omega)), hS⟩ n9 hn9 ls (lv_sub hl [4, 5, 6, 7, 8, 9, 10, 11, 12, 15, 0] rfl)
        · refine lv_iload hx hb dL_law_480 (lv_at hl 1 rfl) ?_
          refine lv_iconst (v := nI (1)) hx hb dL_law_482 (by decide) ?_
          refine z_iadd hx hb dL_law_483 ?_
          refine lv_goto (tgt := 492) hx hb dL_law_484 (by decide) ?_
          refine z_iast (j := 6) hx hb hG hr3 ⟨by omega, by omega⟩ hS (hge _ (Or.inr (Or.inr (Or.inl rfl)))) dL_law_492 (fun Hn locs h_59 o_60 hS => ?_)
          have hCW := zCW_kept hCW (fun q hq => o_60.2 q (fun e9 => hdis q (by rw [e9]; exact Or.inr (Or.inr (Or.inl rfl))) hq))
          have hr1 := va_at.kept hr1 (o_60.2 _ (by omega))
          have hr2 := va_at.kept hr2 (o_60.2 _ (by omega))
          have hr3 := h_59
          have hr4 := va_at.kept hr4 (o_60.2 _ (by omega))
          have hr5 := va_at.kept hr5 (o_60.2 _ (by omega))
          obtain ⟨f5, h5⟩ := zCW_recv hCW
          have hz : Hn.size = H.size := o_60.1.trans hz
          refine lv_aload_n hx hb dL_law_493 rfl (lv_at hl 4 rfl) ?_
          refine lv_iload hx hb dL_law_494 (lv_at hl 1 rfl) ?_
          refine lv_iload hx hb dL_law_496 (lv_at hl 2 rfl) ?_
          refine z_wrV (As := [.int (nI (at9)), .int (nI (9))]) (rest := []) (q := (RX5, TX5, 7)) S hG (c_X5_sign_3a E (i := at9) (y := nI (9)) hok hinj hct ⟨by omega, by omega⟩ (by decide) rfl) 2 gL_law_X5_sign rfl kX5_sign ⟨Nat.le_of_ble_eq_true rfl, Nat.le_of_ble_eq_true rfl⟩ ⟨Nat.le_of_ble_eq_true rfl, Nat.le_of_ble_eq_true rfl⟩ (hCW) rfl h5 rfl hl.1 rfl rfl (Nat.le_of_ble_eq_true rfl) dL_law_498 hS (fun q h => hA1 q h) (fun Hn locs h_62 q_61 o_63 hS => ?_)
          have hz : Hn.size = H.size := q_61.trans hz
          have hCW := h_62
          have hr1 := va_at.kept hr1 (o_63 _ (hdis _ (Or.inl rfl)))
          have hr2 := va_at.kept hr2 (o_63 _ (hdis _ (Or.inr (Or.inl rfl))))
          have hr3 := va_at.kept hr3 (o_63 _ (hdis _ (Or.inr (Or.inr (Or.inl rfl)))))
          have hr4 := va_at.kept hr4 (o_63 _ (hdis _ (Or.inr (Or.inr (Or.inr (Or.inl rfl))))))
          have hr5 := va_at.kept hr5 (o_63 _ (hdis _ (Or.inr (Or.inr (Or.inr (Or.inr rfl))))))
          obtain ⟨f5, h5⟩ := zCW_recv hCW
          refine lv_iload hx hb dL_law_501 (lv_at hl 0 rfl) ?_
          refine z_feq (tgt := 514) hx hb dL_law_503 (by decide) (by omega) (fun c_64 => by exfalso; omega) (fun c_64 => ?_)
          refine lv_aload hx hb dL_law_506 (lv_at hl 7 rfl) ?_
          refine lv_bipush (v := nI (6)) hx hb dL_law_508 (by decide) ?_
          refine z_iald (j := 6) hx hb hG hr3 ⟨by omega, by omega⟩ dL_law_510 ?_
          refine z_top (y := nI (zMl nw + 1)) (zsg_a2 (by omega)) ?_
          refine lv_goto (tgt := 516) hx hb dL_law_511 (by decide) ?_
          refine lv_icmp_ne (tgt := 523) hx hb dL_law_516 (by decide) (fun c_65 => by exfalso; exact c_65 rfl) (fun c_65 => ?_)
          refine lv_iconst (v := nI (1)) hx hb dL_law_519 (by decide) ?_
          refine lv_goto (tgt := 524) hx hb dL_law_520 (by decide) ?_
          refine lv_istore (lv' := [(14, .int (nI (1))), (18, .int (nI (1))), (17, .int (nI (at9))), (16, .int (nI (9))), (0, .ref (b)), (1, .ref (ad 287)), (2, .ref (ra)), (3, .ref (ba)), (4, .ref (ga)), (5, .ref (ea)), (6, .ref (ca)), (7, .int (nI (zNl nw))), (8, .int (nI (i))), (9, .int (h9)), (10, .int (nI (kd))), (11, .int (nI (n9))), (12, .int (nI (k9))), (13, .int (-1)), (15, .int (zfm (zfd (zSz nw) 6)))]) hx hb dL_law_524 hl (by decide) rfl (fun ls hl => ?_)
          refine lv_goto (tgt := 1734) hx hb dL_law_526 (by decide) ?_
          exact kk (ztR (nw, sv, an, hh, ct, ln, cd) (zsMo nw (zMl nw + 1) (upd (zSg nw) (zMl nw) (nI (9))))) (rr) (bb) (upd (upd gg at9 (nI (9))) 6 (nI (at9 + 1))) (ee) (cc) _ _ ⟨zInv_r hv (zOk_mo hok (by omega)), hCW, ⟨hr1, hr2, hr3, hr4, hr5⟩, zR_mo hrel (zsg_a2 (by omega)) (zsg_b e4r (by omega) (by omega)), hS⟩ n9 hn9 ls (lv_sub hl [4, 5, 6, 7, 8, 9, 10, 11, 12, 15, 0] rfl)

set_option maxHeartbeats 4000000 in
set_option maxRecDepth 100000 in
theorem lw_cutMotif {p : Program} {e : Env} {s : State} {m : MethodId} {b L : Nat} {xs : Nat → Int32} {below : List Frame} {meth : Method} {c : Code} {E : zEnv} {ad : Nat → Nat} {ra ba ga ea ca : Nat} {Q : State → Prop} {i : Nat} (F : zLF E p s m c b L xs) (D : zLA ad ra ba ga ea ca s) (kk : zLJ p e s m b below meth c E ad ra ba ga ea ca Q i) {τ : zT} {rr : Nat → Nat} {bb gg : Nat → Int32} {ee : Nat → Nat} {cc : Nat → Int32} {H : Heap} {locs : List Loc} (hs : zLS E ad ra ba ga ea ca s τ rr bb gg ee cc H locs) {n9 k9 kd : Nat} {h9 : Int32} (hn9 : n9 < 6) (hk9 : 1 ≤ k9 ∧ k9 ≤ 5)  {ls : Array Slot} (hl : lv_has ls 22 [(0, .ref (b)), (1, .ref (ad 287)), (2, .ref (ra)), (3, .ref (ba)), (4, .ref (ga)), (5, .ref (ea)), (6, .ref (ca)), (7, .int (nI (zNl τ.1))), (8, .int (nI (i))), (9, .int (h9)), (10, .int (nI (kd))), (11, .int (nI (n9))), (12, .int (nI (k9))), (13, .int (-1)), (14, .int (nI (1))), (15, .int (zfm (zfd (zSz τ.1) 6)))]) : zLW p e s m b below meth c E Q H locs 547 ls [] := by
  obtain ⟨S, hG, hX, hbl, hL⟩ := id F
  obtain ⟨hinj, hA1, hdis, hge, hd1, hd2, hd3, hd4⟩ := id D
  obtain ⟨hx, hb, hml9, hown, hts⟩ := id S
  have hbA : ¬ (fun q : Nat => s.heap.size ≤ q) b := Nat.not_le.mpr hbl
  obtain ⟨hv, hCW0, hRW, hrel, hS⟩ := hs
  obtain ⟨nw, sv, an, hh, ct, ln, cd⟩ := τ
  have hCW : zCW E ad nw sv an hh ct ln cd H := hCW0
  have hrel : zRel nw rr bb gg ee cc := hrel
  have hok : zOk nw := hv.1
  have hct : ct ≤ 5 := hv.2.2.2.1
  obtain ⟨hr1, hr2, hr3, hr4, hr5⟩ := id hRW
  obtain ⟨f5, h5⟩ := zCW_recv hCW
  obtain ⟨e1r, e2r, e3r, e4r, e5r⟩ := id hrel
  have hml := hok.2.2.2.1
  have hnl := hok.2.2.2.2.1
  have hz : H.size = H.size := rfl
  have hl : lv_has ls 22 [(0, .ref (b)), (1, .ref (ad 287)), (2, .ref (ra)), (3, .ref (ba)), (4, .ref (ga)), (5, .ref (ea)), (6, .ref (ca)), (7, .int (nI (zNl nw))), (8, .int (nI (i))), (9, .int (h9)), (10, .int (nI (kd))), (11, .int (nI (n9))), (12, .int (nI (k9))), (13, .int (-1)), (14, .int (nI (1))), (15, .int (zfm (zfd (zSz nw) 6)))] := hl
  rcases Nat.eq_zero_or_pos (zMl nw) with q1 | q1
  · refine lv_aload_n hx hb dL_law_547 rfl (lv_at hl 1 rfl) ?_
    refine z_wrV (As := []) (rest := []) (q := (RX5, TX5, 7)) S hG (c_X5_cutMotif_0 E hok hinj hct q1) 0 gL_law_X5_cutMotif rfl kX5_cutMotif ⟨Nat.le_of_ble_eq_true rfl, Nat.le_of_ble_eq_true rfl⟩ ⟨Nat.le_of_ble_eq_true rfl, Nat.le_of_ble_eq_true rfl⟩ (hCW) rfl h5 rfl hl.1 rfl rfl (Nat.le_of_ble_eq_true rfl) dL_law_548 hS (fun q h => hA1 q h) (fun Hn locs h_2 q_1 o_3 hS => ?_)
    have hz : Hn.size = H.size := q_1.trans hz
    have hCW := h_2
    have hr1 := va_at.kept hr1 (o_3 _ (hdis _ (Or.inl rfl)))
    have hr2 := va_at.kept hr2 (o_3 _ (hdis _ (Or.inr (Or.inl rfl))))
    have hr3 := va_at.kept hr3 (o_3 _ (hdis _ (Or.inr (Or.inr (Or.inl rfl)))))
    have hr4 := va_at.kept hr4 (o_3 _ (hdis _ (Or.inr (Or.inr (Or.inr (Or.inl rfl))))))
    have hr5 := va_at.kept hr5 (o_3 _ (hdis _ (Or.inr (Or.inr (Or.inr (Or.inr rfl))))))
    obtain ⟨f5, h5⟩ := zCW_recv hCW
    refine lv_aload hx hb dL_law_551 (lv_at hl 4 rfl) ?_
    refine lv_bipush (v := nI (6)) hx hb dL_law_553 (by decide) ?_
    refine z_iald (j := 6) hx hb hG hr3 ⟨by omega, by omega⟩ dL_law_555 ?_
    refine z_top (y := nI (zMl nw)) (e3r) ?_
    refine z_fne (tgt := 564) hx hb dL_law_556 (by decide) (by omega) (fun c_4 => by exfalso; omega) (fun c_4 => ?_)
    refine lv_bipush (v := (-3)) hx hb dL_law_559 (by decide) ?_
    refine lv_goto (tgt := 571) hx hb dL_law_561 (by decide) ?_
    refine lv_icmp_ne (tgt := 578) hx hb dL_law_571 (by decide) (fun c_5 => by exfalso; exact c_5 rfl) (fun c_5 => ?_)
    refine lv_iconst (v := nI (1)) hx hb dL_law_574 (by decide) ?_
    refine lv_goto (tgt := 579) hx hb dL_law_575 (by decide) ?_
    refine lv_istore (lv' := [(14, .int (nI (1))), (0, .ref (b)), (1, .ref (ad 287)), (2, .ref (ra)), (3, .ref (ba)), (4, .ref (ga)), (5, .ref (ea)), (6, .ref (ca)), (7, .int (nI (zNl nw))), (8, .int (nI (i))), (9, .int (h9)), (10, .int (nI (kd))), (11, .int (nI (n9))), (12, .int (nI (k9))), (13, .int (-1)), (15, .int (zfm (zfd (zSz nw) 6)))]) hx hb dL_law_579 hl (by decide) rfl (fun ls hl => ?_)
    refine lv_aload hx hb dL_law_581 (lv_at hl 5 rfl) ?_
    refine lv_bipush (v := nI (6)) hx hb dL_law_583 (by decide) ?_
    refine lv_aload hx hb dL_law_585 (lv_at hl 5 rfl) ?_
    refine lv_bipush (v := nI (6)) hx hb dL_law_587 (by decide) ?_
    refine z_iald (j := 6) hx hb hG hr3 ⟨by omega, by omega⟩ dL_law_589 ?_
    refine z_top (y := nI (zMl nw)) (e3r) ?_
    refine z_fne (tgt := 597) hx hb dL_law_590 (by decide) (by omega) (fun c_6 => by exfalso; omega) (fun c_6 => ?_)
    refine lv_iconst (v := nI (0)) hx hb dL_law_593 (by decide) ?_
    refine lv_goto (tgt := 604) hx hb dL_law_594 (by decide) ?_
    refine z_iast (j := 6) hx hb hG hr3 ⟨by omega, by omega⟩ hS (hge _ (Or.inr (Or.inr (Or.inl rfl)))) dL_law_604 (fun Hn locs h_7 o_8 hS => ?_)
    have hCW := zCW_kept hCW (fun q hq => o_8.2 q (fun e9 => hdis q (by rw [e9]; exact Or.inr (Or.inr (Or.inl rfl))) hq))
    have hr1 := va_at.kept hr1 (o_8.2 _ (by omega))
    have hr2 := va_at.kept hr2 (o_8.2 _ (by omega))
    have hr3 := h_7
    have hr4 := va_at.kept hr4 (o_8.2 _ (by omega))
    have hr5 := va_at.kept hr5 (o_8.2 _ (by omega))
    obtain ⟨f5, h5⟩ := zCW_recv hCW
    have hz : Hn.size = H.size := o_8.1.trans hz
    refine lv_goto (tgt := 1734) hx hb dL_law_605 (by decide) ?_
    exact kk (nw, sv, an, hh, ct, ln, cd) (rr) (bb) (upd gg 6 (nI (0))) (ee) (cc) _ _ ⟨hv, hCW, ⟨hr1, hr2, hr3, hr4, hr5⟩, zR_g0 hrel (by rw [q1]; rfl) (fun k h8 => absurd (show k < zMl nw from h8) (by omega)), hS⟩ n9 hn9 ls (lv_sub hl [1, 2, 3, 4, 5, 6, 7, 8, 9, 12, 0] rfl)
  · refine lv_aload_n hx hb dL_law_547 rfl (lv_at hl 1 rfl) ?_
    refine z_wrV (As := []) (rest := []) (q := (RX5, TX5, 7)) S hG (c_X5_cutMotif_1 E hok hinj hct q1) 0 gL_law_X5_cutMotif rfl kX5_cutMotif ⟨Nat.le_of_ble_eq_true rfl, Nat.le_of_ble_eq_true rfl⟩ ⟨Nat.le_of_ble_eq_true rfl, Nat.le_of_ble_eq_true rfl⟩ (hCW) rfl h5 rfl hl.1 rfl rfl (Nat.le_of_ble_eq_true rfl) dL_law_548 hS (fun q h => hA1 q h) (fun Hn locs h_10 q_9 o_11 hS => ?_)
    have hz : Hn.size = H.size := q_9.trans hz
    have hCW := h_10
    have hr1 := va_at.kept hr1 (o_11 _ (hdis _ (Or.inl rfl)))
    have hr2 := va_at.kept hr2 (o_11 _ (hdis _ (Or.inr (Or.inl rfl))))
    have hr3 := va_at.kept hr3 (o_11 _ (hdis _ (Or.inr (Or.inr (Or.inl rfl)))))
    have hr4 := va_at.kept hr4 (o_11 _ (hdis _ (Or.inr (Or.inr (Or.inr (Or.inl rfl))))))
    have hr5 := va_at.kept hr5 (o_11 _ (hdis _ (Or.inr (Or.inr (Or.inr (Or.inr rfl))))))
    obtain ⟨f5, h5⟩ := zCW_recv hCW
    refine lv_aload hx hb dL_law_551 (lv_at hl 4 rfl) ?_
    refine lv_bipush (v := nI (6)) hx hb dL_law_553 (by decide) ?_
    refine z_iald (j := 6) hx hb hG hr3 ⟨by omega, by omega⟩ dL_law_555 ?_
    refine z_top (y := nI (zMl nw)) (e3r) ?_
    refine z_fne (tgt := 564) hx hb dL_law_556 (by decide) (by omega) (fun c_12 => ?_) (fun c_12 => by exfalso; omega)
    refine lv_aload hx hb dL_law_564 (lv_at hl 4 rfl) ?_
    refine lv_bipush (v := nI (6)) hx hb dL_law_566 (by decide) ?_
    refine z_iald (j := 6) hx hb hG hr3 ⟨by omega, by omega⟩ dL_law_568 ?_
    refine z_top (y := nI (zMl nw)) (e3r) ?_
    refine lv_iconst (v := nI (1)) hx hb dL_law_569 (by decide) ?_
    refine z_isub hx hb dL_law_570 (by omega) ?_
    refine lv_icmp_ne (tgt := 578) hx hb dL_law_571 (by decide) (fun c_13 => by exfalso; exact c_13 rfl) (fun c_13 => ?_)
    refine lv_iconst (v := nI (1)) hx hb dL_law_574 (by decide) ?_
    refine lv_goto (tgt := 579) hx hb dL_law_575 (by decide) ?_
    refine lv_istore (lv' := [(14, .int (nI (1))), (0, .ref (b)), (1, .ref (ad 287)), (2, .ref (ra)), (3, .ref (ba)), (4, .ref (ga)), (5, .ref (ea)), (6, .ref (ca)), (7, .int (nI (zNl nw))), (8, .int (nI (i))), (9, .int (h9)), (10, .int (nI (kd))), (11, .int (nI (n9))), (12, .int (nI (k9))), (13, .int (-1)), (15, .int (zfm (zfd (zSz nw) 6)))]) hx hb dL_law_579 hl (by decide) rfl (fun ls hl => ?_)
    refine lv_aload hx hb dL_law_581 (lv_at hl 5 rfl) ?_
    refine lv_bipush (v := nI (6)) hx hb dL_law_583 (by decide) ?_
    refine lv_aload hx hb dL_law_585 (lv_at hl 5 rfl) ?_
    refine lv_bipush (v := nI (6)) hx hb dL_law_587 (by decide) ?_
    refine z_iald (j := 6) hx hb hG hr3 ⟨by omega, by omega⟩ dL_law_589 ?_
    refine z_top (y := nI (zMl nw)) (e3r) ?_
    refine z_fne (tgt := 597) hx hb dL_law_590 (by decide) (by omega) (fun c_14 => ?_) (fun c_14 => by exfalso; omega)
    refine lv_aload hx hb dL_law_597 (lv_at hl 5 rfl) ?_
    refine lv_bipush (v := nI (6)) hx hb dL_law_599 (by decide) ?_
    refine z_iald (j := 6) hx hb hG hr3 ⟨by omega, by omega⟩ dL_law_601 ?_
    refine z_top (y := nI (zMl nw)) (e3r) ?_
    refine lv_iconst (v := nI (1)) hx hb dL_law_602 (by decide) ?_
    refine z_isub hx hb dL_law_603 (by omega) ?_
    refine z_iast (j := 6) hx hb hG hr3 ⟨by omega, by omega⟩ hS (hge _ (Or.inr (Or.inr (Or.inl rfl)))) dL_law_604 (fun Hn locs h_15 o_16 hS => ?_)
    have hCW := zCW_kept hCW (fun q hq => o_16.2 q (fun e9 => hdis q (by rw [e9]; exact Or.inr (Or.inr (Or.inl rfl))) hq))
    have hr1 := va_at.kept hr1 (o_16.2 _ (by omega))
    have hr2 := va_at.kept hr2 (o_16.2 _ (by omega))
    have hr3 := h_15
    have hr4 := va_at.kept hr4 (o_16.2 _ (by omega))
    have hr5 := va_at.kept hr5 (o_16.2 _ (by omega))
    obtain ⟨f5, h5⟩ := zCW_recv hCW
    have hz : Hn.size = H.size := o_16.1.trans hz
    refine lv_goto (tgt := 1734) hx hb dL_law_605 (by decide) ?_
    exact kk (ztR (nw, sv, an, hh, ct, ln, cd) (zsMo nw (zMl nw - 1) (zSg nw))) (rr) (bb) (upd gg 6 (nI ((zMl nw) - 1))) (ee) (cc) _ _ ⟨zInv_r hv (zOk_mo hok (by omega)), hCW, ⟨hr1, hr2, hr3, hr4, hr5⟩, zR_mo hrel rfl (fun k h8 => (if_neg (by omega)).trans (e4r k (by omega))), hS⟩ n9 hn9 ls (lv_sub hl [1, 2, 3, 4, 5, 6, 7, 8, 9, 12, 0] rfl)

set_option maxHeartbeats 4000000 in
set_option maxRecDepth 100000 in
theorem lw_empty {p : Program} {e : Env} {s : State} {m : MethodId} {b L : Nat} {xs : Nat → Int32} {below : List Frame} {meth : Method} {c : Code} {E : zEnv} {ad : Nat → Nat} {ra ba ga ea ca : Nat} {Q : State → Prop} {i : Nat} (F : zLF E p s m c b L xs) (D : zLA ad ra ba ga ea ca s) (kk : zLJ p e s m b below meth c E ad ra ba ga ea ca Q i) {τ : zT} {rr : Nat → Nat} {bb gg : Nat → Int32} {ee : Nat → Nat} {cc : Nat → Int32} {H : Heap} {locs : List Loc} (hs : zLS E ad ra ba ga ea ca s τ rr bb gg ee cc H locs) {n9 k9 kd : Nat} {h9 : Int32} (hn9 : n9 < 6) (hk9 : 1 ≤ k9 ∧ k9 ≤ 5) (hr0 : zRn τ.1 n9 = 0) {ls : Array Slot} (hl : lv_has ls 22 [(0, .ref (b)), (1, .ref (ad 287)), (2, .ref (ra)), (3, .ref (ba)), (4, .ref (ga)), (5, .ref (ea)), (6, .ref (ca)), (7, .int (nI (zNl τ.1))), (8, .int (nI (i))), (9, .int (h9)), (10, .int (nI (kd))), (11, .int (nI (n9))), (12, .int (nI (k9))), (13, .int (-1)), (14, .int (nI (1))), (15, .int (zfm (zfd (zSz τ.1) 6)))]) : zLW p e s m b below meth c E Q H locs 617 ls [] := by
  obtain ⟨S, hG, hX, hbl, hL⟩ := id F
  obtain ⟨hinj, hA1, hdis, hge, hd1, hd2, hd3, hd4⟩ := id D
  obtain ⟨hx, hb, hml9, hown, hts⟩ := id S
  have hbA : ¬ (fun q : Nat => s.heap.size ≤ q) b := Nat.not_le.mpr hbl
  obtain ⟨hv, hCW0, hRW, hrel, hS⟩ := hs
  obtain ⟨nw, sv, an, hh, ct, ln, cd⟩ := τ
  have hCW : zCW E ad nw sv an hh ct ln cd H := hCW0
  have hrel : zRel nw rr bb gg ee cc := hrel
  have hok : zOk nw := hv.1
  have hct : ct ≤ 5 := hv.2.2.2.1
  obtain ⟨hr1, hr2, hr3, hr4, hr5⟩ := id hRW
  obtain ⟨f5, h5⟩ := zCW_recv hCW
  obtain ⟨e1r, e2r, e3r, e4r, e5r⟩ := id hrel
  have hml := hok.2.2.2.1
  have hnl := hok.2.2.2.2.1
  have hz : H.size = H.size := rfl
  have hl : lv_has ls 22 [(0, .ref (b)), (1, .ref (ad 287)), (2, .ref (ra)), (3, .ref (ba)), (4, .ref (ga)), (5, .ref (ea)), (6, .ref (ca)), (7, .int (nI (zNl nw))), (8, .int (nI (i))), (9, .int (h9)), (10, .int (nI (kd))), (11, .int (nI (n9))), (12, .int (nI (k9))), (13, .int (-1)), (14, .int (nI (1))), (15, .int (zfm (zfd (zSz nw) 6)))] := hl
  have hz0 : zSz nw n9 = 0 := zRn_0 hr0
  refine lv_aload_n hx hb dL_law_617 rfl (lv_at hl 1 rfl) ?_
  refine lv_iload hx hb dL_law_618 (lv_at hl 11 rfl) ?_
  refine lv_iconst (v := nI (0)) hx hb dL_law_620 (by decide) ?_
  refine z_wrV (As := [.int (nI (n9)), .int (nI (0))]) (rest := []) (q := (RX5, TX5, 7)) S hG (c_X5_roll_0 E (x := nI n9) (y := nI 0) hok hinj hct (zfnd_no hn9 hz0)) 2 gL_law_X5_roll rfl kX5_roll ⟨Nat.le_of_ble_eq_true rfl, Nat.le_of_ble_eq_true rfl⟩ ⟨Nat.le_of_ble_eq_true rfl, Nat.le_of_ble_eq_true rfl⟩ (hCW) rfl h5 rfl hl.1 rfl rfl (Nat.le_of_ble_eq_true rfl) dL_law_621 hS (fun q h => hA1 q h) (fun Hn locs h_2 q_1 o_3 hS => ?_)
  have hz : Hn.size = H.size := q_1.trans hz
  have hCW := h_2
  have hr1 := va_at.kept hr1 (o_3 _ (hdis _ (Or.inl rfl)))
  have hr2 := va_at.kept hr2 (o_3 _ (hdis _ (Or.inr (Or.inl rfl))))
  have hr3 := va_at.kept hr3 (o_3 _ (hdis _ (Or.inr (Or.inr (Or.inl rfl)))))
  have hr4 := va_at.kept hr4 (o_3 _ (hdis _ (Or.inr (Or.inr (Or.inr (Or.inl rfl))))))
  have hr5 := va_at.kept hr5 (o_3 _ (hdis _ (Or.inr (Or.inr (Or.inr (Or.inr rfl))))))
  obtain ⟨f5, h5⟩ := zCW_recv hCW
  refine lv_iload hx hb dL_law_624 (lv_at hl 13 rfl) ?_
  refine lv_icmp_ne (tgt := 679) hx hb dL_law_626 (by decide) (fun c_4 => by exfalso; exact c_4 rfl) (fun c_4 => ?_)
  refine lv_aload_n hx hb dL_law_629 rfl (lv_at hl 1 rfl) ?_
  refine lv_iload hx hb dL_law_630 (lv_at hl 11 rfl) ?_
  refine z_wrV (As := [.int (nI (n9))]) (rest := []) (q := (RX5, TX5, 7)) S hG (c_X5_note_0 E (x := nI n9) hok hinj hct (zfnd_no hn9 hz0)) 1 gL_law_X5_note rfl kX5_note ⟨Nat.le_of_ble_eq_true rfl, Nat.le_of_ble_eq_true rfl⟩ ⟨Nat.le_of_ble_eq_true rfl, Nat.le_of_ble_eq_true rfl⟩ (hCW) rfl h5 rfl hl.1 rfl rfl (Nat.le_of_ble_eq_true rfl) dL_law_632 hS (fun q h => hA1 q h) (fun Hn locs h_6 q_5 o_7 hS => ?_)
  have hz : Hn.size = H.size := q_5.trans hz
  have hCW := h_6
  have hr1 := va_at.kept hr1 (o_7 _ (hdis _ (Or.inl rfl)))
  have hr2 := va_at.kept hr2 (o_7 _ (hdis _ (Or.inr (Or.inl rfl))))
  have hr3 := va_at.kept hr3 (o_7 _ (hdis _ (Or.inr (Or.inr (Or.inl rfl)))))
  have hr4 := va_at.kept hr4 (o_7 _ (hdis _ (Or.inr (Or.inr (Or.inr (Or.inl rfl))))))
  have hr5 := va_at.kept hr5 (o_7 _ (hdis _ (Or.inr (Or.inr (Or.inr (Or.inr rfl))))))
  obtain ⟨f5, h5⟩ := zCW_recv hCW
  refine lv_iload hx hb dL_law_635 (lv_at hl 13 rfl) ?_
  refine lv_icmp_ne (tgt := 679) hx hb dL_law_637 (by decide) (fun c_8 => by exfalso; exact c_8 rfl) (fun c_8 => ?_)
  refine lv_aload_n hx hb dL_law_640 rfl (lv_at hl 1 rfl) ?_
  refine lv_iload hx hb dL_law_641 (lv_at hl 11 rfl) ?_
  refine z_wrV (As := [.int (nI (n9))]) (rest := []) (q := (RX5, TX5, 7)) S hG (c_X5_copy_0 E (x := nI n9) hok hinj hct (zfnd_no hn9 hz0)) 1 gL_law_X5_copy rfl kX5_copy ⟨Nat.le_of_ble_eq_true rfl, Nat.le_of_ble_eq_true rfl⟩ ⟨Nat.le_of_ble_eq_true rfl, Nat.le_of_ble_eq_true rfl⟩ (hCW) rfl h5 rfl hl.1 rfl rfl (Nat.le_of_ble_eq_true rfl) dL_law_643 hS (fun q h => hA1 q h) (fun Hn locs h_10 q_9 o_11 hS => ?_)
  have hz : Hn.size = H.size := q_9.trans hz
  have hCW := h_10
  have hr1 := va_at.kept hr1 (o_11 _ (hdis _ (Or.inl rfl)))
  have hr2 := va_at.kept hr2 (o_11 _ (hdis _ (Or.inr (Or.inl rfl))))
  have hr3 := va_at.kept hr3 (o_11 _ (hdis _ (Or.inr (Or.inr (Or.inl rfl)))))
  have hr4 := va_at.kept hr4 (o_11 _ (hdis _ (Or.inr (Or.inr (Or.inr (Or.inl rfl))))))
  have hr5 := va_at.kept hr5 (o_11 _ (hdis _ (Or.inr (Or.inr (Or.inr (Or.inr rfl))))))
  obtain ⟨f5, h5⟩ := zCW_recv hCW
  refine lv_iload hx hb dL_law_646 (lv_at hl 13 rfl) ?_
  refine lv_icmp_ne (tgt := 679) hx hb dL_law_648 (by decide) (fun c_12 => by exfalso; exact c_12 rfl) (fun c_12 => ?_)
  refine lv_aload_n hx hb dL_law_651 rfl (lv_at hl 1 rfl) ?_
  refine lv_iload hx hb dL_law_652 (lv_at hl 11 rfl) ?_
  refine z_wrV (As := [.int (nI (n9))]) (rest := []) (q := (RX5, TX5, 7)) S hG (c_X5_remove_0 E (x := nI n9) hok hinj hct (zfnd_no hn9 hz0)) 1 gL_law_X5_remove rfl kX5_remove ⟨Nat.le_of_ble_eq_true rfl, Nat.le_of_ble_eq_true rfl⟩ ⟨Nat.le_of_ble_eq_true rfl, Nat.le_of_ble_eq_true rfl⟩ (hCW) rfl h5 rfl hl.1 rfl rfl (Nat.le_of_ble_eq_true rfl) dL_law_654 hS (fun q h => hA1 q h) (fun Hn locs h_14 q_13 o_15 hS => ?_)
  have hz : Hn.size = H.size := q_13.trans hz
  have hCW := h_14
  have hr1 := va_at.kept hr1 (o_15 _ (hdis _ (Or.inl rfl)))
  have hr2 := va_at.kept hr2 (o_15 _ (hdis _ (Or.inr (Or.inl rfl))))
  have hr3 := va_at.kept hr3 (o_15 _ (hdis _ (Or.inr (Or.inr (Or.inl rfl)))))
  have hr4 := va_at.kept hr4 (o_15 _ (hdis _ (Or.inr (Or.inr (Or.inr (Or.inl rfl))))))
  have hr5 := va_at.kept hr5 (o_15 _ (hdis _ (Or.inr (Or.inr (Or.inr (Or.inr rfl))))))
  obtain ⟨f5, h5⟩ := zCW_recv hCW
  refine lv_iload hx hb dL_law_657 (lv_at hl 13 rfl) ?_
  refine lv_icmp_ne (tgt := 679) hx hb dL_law_659 (by decide) (fun c_16 => by exfalso; exact c_16 rfl) (fun c_16 => ?_)
  refine lv_aload_n hx hb dL_law_662 rfl (lv_at hl 1 rfl) ?_
  refine lv_iload hx hb dL_law_663 (lv_at hl 11 rfl) ?_
  refine lv_iconst (v := nI (0)) hx hb dL_law_665 (by decide) ?_
  refine lv_iconst (v := nI (1)) hx hb dL_law_666 (by decide) ?_
  refine z_wrV (As := [.int (nI (n9)), .int (nI (0)), .int (nI (1))]) (rest := []) (q := (RX5, TX5, 7)) S hG (c_X5_hang_0 E (x := nI n9) (y := nI 0) (w := nI 1) hok hinj hct (zfnd_no hn9 hz0)) 3 gL_law_X5_hang rfl kX5_hang ⟨Nat.le_of_ble_eq_true rfl, Nat.le_of_ble_eq_true rfl⟩ ⟨Nat.le_of_ble_eq_true rfl, Nat.le_of_ble_eq_true rfl⟩ (hCW) rfl h5 rfl hl.1 rfl rfl (Nat.le_of_ble_eq_true rfl) dL_law_667 hS (fun q h => hA1 q h) (fun Hn locs h_18 q_17 o_19 hS => ?_)
  have hz : Hn.size = H.size := q_17.trans hz
  have hCW := h_18
  have hr1 := va_at.kept hr1 (o_19 _ (hdis _ (Or.inl rfl)))
  have hr2 := va_at.kept hr2 (o_19 _ (hdis _ (Or.inr (Or.inl rfl))))
  have hr3 := va_at.kept hr3 (o_19 _ (hdis _ (Or.inr (Or.inr (Or.inl rfl)))))
  have hr4 := va_at.kept hr4 (o_19 _ (hdis _ (Or.inr (Or.inr (Or.inr (Or.inl rfl))))))
  have hr5 := va_at.kept hr5 (o_19 _ (hdis _ (Or.inr (Or.inr (Or.inr (Or.inr rfl))))))
  obtain ⟨f5, h5⟩ := zCW_recv hCW
  refine lv_iload hx hb dL_law_670 (lv_at hl 13 rfl) ?_
  refine lv_icmp_ne (tgt := 679) hx hb dL_law_672 (by decide) (fun c_20 => by exfalso; exact c_20 rfl) (fun c_20 => ?_)
  refine lv_iconst (v := nI (1)) hx hb dL_law_675 (by decide) ?_
  refine lv_goto (tgt := 680) hx hb dL_law_676 (by decide) ?_
  refine lv_istore (lv' := [(14, .int (nI (1))), (0, .ref (b)), (1, .ref (ad 287)), (2, .ref (ra)), (3, .ref (ba)), (4, .ref (ga)), (5, .ref (ea)), (6, .ref (ca)), (7, .int (nI (zNl nw))), (8, .int (nI (i))), (9, .int (h9)), (10, .int (nI (kd))), (11, .int (nI (n9))), (12, .int (nI (k9))), (13, .int (-1)), (15, .int (zfm (zfd (zSz nw) 6)))]) hx hb dL_law_680 hl (by decide) rfl (fun ls hl => ?_)
  refine lv_goto (tgt := 1734) hx hb dL_law_682 (by decide) ?_
  exact kk (nw, sv, an, hh, ct, ln, cd) (rr) (bb) (gg) (ee) (cc) _ _ ⟨hv, hCW, ⟨hr1, hr2, hr3, hr4, hr5⟩, hrel, hS⟩ n9 hn9 ls (lv_sub hl [1, 2, 3, 4, 5, 6, 7, 8, 9, 12, 0] rfl)
