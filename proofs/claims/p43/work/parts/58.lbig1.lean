set_option maxHeartbeats 4000000 in
set_option maxRecDepth 100000 in
theorem c_L_box (E : zEnv) {ad : Nat → Nat} {nw sv : zS} {an : Bool} {hs : Nat → zS} {ct ln : Nat} {cd : Nat → Int32} {ra ba ga ea ca : Nat} {rr : Nat → Nat} {bb gg : Nat → Int32} {ee : Nat → Nat} {cc : Nat → Int32} (hok : zOk nw) (hrel : zRel nw rr bb gg ee cc) : zRO E yL_box wsL_box 7 162 [.ref (ad 287), .ref (ra), .ref (ba), .ref (ga), .ref (ea), .ref (ca), .int (nI (zNl nw))] (fun H => zCW E ad nw sv an hs ct ln cd H ∧ zRows E ra ba ga ea ca rr bb gg ee cc H) (some (.int (nI 1))) := by
  refine zRO.ofZ (maxL := 11) rfl (Nat.le_of_ble_eq_true rfl) (fun p e s m args below meth c H Q hF hP hret ls hl => ?_)
  have S : CallFix p m c cL_box 11 s args wsL_box RL := hF.1
  have hG := hF.2
  obtain ⟨hx, hb, hml, hown, hts⟩ := id S
  obtain ⟨hCW, hRW⟩ := id hP
  obtain ⟨hr1, hr2, hr3, hr4, hr5⟩ := id hRW
  obtain ⟨f5, h5⟩ := zCW_recv hCW
  obtain ⟨e1r, e2r, e3r, e4r, e5r⟩ := id hrel
  have hml := hok.2.2.2.1
  have hnl := hok.2.2.2.2.1
  have hl : lv_has ls 11 [(0, .ref (ad 287)), (1, .ref (ra)), (2, .ref (ba)), (3, .ref (ga)), (4, .ref (ea)), (5, .ref (ca)), (6, .int (nI (zNl nw)))] := hl
  refine lv_iconst (v := nI (0)) hx hb dL_box_0 (by decide) ?_
  refine lv_istore (lv' := [(7, .int (nI (0))), (0, .ref (ad 287)), (1, .ref (ra)), (2, .ref (ba)), (3, .ref (ga)), (4, .ref (ea)), (5, .ref (ca)), (6, .int (nI (zNl nw)))]) hx hb dL_box_1 hl (by decide) rfl (fun ls hl => ?_)
  refine lv_iconst (v := nI (0)) hx hb dL_box_3 (by decide) ?_
  refine lv_istore (lv' := [(8, .int (nI (0))), (7, .int (nI (0))), (0, .ref (ad 287)), (1, .ref (ra)), (2, .ref (ba)), (3, .ref (ga)), (4, .ref (ea)), (5, .ref (ca)), (6, .int (nI (zNl nw)))]) hx hb dL_box_4 hl (by decide) rfl (fun ls hl => ?_)
  have L6 : ∀ (dd : Nat) (i : Nat), 6 - i < dd → (i ≤ 6) → ∀ (ls : Array Slot), lv_has ls 11 [(0, .ref (ad 287)), (1, .ref (ra)), (2, .ref (ba)), (3, .ref (ga)), (4, .ref (ea)), (5, .ref (ca)), (6, .int (nI (zNl nw))), (7, .int (zset (fun t9 => decide (zSz nw t9 ≠ 0)) i)), (8, .int (nI (i)))] → W p (zl E) e (zRm 7 162) s m args below meth c H [] 0 0 Q (F0 m 6 ls []) := by
    intro dd
    induction dd with
    | zero => intro i hdd; exact absurd hdd (Nat.not_lt_zero _)
    | succ dd ih6 =>
      intro i hdd6 hi ls hl
      refine lv_iload hx hb dL_box_6 (lv_at hl 8 rfl) ?_
      refine lv_bipush (v := nI (6)) hx hb dL_box_8 (by decide) ?_
      refine z_cge (tgt := 41) hx hb dL_box_10 (by decide) ⟨by omega, by omega⟩ (fun c_1 => ?_) (fun c_1 => ?_)
      · refine lv_iconst (v := nI (1)) hx hb dL_box_41 (by decide) ?_
        refine lv_istore (lv' := [(8, .int (nI (1))), (0, .ref (ad 287)), (1, .ref (ra)), (2, .ref (ba)), (3, .ref (ga)), (4, .ref (ea)), (5, .ref (ca)), (6, .int (nI (zNl nw))), (7, .int (zset (fun t9 => decide (zSz nw t9 ≠ 0)) i))]) hx hb dL_box_42 hl (by decide) rfl (fun ls hl => ?_)
        have L44 : ∀ (dd : Nat) (k : Nat), 6 - k < dd → (1 ≤ k) → (k ≤ 6) → ∀ (ls : Array Slot), lv_has ls 11 [(0, .ref (ad 287)), (1, .ref (ra)), (2, .ref (ba)), (3, .ref (ga)), (4, .ref (ea)), (5, .ref (ca)), (6, .int (nI (zNl nw))), (7, .int (zset (fun t9 => decide (zSz nw t9 ≠ 0)) i)), (8, .int (nI (k)))] → W p (zl E) e (zRm 7 162) s m args below meth c H [] 0 0 Q (F0 m 44 ls []) := by
          intro dd
          induction dd with
          | zero => intro k hdd; exact absurd hdd (Nat.not_lt_zero _)
          | succ dd ih44 =>
            intro k hdd44 hk hk6 ls hl
            refine lv_iload hx hb dL_box_44 (lv_at hl 8 rfl) ?_
            refine lv_iconst (v := nI (5)) hx hb dL_box_46 (by decide) ?_
            refine z_cgt (tgt := 148) hx hb dL_box_47 (by decide) ⟨by omega, by omega⟩ (fun c_2 => ?_) (fun c_2 => ?_)
            · refine lv_iconst (v := nI (0)) hx hb dL_box_148 (by decide) ?_
              refine lv_istore (lv' := [(8, .int (nI (0))), (0, .ref (ad 287)), (1, .ref (ra)), (2, .ref (ba)), (3, .ref (ga)), (4, .ref (ea)), (5, .ref (ca)), (6, .int (nI (zNl nw))), (7, .int (zset (fun t9 => decide (zSz nw t9 ≠ 0)) i))]) hx hb dL_box_149 hl (by decide) rfl (fun ls hl => ?_)
              have L151 : ∀ (dd : Nat) (v : Nat), 6 - v < dd → (v ≤ 6) → ∀ (ls : Array Slot), lv_has ls 11 [(0, .ref (ad 287)), (1, .ref (ra)), (2, .ref (ba)), (3, .ref (ga)), (4, .ref (ea)), (5, .ref (ca)), (6, .int (nI (zNl nw))), (7, .int (zset (fun t9 => decide (zSz nw t9 ≠ 0)) i)), (8, .int (nI (v)))] → W p (zl E) e (zRm 7 162) s m args below meth c H [] 0 0 Q (F0 m 151 ls []) := by
                intro dd
                induction dd with
                | zero => intro v hdd; exact absurd hdd (Nat.not_lt_zero _)
                | succ dd ih151 =>
                  intro v hdd151 hv ls hl
                  refine lv_iload hx hb dL_box_151 (lv_at hl 8 rfl) ?_
                  refine lv_bipush (v := nI (6)) hx hb dL_box_153 (by decide) ?_
                  refine z_cge (tgt := 192) hx hb dL_box_155 (by decide) ⟨by omega, by omega⟩ (fun c_3 => ?_) (fun c_3 => ?_)
                  · refine lv_iconst (v := nI (0)) hx hb dL_box_192 (by decide) ?_
                    refine lv_istore (lv' := [(8, .int (nI (0))), (0, .ref (ad 287)), (1, .ref (ra)), (2, .ref (ba)), (3, .ref (ga)), (4, .ref (ea)), (5, .ref (ca)), (6, .int (nI (zNl nw))), (7, .int (zset (fun t9 => decide (zSz nw t9 ≠ 0)) i))]) hx hb dL_box_193 hl (by decide) rfl (fun ls hl => ?_)
                    have L195 : ∀ (dd : Nat) (w : Nat), zNl nw - w < dd → (w ≤ zNl nw) → ∀ (ls : Array Slot), lv_has ls 11 [(0, .ref (ad 287)), (1, .ref (ra)), (2, .ref (ba)), (3, .ref (ga)), (4, .ref (ea)), (5, .ref (ca)), (6, .int (nI (zNl nw))), (7, .int (zset (fun t9 => decide (zSz nw t9 ≠ 0)) i)), (8, .int (nI (w)))] → W p (zl E) e (zRm 7 162) s m args below meth c H [] 0 0 Q (F0 m 195 ls []) := by
                      intro dd
                      induction dd with
                      | zero => intro w hdd; exact absurd hdd (Nat.not_lt_zero _)
                      | succ dd ih195 =>
                        intro w hdd195 hw ls hl
                        refine lv_iload hx hb dL_box_195 (lv_at hl 8 rfl) ?_
                        refine lv_iload hx hb dL_box_197 (lv_at hl 6 rfl) ?_
                        refine z_cge (tgt := 310) hx hb dL_box_199 (by decide) ⟨by omega, by omega⟩ (fun c_4 => ?_) (fun c_4 => ?_)
                        · refine lv_aload_n hx hb dL_box_310 rfl (lv_at hl 0 rfl) ?_
                          refine z_roV (As := []) (rest := []) (q := (RX5, TX5, 7)) S hG (c_X5_bracelets_0 E hok) 0 gL_box_X5_bracelets rfl kX5_bracelets ⟨Nat.le_of_ble_eq_true rfl, Nat.le_of_ble_eq_true rfl⟩ ⟨Nat.zero_le _, Nat.zero_le _⟩ (hCW) rfl h5 rfl hl.1 rfl rfl (Nat.le_of_ble_eq_true rfl) dL_box_311 ?_
                          refine lv_iload hx hb dL_box_314 (lv_at hl 7 rfl) ?_
                          refine lv_icmp_ne (tgt := 332) hx hb dL_box_316 (by decide) (fun c_5 => by exfalso; exact c_5 (by rw [show i = 6 by omega])) (fun c_5 => ?_)
                          refine lv_aload_n hx hb dL_box_319 rfl (lv_at hl 0 rfl) ?_
                          refine z_roV (As := []) (rest := []) (q := (RX5, TX5, 7)) S hG (c_X5_entries_0 E hok) 0 gL_box_X5_entries rfl kX5_entries ⟨Nat.le_of_ble_eq_true rfl, Nat.le_of_ble_eq_true rfl⟩ ⟨Nat.zero_le _, Nat.zero_le _⟩ (hCW) rfl h5 rfl hl.1 rfl rfl (Nat.le_of_ble_eq_true rfl) dL_box_320 ?_
                          refine lv_iload hx hb dL_box_323 (lv_at hl 6 rfl) ?_
                          refine lv_icmp_ne (tgt := 332) hx hb dL_box_325 (by decide) (fun c_6 => by exfalso; exact c_6 rfl) (fun c_6 => ?_)
                          refine lv_iconst (v := nI (1)) hx hb dL_box_328 (by decide) ?_
                          refine lv_goto (tgt := 333) hx hb dL_box_329 (by decide) ?_
                          exact hret _ _ _ dL_box_333 (by first | exact Or.inl rfl | exact Or.inr rfl) (rfl)
                        · have hw4 := hok.2.2.2.2.2 w c_4
                          refine lv_iconst (v := nI (0)) hx hb dL_box_202 (by decide) ?_
                          refine lv_istore (lv' := [(9, .int (nI (0))), (0, .ref (ad 287)), (1, .ref (ra)), (2, .ref (ba)), (3, .ref (ga)), (4, .ref (ea)), (5, .ref (ca)), (6, .int (nI (zNl nw))), (7, .int (zset (fun t9 => decide (zSz nw t9 ≠ 0)) i)), (8, .int (nI (w)))]) hx hb dL_box_203 hl (by decide) rfl (fun ls hl => ?_)
                          refine lv_iconst (v := nI (0)) hx hb dL_box_205 (by decide) ?_
                          refine lv_istore (lv' := [(10, .int (nI (0))), (9, .int (nI (0))), (0, .ref (ad 287)), (1, .ref (ra)), (2, .ref (ba)), (3, .ref (ga)), (4, .ref (ea)), (5, .ref (ca)), (6, .int (nI (zNl nw))), (7, .int (zset (fun t9 => decide (zSz nw t9 ≠ 0)) i)), (8, .int (nI (w)))]) hx hb dL_box_206 hl (by decide) rfl (fun ls hl => ?_)
                          have L208 : ∀ (dd : Nat) (u2 : Nat), 6 - u2 < dd → (u2 ≤ 6) → ∀ (ls : Array Slot), lv_has ls 11 [(0, .ref (ad 287)), (1, .ref (ra)), (2, .ref (ba)), (3, .ref (ga)), (4, .ref (ea)), (5, .ref (ca)), (6, .int (nI (zNl nw))), (7, .int (zset (fun t9 => decide (zSz nw t9 ≠ 0)) i)), (8, .int (nI (w))), (9, .int (nI (zct (fun t9 => zal (zSz nw t9) (zKd nw t9) (zSz nw (6 + w)) (zKd nw (6 + w)) 1) u2))), (10, .int (nI (u2)))] → W p (zl E) e (zRm 7 162) s m args below meth c H [] 0 0 Q (F0 m 208 ls []) := by
                            intro dd
                            induction dd with
                            | zero => intro u2 hdd; exact absurd hdd (Nat.not_lt_zero _)
                            | succ dd ih208 =>
                              intro u2 hdd208 hu2 ls hl
                              refine lv_iload hx hb dL_box_208 (lv_at hl 10 rfl) ?_
                              refine lv_bipush (v := nI (6)) hx hb dL_box_210 (by decide) ?_
                              refine z_cge (tgt := 257) hx hb dL_box_212 (by decide) ⟨by omega, by omega⟩ (fun c_7 => ?_) (fun c_7 => ?_)
                              · refine lv_aload_n hx hb dL_box_257 rfl (lv_at hl 0 rfl) ?_
                                refine lv_iload hx hb dL_box_258 (lv_at hl 8 rfl) ?_
                                refine lv_iconst (v := nI (0)) hx hb dL_box_260 (by decide) ?_
                                refine z_roV (As := [.int (nI (w)), .int (nI (0))]) (rest := []) (q := (RX5, TX5, 7)) S hG (c_X5_entry_20 E (en := w) hok (by omega)) 2 gL_box_X5_entry rfl kX5_entry ⟨Nat.le_of_ble_eq_true rfl, Nat.le_of_ble_eq_true rfl⟩ ⟨Nat.zero_le _, Nat.zero_le _⟩ (hCW) rfl h5 rfl hl.1 rfl rfl (Nat.le_of_ble_eq_true rfl) dL_box_261 ?_
                                refine lv_aload hx hb dL_box_264 (lv_at hl 4 rfl) ?_
                                refine lv_iload hx hb dL_box_266 (lv_at hl 8 rfl) ?_
                                refine z_lald (j := w) hx hb hG hr4 ⟨by omega, by omega⟩ dL_box_268 ?_
                                refine z_topl (y := lN (zLn (zimg (zSz nw (6 + w)) (zKd nw (6 + w)) (zls (zSz nw (6 + w)) (zKd nw (6 + w)) 1)) (zSz nw (6 + w)))) (congrArg lN (e5r w (by omega)).1) ?_
                                refine z_roSX (As := [.long (lN (zLn (zimg (zSz nw (6 + w)) (zKd nw (6 + w)) (zls (zSz nw (6 + w)) (zKd nw (6 + w)) 1)) (zSz nw (6 + w))))]) (rest := [.int (nI (zSz nw (6 + w)))]) S hG (c_L_slots E (f := zimg (zSz nw (6 + w)) (zKd nw (6 + w)) (zls (zSz nw (6 + w)) (zKd nw (6 + w)) 1)) hw4.1 (zLn_k hw4.1.b.1 hw4.2)) 1 gL_box_L_slots rfl kL_slots.2 ⟨Nat.le_of_ble_eq_true rfl, Nat.le_of_ble_eq_true rfl⟩ ⟨Nat.zero_le _, Nat.zero_le _⟩ (trivial) rfl hl.1 rfl rfl (Nat.le_of_ble_eq_true rfl) dL_box_269 ?_
                                refine lv_icmp_ne (tgt := 302) hx hb dL_box_272 (by decide) (fun c_8 => by exfalso; exact c_8 rfl) (fun c_8 => ?_)
                                refine lv_aload_n hx hb dL_box_275 rfl (lv_at hl 0 rfl) ?_
                                refine lv_iload hx hb dL_box_276 (lv_at hl 8 rfl) ?_
                                refine lv_iconst (v := nI (1)) hx hb dL_box_278 (by decide) ?_
                                refine z_roV (As := [.int (nI (w)), .int (nI (1))]) (rest := []) (q := (RX5, TX5, 7)) S hG (c_X5_entry_21 E (en := w) hok (by omega)) 2 gL_box_X5_entry rfl kX5_entry ⟨Nat.le_of_ble_eq_true rfl, Nat.le_of_ble_eq_true rfl⟩ ⟨Nat.zero_le _, Nat.zero_le _⟩ (hCW) rfl h5 rfl hl.1 rfl rfl (Nat.le_of_ble_eq_true rfl) dL_box_279 ?_
                                refine lv_aload hx hb dL_box_282 (lv_at hl 5 rfl) ?_
                                refine lv_iload hx hb dL_box_284 (lv_at hl 8 rfl) ?_
                                refine z_iald (j := w) hx hb hG hr5 ⟨by omega, by omega⟩ dL_box_286 ?_
                                refine z_top (y := (zTm nw w)) ((e5r w (by omega)).2) ?_
                                refine lv_icmp_ne (tgt := 302) hx hb dL_box_287 (by decide) (fun c_9 => by exfalso; exact c_9 rfl) (fun c_9 => ?_)
                                refine lv_aload_n hx hb dL_box_290 rfl (lv_at hl 0 rfl) ?_
                                refine lv_iload hx hb dL_box_291 (lv_at hl 8 rfl) ?_
                                refine lv_iconst (v := nI (2)) hx hb dL_box_293 (by decide) ?_
                                refine z_roV (As := [.int (nI (w)), .int (nI (2))]) (rest := []) (q := (RX5, TX5, 7)) S hG (c_X5_entry_22 E (en := w) hok (by omega)) 2 gL_box_X5_entry rfl kX5_entry ⟨Nat.le_of_ble_eq_true rfl, Nat.le_of_ble_eq_true rfl⟩ ⟨Nat.zero_le _, Nat.zero_le _⟩ (hCW) rfl h5 rfl hl.1 rfl rfl (Nat.le_of_ble_eq_true rfl) dL_box_294 ?_
                                refine lv_iload hx hb dL_box_297 (lv_at hl 9 rfl) ?_
                                refine lv_icmp_eq (tgt := 304) hx hb dL_box_299 (by decide) (fun c_10 => ?_) (fun c_10 => by exfalso; exact c_10 (by rw [show u2 = 6 by omega]))
                                refine lv_iinc (v := nI (w + 1)) (lv' := [(8, .int (nI (w + 1))), (0, .ref (ad 287)), (1, .ref (ra)), (2, .ref (ba)), (3, .ref (ga)), (4, .ref (ea)), (5, .ref (ca)), (6, .int (nI (zNl nw))), (7, .int (zset (fun t9 => decide (zSz nw t9 ≠ 0)) i)), (9, .int (nI (zct (fun t9 => zal (zSz nw t9) (zKd nw t9) (zSz nw (6 + w)) (zKd nw (6 + w)) 1) u2))), (10, .int (nI (u2)))]) hx hb dL_box_304 hl (k := 8) rfl (z_inc1 _) (by decide) rfl (fun ls hl => ?_)
                                refine lv_goto (tgt := 195) hx hb dL_box_307 (by decide) ?_
                                have hl9 := lv_sub hl [1, 2, 3, 4, 5, 6, 7, 8, 0] (l' := [(0, .ref (ad 287)), (1, .ref (ra)), (2, .ref (ba)), (3, .ref (ga)), (4, .ref (ea)), (5, .ref (ca)), (6, .int (nI (zNl nw))), (7, .int (zset (fun t9 => decide (zSz nw t9 ≠ 0)) i)), (8, .int (nI (w + 1)))]) rfl
                                have e9_8 : (w + 1) = ((w + 1)) := by omega
                                exact ih195 (w + 1) (by omega) (by omega) ls (by rw [← e9_8]; exact hl9)
                              · refine lv_iload hx hb dL_box_215 (lv_at hl 9 rfl) ?_
                                refine lv_aload_n hx hb dL_box_217 rfl (lv_at hl 1 rfl) ?_
                                refine lv_iload hx hb dL_box_218 (lv_at hl 10 rfl) ?_
                                refine z_lald (j := u2) hx hb hG hr1 ⟨by omega, by omega⟩ dL_box_220 ?_
                                refine z_topl (y := lN (zRn nw u2)) (congrArg lN (e1r _ (by omega))) ?_
                                refine lv_lconst (v := lN 0) hx hb dL_box_221 rfl ?_
                                refine W.lcmp hx hb dL_box_222 ?_
                                refine z_lle (tgt := 247) hx hb dL_box_223 (by decide) ⟨by have h9 := zRn_62 hok (t := u2) (by omega); omega, by omega⟩ (fun c_11 => ?_) (fun c_11 => ?_)
                                · refine lv_iconst (v := nI (0)) hx hb dL_box_247 (by decide) ?_
                                  refine z_iadd hx hb dL_box_248 ?_
                                  refine lv_istore (lv' := [(9, .int (nI ((zct (fun t9 => zal (zSz nw t9) (zKd nw t9) (zSz nw (6 + w)) (zKd nw (6 + w)) 1) u2) + 0))), (0, .ref (ad 287)), (1, .ref (ra)), (2, .ref (ba)), (3, .ref (ga)), (4, .ref (ea)), (5, .ref (ca)), (6, .int (nI (zNl nw))), (7, .int (zset (fun t9 => decide (zSz nw t9 ≠ 0)) i)), (8, .int (nI (w))), (10, .int (nI (u2)))]) hx hb dL_box_249 hl (by decide) rfl (fun ls hl => ?_)
                                  refine lv_iinc (v := nI (u2 + 1)) (lv' := [(10, .int (nI (u2 + 1))), (9, .int (nI ((zct (fun t9 => zal (zSz nw t9) (zKd nw t9) (zSz nw (6 + w)) (zKd nw (6 + w)) 1) u2) + 0))), (0, .ref (ad 287)), (1, .ref (ra)), (2, .ref (ba)), (3, .ref (ga)), (4, .ref (ea)), (5, .ref (ca)), (6, .int (nI (zNl nw))), (7, .int (zset (fun t9 => decide (zSz nw t9 ≠ 0)) i)), (8, .int (nI (w)))]) hx hb dL_box_251 hl (k := 10) rfl (z_inc1 _) (by decide) rfl (fun ls hl => ?_)
                                  refine lv_goto (tgt := 208) hx hb dL_box_254 (by decide) ?_
                                  have hl9 := lv_sub hl [2, 3, 4, 5, 6, 7, 8, 9, 10, 1, 0] (l' := [(0, .ref (ad 287)), (1, .ref (ra)), (2, .ref (ba)), (3, .ref (ga)), (4, .ref (ea)), (5, .ref (ca)), (6, .int (nI (zNl nw))), (7, .int (zset (fun t9 => decide (zSz nw t9 ≠ 0)) i)), (8, .int (nI (w))), (9, .int (nI ((zct (fun t9 => zal (zSz nw t9) (zKd nw t9) (zSz nw (6 + w)) (zKd nw (6 + w)) 1) u2) + 0))), (10, .int (nI (u2 + 1)))]) rfl
                                  have e9_9 : ((zct (fun t9 => zal (zSz nw t9) (zKd nw t9) (zSz nw (6 + w)) (zKd nw (6 + w)) 1) u2) + 0) = (zct (fun t9 => zal (zSz nw t9) (zKd nw t9) (zSz nw (6 + w)) (zKd nw (6 + w)) 1) (u2 + 1)) := by first | exact zct_t ((zAL (hok.s4 (t := u2) (by omega) (zRn_1 (by omega))) hw4.1 (hok.k4 (t := u2) (by omega)) hw4.2 (by decide)).mp (by assumption)) | exact zct_f (zAL_f (hok.s4 (t := u2) (by omega) (zRn_1 (by omega))) hw4.1 (hok.k4 (t := u2) (by omega)) hw4.2 (by decide) (by assumption)) | exact zct_f (by show zal (zSz nw u2) (zKd nw u2) _ _ 1 = false; rw [zRn_0 (v := nw) (t := u2) (by omega)]; exact zal_0 hw4.1.b.1)
                                  have e9_10 : (u2 + 1) = ((u2 + 1)) := by omega
                                  exact ih208 (u2 + 1) (by omega) (by omega) ls (by rw [← e9_9, ← e9_10]; exact hl9)
                                · refine lv_aload_n hx hb dL_box_226 rfl (lv_at hl 1 rfl) ?_
                                  refine lv_iload hx hb dL_box_227 (lv_at hl 10 rfl) ?_
                                  refine z_lald (j := u2) hx hb hG hr1 ⟨by omega, by omega⟩ dL_box_229 ?_
                                  refine z_topl (y := lN (zLn (zKd nw u2) (zSz nw u2))) (congrArg lN ((e1r _ (by omega)).trans (zRn_e (zRn_1 (by omega))))) ?_
                                  refine lv_iconst (v := nI (1)) hx hb dL_box_230 (by decide) ?_
                                  refine z_roSX (As := [.long (lN (zLn (zKd nw u2) (zSz nw u2))), .int (nI (1))]) (rest := [.int (nI (zct (fun t9 => zal (zSz nw t9) (zKd nw t9) (zSz nw (6 + w)) (zKd nw (6 + w)) 1) u2))]) S hG (c_L_least E (lv := 1) (hok.s4 (t := u2) (by omega) (zRn_1 (by omega))) (hok.k4 (t := u2) (by omega)) (by decide)) 2 gL_box_L_least rfl kL_least.2 ⟨Nat.le_of_ble_eq_true rfl, Nat.le_of_ble_eq_true rfl⟩ ⟨Nat.zero_le _, Nat.zero_le _⟩ (trivial) rfl hl.1 rfl rfl (Nat.le_of_ble_eq_true rfl) dL_box_231 ?_
                                  refine lv_aload hx hb dL_box_234 (lv_at hl 4 rfl) ?_
                                  refine lv_iload hx hb dL_box_236 (lv_at hl 8 rfl) ?_
                                  refine z_lald (j := w) hx hb hG hr4 ⟨by omega, by omega⟩ dL_box_238 ?_
                                  refine z_topl (y := lN (zLe 1 (zSz nw (6 + w)) (zKd nw (6 + w)))) (congrArg lN (e5r w (by omega)).1) ?_
                                  refine W.lcmp hx hb dL_box_239 ?_
                                  refine z_lne (tgt := 247) hx hb dL_box_240 (by decide) ⟨by have h9 := zLe_62 (lv := 1) (hok.s4 (t := u2) (by omega) (zRn_1 (by omega))) (hok.k4 (t := u2) (by omega)); omega, by have h8 := zLe_62 (lv := 1) hw4.1 hw4.2; omega⟩ (fun c_12 => ?_) (fun c_12 => ?_)
                                  · refine lv_iconst (v := nI (0)) hx hb dL_box_247 (by decide) ?_
                                    refine z_iadd hx hb dL_box_248 ?_
                                    refine lv_istore (lv' := [(9, .int (nI ((zct (fun t9 => zal (zSz nw t9) (zKd nw t9) (zSz nw (6 + w)) (zKd nw (6 + w)) 1) u2) + 0))), (0, .ref (ad 287)), (1, .ref (ra)), (2, .ref (ba)), (3, .ref (ga)), (4, .ref (ea)), (5, .ref (ca)), (6, .int (nI (zNl nw))), (7, .int (zset (fun t9 => decide (zSz nw t9 ≠ 0)) i)), (8, .int (nI (w))), (10, .int (nI (u2)))]) hx hb dL_box_249 hl (by decide) rfl (fun ls hl => ?_)
                                    refine lv_iinc (v := nI (u2 + 1)) (lv' := [(10, .int (nI (u2 + 1))), (9, .int (nI ((zct (fun t9 => zal (zSz nw t9) (zKd nw t9) (zSz nw (6 + w)) (zKd nw (6 + w)) 1) u2) + 0))), (0, .ref (ad 287)), (1, .ref (ra)), (2, .ref (ba)), (3, .ref (ga)), (4, .ref (ea)), (5, .ref (ca)), (6, .int (nI (zNl nw))), (7, .int (zset (fun t9 => decide (zSz nw t9 ≠ 0)) i)), (8, .int (nI (w)))]) hx hb dL_box_251 hl (k := 10) rfl (z_inc1 _) (by decide) rfl (fun ls hl => ?_)
                                    refine lv_goto (tgt := 208) hx hb dL_box_254 (by decide) ?_
                                    have hl9 := lv_sub hl [2, 3, 4, 5, 6, 7, 8, 9, 10, 1, 0] (l' := [(0, .ref (ad 287)), (1, .ref (ra)), (2, .ref (ba)), (3, .ref (ga)), (4, .ref (ea)), (5, .ref (ca)), (6, .int (nI (zNl nw))), (7, .int (zset (fun t9 => decide (zSz nw t9 ≠ 0)) i)), (8, .int (nI (w))), (9, .int (nI ((zct (fun t9 => zal (zSz nw t9) (zKd nw t9) (zSz nw (6 + w)) (zKd nw (6 + w)) 1) u2) + 0))), (10, .int (nI (u2 + 1)))]) rfl
                                    have e9_9 : ((zct (fun t9 => zal (zSz nw t9) (zKd nw t9) (zSz nw (6 + w)) (zKd nw (6 + w)) 1) u2) + 0) = (zct (fun t9 => zal (zSz nw t9) (zKd nw t9) (zSz nw (6 + w)) (zKd nw (6 + w)) 1) (u2 + 1)) := by first | exact zct_t ((zAL (hok.s4 (t := u2) (by omega) (zRn_1 (by omega))) hw4.1 (hok.k4 (t := u2) (by omega)) hw4.2 (by decide)).mp (by assumption)) | exact zct_f (zAL_f (hok.s4 (t := u2) (by omega) (zRn_1 (by omega))) hw4.1 (hok.k4 (t := u2) (by omega)) hw4.2 (by decide) (by assumption)) | exact zct_f (by show zal (zSz nw u2) (zKd nw u2) _ _ 1 = false; rw [zRn_0 (v := nw) (t := u2) (by omega)]; exact zal_0 hw4.1.b.1)
                                    have e9_10 : (u2 + 1) = ((u2 + 1)) := by omega
                                    exact ih208 (u2 + 1) (by omega) (by omega) ls (by rw [← e9_9, ← e9_10]; exact hl9)
                                  · refine lv_iconst (v := nI (1)) hx hb dL_box_243 (by decide) ?_
                                    refine lv_goto (tgt := 248) hx hb dL_box_244 (by decide) ?_
                                    refine z_iadd hx hb dL_box_248 ?_
                                    refine lv_istore (lv' := [(9, .int (nI ((zct (fun t9 => zal (zSz nw t9) (zKd nw t9) (zSz nw (6 + w)) (zKd nw (6 + w)) 1) u2) + 1))), (0, .ref (ad 287)), (1, .ref (ra)), (2, .ref (ba)), (3, .ref (ga)), (4, .ref (ea)), (5, .ref (ca)), (6, .int (nI (zNl nw))), (7, .int (zset (fun t9 => decide (zSz nw t9 ≠ 0)) i)), (8, .int (nI (w))), (10, .int (nI (u2)))]) hx hb dL_box_249 hl (by decide) rfl (fun ls hl => ?_)
                                    refine lv_iinc (v := nI (u2 + 1)) (lv' := [(10, .int (nI (u2 + 1))), (9, .int (nI ((zct (fun t9 => zal (zSz nw t9) (zKd nw t9) (zSz nw (6 + w)) (zKd nw (6 + w)) 1) u2) + 1))), (0, .ref (ad 287)), (1, .ref (ra)), (2, .ref (ba)), (3, .ref (ga)), (4, .ref (ea)), (5, .ref (ca)), (6, .int (nI (zNl nw))), (7, .int (zset (fun t9 => decide (zSz nw t9 ≠ 0)) i)), (8, .int (nI (w)))]) hx hb dL_box_251 hl (k := 10) rfl (z_inc1 _) (by decide) rfl (fun ls hl => ?_)
                                    refine lv_goto (tgt := 208) hx hb dL_box_254 (by decide) ?_
                                    have hl9 := lv_sub hl [2, 3, 4, 5, 6, 7, 8, 9, 10, 1, 0] (l' := [(0, .ref (ad 287)), (1, .ref (ra)), (2, .ref (ba)), (3, .ref (ga)), (4, .ref (ea)), (5, .ref (ca)), (6, .int (nI (zNl nw))), (7, .int (zset (fun t9 => decide (zSz nw t9 ≠ 0)) i)), (8, .int (nI (w))), (9, .int (nI ((zct (fun t9 => zal (zSz nw t9) (zKd nw t9) (zSz nw (6 + w)) (zKd nw (6 + w)) 1) u2) + 1))), (10, .int (nI (u2 + 1)))]) rfl
                                    have e9_9 : ((zct (fun t9 => zal (zSz nw t9) (zKd nw t9) (zSz nw (6 + w)) (zKd nw (6 + w)) 1) u2) + 1) = (zct (fun t9 => zal (zSz nw t9) (zKd nw t9) (zSz nw (6 + w)) (zKd nw (6 + w)) 1) (u2 + 1)) := by first | exact zct_t ((zAL (hok.s4 (t := u2) (by omega) (zRn_1 (by omega))) hw4.1 (hok.k4 (t := u2) (by omega)) hw4.2 (by decide)).mp (by assumption)) | exact zct_f (zAL_f (hok.s4 (t := u2) (by omega) (zRn_1 (by omega))) hw4.1 (hok.k4 (t := u2) (by omega)) hw4.2 (by decide) (by assumption)) | exact zct_f (by show zal (zSz nw u2) (zKd nw u2) _ _ 1 = false; rw [zRn_0 (v := nw) (t := u2) (by omega)]; exact zal_0 hw4.1.b.1)
                                    have e9_10 : (u2 + 1) = ((u2 + 1)) := by omega
                                    exact ih208 (u2 + 1) (by omega) (by omega) ls (by rw [← e9_9, ← e9_10]; exact hl9)
                          exact L208 ((6 - (0)) + 1) (0) (Nat.lt_succ_self _) (by omega) ls (lv_sub hl [2, 3, 4, 5, 6, 7, 8, 9, 10, 1, 0] rfl)
                    exact L195 ((zNl nw - (0)) + 1) (0) (Nat.lt_succ_self _) (Nat.zero_le _) ls (lv_sub hl [1, 2, 3, 4, 5, 6, 7, 8, 0] rfl)
                  · rcases Nat.lt_or_ge v (zMl nw) with q1 | q1
                    · refine lv_aload_n hx hb dL_box_158 rfl (lv_at hl 0 rfl) ?_
                      refine lv_iload hx hb dL_box_159 (lv_at hl 8 rfl) ?_
                      refine z_roV (As := [.int (nI (v))]) (rest := []) (q := (RX5, TX5, 7)) S hG (c_X5_motif_1 E (j := v) hok q1) 1 gL_box_X5_motif rfl kX5_motif ⟨Nat.le_of_ble_eq_true rfl, Nat.le_of_ble_eq_true rfl⟩ ⟨Nat.zero_le _, Nat.zero_le _⟩ (hCW) rfl h5 rfl hl.1 rfl rfl (Nat.le_of_ble_eq_true rfl) dL_box_161 ?_
                      refine lv_iload hx hb dL_box_164 (lv_at hl 8 rfl) ?_
                      refine lv_aload_n hx hb dL_box_166 rfl (lv_at hl 3 rfl) ?_
                      refine lv_bipush (v := nI (6)) hx hb dL_box_167 (by decide) ?_
                      refine z_iald (j := 6) hx hb hG hr3 ⟨by omega, by omega⟩ dL_box_169 ?_
                      refine z_top (y := nI (zMl nw)) (e3r) ?_
                      refine z_cge (tgt := 180) hx hb dL_box_170 (by decide) ⟨by omega, by omega⟩ (fun c_13 => by exfalso; omega) (fun c_13 => ?_)
                      refine lv_aload_n hx hb dL_box_173 rfl (lv_at hl 3 rfl) ?_
                      refine lv_iload hx hb dL_box_174 (lv_at hl 8 rfl) ?_
                      refine z_iald (j := v) hx hb hG hr3 ⟨by omega, by omega⟩ dL_box_176 ?_
                      refine z_top (y := (zSg nw v)) (e4r v (by omega)) ?_
                      refine lv_goto (tgt := 181) hx hb dL_box_177 (by decide) ?_
                      refine lv_icmp_eq (tgt := 186) hx hb dL_box_181 (by decide) (fun c_14 => ?_) (fun c_14 => by exfalso; exact c_14 rfl)
                      refine lv_iinc (v := nI (v + 1)) (lv' := [(8, .int (nI (v + 1))), (0, .ref (ad 287)), (1, .ref (ra)), (2, .ref (ba)), (3, .ref (ga)), (4, .ref (ea)), (5, .ref (ca)), (6, .int (nI (zNl nw))), (7, .int (zset (fun t9 => decide (zSz nw t9 ≠ 0)) i))]) hx hb dL_box_186 hl (k := 8) rfl (z_inc1 _) (by decide) rfl (fun ls hl => ?_)
                      refine lv_goto (tgt := 151) hx hb dL_box_189 (by decide) ?_
                      have hl9 := lv_sub hl [1, 2, 3, 4, 5, 6, 7, 8, 0] (l' := [(0, .ref (ad 287)), (1, .ref (ra)), (2, .ref (ba)), (3, .ref (ga)), (4, .ref (ea)), (5, .ref (ca)), (6, .int (nI (zNl nw))), (7, .int (zset (fun t9 => decide (zSz nw t9 ≠ 0)) i)), (8, .int (nI (v + 1)))]) rfl
                      have e9_8 : (v + 1) = ((v + 1)) := by omega
                      exact ih151 (v + 1) (by omega) (by omega) ls (by rw [← e9_8]; exact hl9)
                    · refine lv_aload_n hx hb dL_box_158 rfl (lv_at hl 0 rfl) ?_
                      refine lv_iload hx hb dL_box_159 (lv_at hl 8 rfl) ?_
                      refine z_roV (As := [.int (nI (v))]) (rest := []) (q := (RX5, TX5, 7)) S hG (c_X5_motif_0 E (y := nI v) hok (zmo_ge q1 (by omega))) 1 gL_box_X5_motif rfl kX5_motif ⟨Nat.le_of_ble_eq_true rfl, Nat.le_of_ble_eq_true rfl⟩ ⟨Nat.zero_le _, Nat.zero_le _⟩ (hCW) rfl h5 rfl hl.1 rfl rfl (Nat.le_of_ble_eq_true rfl) dL_box_161 ?_
                      refine lv_iload hx hb dL_box_164 (lv_at hl 8 rfl) ?_
                      refine lv_aload_n hx hb dL_box_166 rfl (lv_at hl 3 rfl) ?_
                      refine lv_bipush (v := nI (6)) hx hb dL_box_167 (by decide) ?_
                      refine z_iald (j := 6) hx hb hG hr3 ⟨by omega, by omega⟩ dL_box_169 ?_
                      refine z_top (y := nI (zMl nw)) (e3r) ?_
                      refine z_cge (tgt := 180) hx hb dL_box_170 (by decide) ⟨by omega, by omega⟩ (fun c_15 => ?_) (fun c_15 => by exfalso; omega)
                      refine lv_iconst (v := (-1)) hx hb dL_box_180 (by decide) ?_
                      refine lv_icmp_eq (tgt := 186) hx hb dL_box_181 (by decide) (fun c_16 => ?_) (fun c_16 => by exfalso; exact c_16 rfl)
                      refine lv_iinc (v := nI (v + 1)) (lv' := [(8, .int (nI (v + 1))), (0, .ref (ad 287)), (1, .ref (ra)), (2, .ref (ba)), (3, .ref (ga)), (4, .ref (ea)), (5, .ref (ca)), (6, .int (nI (zNl nw))), (7, .int (zset (fun t9 => decide (zSz nw t9 ≠ 0)) i))]) hx hb dL_box_186 hl (k := 8) rfl (z_inc1 _) (by decide) rfl (fun ls hl => ?_)
                      refine lv_goto (tgt := 151) hx hb dL_box_189 (by decide) ?_
                      have hl9 := lv_sub hl [1, 2, 3, 4, 5, 6, 7, 8, 0] (l' := [(0, .ref (ad 287)), (1, .ref (ra)), (2, .ref (ba)), (3, .ref (ga)), (4, .ref (ea)), (5, .ref (ca)), (6, .int (nI (zNl nw))), (7, .int (zset (fun t9 => decide (zSz nw t9 ≠ 0)) i)), (8, .int (nI (v + 1)))]) rfl
                      have e9_8 : (v + 1) = ((v + 1)) := by omega
                      exact ih151 (v + 1) (by omega) (by omega) ls (by rw [← e9_8]; exact hl9)
              exact L151 ((6 - (0)) + 1) (0) (Nat.lt_succ_self _) (by omega) ls (lv_sub hl [1, 2, 3, 4, 5, 6, 7, 8, 0] rfl)
            · refine lv_iconst (v := nI (0)) hx hb dL_box_50 (by decide) ?_
              refine lv_istore (lv' := [(9, .int (nI (0))), (0, .ref (ad 287)), (1, .ref (ra)), (2, .ref (ba)), (3, .ref (ga)), (4, .ref (ea)), (5, .ref (ca)), (6, .int (nI (zNl nw))), (7, .int (zset (fun t9 => decide (zSz nw t9 ≠ 0)) i)), (8, .int (nI (k)))]) hx hb dL_box_51 hl (by decide) rfl (fun ls hl => ?_)
              refine lv_iconst (v := nI (0)) hx hb dL_box_53 (by decide) ?_
              refine lv_istore (lv' := [(10, .int (nI (0))), (9, .int (nI (0))), (0, .ref (ad 287)), (1, .ref (ra)), (2, .ref (ba)), (3, .ref (ga)), (4, .ref (ea)), (5, .ref (ca)), (6, .int (nI (zNl nw))), (7, .int (zset (fun t9 => decide (zSz nw t9 ≠ 0)) i)), (8, .int (nI (k)))]) hx hb dL_box_54 hl (by decide) rfl (fun ls hl => ?_)
              have L56 : ∀ (dd : Nat) (u : Nat), 6 - u < dd → (u ≤ 6) → ∀ (ls : Array Slot), lv_has ls 11 [(0, .ref (ad 287)), (1, .ref (ra)), (2, .ref (ba)), (3, .ref (ga)), (4, .ref (ea)), (5, .ref (ca)), (6, .int (nI (zNl nw))), (7, .int (zset (fun t9 => decide (zSz nw t9 ≠ 0)) i)), (8, .int (nI (k))), (9, .int (nI (zns (fun t9 => zcn (zKd nw t9) (nI k) (zSz nw t9)) u))), (10, .int (nI (u)))] → W p (zl E) e (zRm 7 162) s m args below meth c H [] 0 0 Q (F0 m 56 ls []) := by
                intro dd
                induction dd with
                | zero => intro u hdd; exact absurd hdd (Nat.not_lt_zero _)
                | succ dd ih56 =>
                  intro u hdd56 hu ls hl
                  refine lv_iload hx hb dL_box_56 (lv_at hl 10 rfl) ?_
                  refine lv_bipush (v := nI (6)) hx hb dL_box_58 (by decide) ?_
                  refine z_cge (tgt := 96) hx hb dL_box_60 (by decide) ⟨by omega, by omega⟩ (fun c_17 => ?_) (fun c_17 => ?_)
                  · refine lv_aload_n hx hb dL_box_96 rfl (lv_at hl 0 rfl) ?_
                    refine lv_iload hx hb dL_box_97 (lv_at hl 8 rfl) ?_
                    refine lv_iconst (v := nI (0)) hx hb dL_box_99 (by decide) ?_
                    refine z_roV (As := [.int (nI (k)), .int (nI (0))]) (rest := []) (q := (RX5, TX5, 7)) S hG (c_X5_kind_20 E (j := k) hok ⟨by omega, by omega⟩) 2 gL_box_X5_kind rfl kX5_kind ⟨Nat.le_of_ble_eq_true rfl, Nat.le_of_ble_eq_true rfl⟩ ⟨Nat.zero_le _, Nat.zero_le _⟩ (hCW) rfl h5 rfl hl.1 rfl rfl (Nat.le_of_ble_eq_true rfl) dL_box_100 ?_
                    refine lv_aload_n hx hb dL_box_103 rfl (lv_at hl 2 rfl) ?_
                    refine lv_iload hx hb dL_box_104 (lv_at hl 8 rfl) ?_
                    refine lv_iconst (v := nI (1)) hx hb dL_box_106 (by decide) ?_
                    refine z_isub hx hb dL_box_107 (by omega) ?_
                    refine z_iald (j := k - 1) hx hb hG hr2 ⟨by omega, by omega⟩ dL_box_108 ?_
                    refine z_top (y := (zBx nw k)) ((e2r k (by omega) (by omega)).1) ?_
                    refine lv_icmp_ne (tgt := 140) hx hb dL_box_109 (by decide) (fun c_18 => by exfalso; exact c_18 rfl) (fun c_18 => ?_)
                    refine lv_aload_n hx hb dL_box_112 rfl (lv_at hl 0 rfl) ?_
                    refine lv_iload hx hb dL_box_113 (lv_at hl 8 rfl) ?_
                    refine lv_iconst (v := nI (1)) hx hb dL_box_115 (by decide) ?_
                    refine z_roV (As := [.int (nI (k)), .int (nI (1))]) (rest := []) (q := (RX5, TX5, 7)) S hG (c_X5_kind_21 E (j := k) hok ⟨by omega, by omega⟩) 2 gL_box_X5_kind rfl kX5_kind ⟨Nat.le_of_ble_eq_true rfl, Nat.le_of_ble_eq_true rfl⟩ ⟨Nat.zero_le _, Nat.zero_le _⟩ (hCW) rfl h5 rfl hl.1 rfl rfl (Nat.le_of_ble_eq_true rfl) dL_box_116 ?_
                    refine lv_aload_n hx hb dL_box_119 rfl (lv_at hl 2 rfl) ?_
                    refine lv_iconst (v := nI (4)) hx hb dL_box_120 (by decide) ?_
                    refine lv_iload hx hb dL_box_121 (lv_at hl 8 rfl) ?_
                    refine z_iadd hx hb dL_box_123 ?_
                    refine z_iald (j := 4 + k) hx hb hG hr2 ⟨by omega, by omega⟩ dL_box_124 ?_
                    refine z_top (y := (zWt nw k)) ((e2r k (by omega) (by omega)).2) ?_
                    refine lv_icmp_ne (tgt := 140) hx hb dL_box_125 (by decide) (fun c_19 => by exfalso; exact c_19 rfl) (fun c_19 => ?_)
                    refine lv_aload_n hx hb dL_box_128 rfl (lv_at hl 0 rfl) ?_
                    refine lv_iload hx hb dL_box_129 (lv_at hl 8 rfl) ?_
                    refine lv_iconst (v := nI (2)) hx hb dL_box_131 (by decide) ?_
                    refine z_roV (As := [.int (nI (k)), .int (nI (2))]) (rest := []) (q := (RX5, TX5, 7)) S hG (c_X5_kind_22 E (j := k) hok ⟨by omega, by omega⟩) 2 gL_box_X5_kind rfl kX5_kind ⟨Nat.le_of_ble_eq_true rfl, Nat.le_of_ble_eq_true rfl⟩ ⟨Nat.zero_le _, Nat.zero_le _⟩ (hCW) rfl h5 rfl hl.1 rfl rfl (Nat.le_of_ble_eq_true rfl) dL_box_132 ?_
                    refine lv_iload hx hb dL_box_135 (lv_at hl 9 rfl) ?_
                    refine lv_icmp_eq (tgt := 142) hx hb dL_box_137 (by decide) (fun c_20 => ?_) (fun c_20 => by exfalso; exact c_20 (by rw [show u = 6 by omega]))
                    refine lv_iinc (v := nI (k + 1)) (lv' := [(8, .int (nI (k + 1))), (0, .ref (ad 287)), (1, .ref (ra)), (2, .ref (ba)), (3, .ref (ga)), (4, .ref (ea)), (5, .ref (ca)), (6, .int (nI (zNl nw))), (7, .int (zset (fun t9 => decide (zSz nw t9 ≠ 0)) i)), (9, .int (nI (zns (fun t9 => zcn (zKd nw t9) (nI k) (zSz nw t9)) u))), (10, .int (nI (u)))]) hx hb dL_box_142 hl (k := 8) rfl (z_inc1 _) (by decide) rfl (fun ls hl => ?_)
                    refine lv_goto (tgt := 44) hx hb dL_box_145 (by decide) ?_
                    have hl9 := lv_sub hl [1, 2, 3, 4, 5, 6, 7, 8, 0] (l' := [(0, .ref (ad 287)), (1, .ref (ra)), (2, .ref (ba)), (3, .ref (ga)), (4, .ref (ea)), (5, .ref (ca)), (6, .int (nI (zNl nw))), (7, .int (zset (fun t9 => decide (zSz nw t9 ≠ 0)) i)), (8, .int (nI (k + 1)))]) rfl
                    have e9_8 : (k + 1) = ((k + 1)) := by omega
                    exact ih44 (k + 1) (by omega) (by omega) (by omega) ls (by rw [← e9_8]; exact hl9)
                  · refine lv_iload hx hb dL_box_63 (lv_at hl 9 rfl) ?_
                    refine lv_aload_n hx hb dL_box_65 rfl (lv_at hl 1 rfl) ?_
                    refine lv_iload hx hb dL_box_66 (lv_at hl 10 rfl) ?_
                    refine z_lald (j := u) hx hb hG hr1 ⟨by omega, by omega⟩ dL_box_68 ?_
                    refine z_topl (y := lN (zRn nw u)) (congrArg lN (e1r _ (by omega))) ?_
                    refine lv_lconst (v := lN 0) hx hb dL_box_69 rfl ?_
                    refine W.lcmp hx hb dL_box_70 ?_
                    refine z_lle (tgt := 86) hx hb dL_box_71 (by decide) ⟨by have h9 := zRn_62 hok (t := u) (by omega); omega, by omega⟩ (fun c_21 => ?_) (fun c_21 => ?_)
                    · refine lv_iconst (v := nI (0)) hx hb dL_box_86 (by decide) ?_
                      refine z_iadd hx hb dL_box_87 ?_
                      refine lv_istore (lv' := [(9, .int (nI ((zns (fun t9 => zcn (zKd nw t9) (nI k) (zSz nw t9)) u) + 0))), (0, .ref (ad 287)), (1, .ref (ra)), (2, .ref (ba)), (3, .ref (ga)), (4, .ref (ea)), (5, .ref (ca)), (6, .int (nI (zNl nw))), (7, .int (zset (fun t9 => decide (zSz nw t9 ≠ 0)) i)), (8, .int (nI (k))), (10, .int (nI (u)))]) hx hb dL_box_88 hl (by decide) rfl (fun ls hl => ?_)
                      refine lv_iinc (v := nI (u + 1)) (lv' := [(10, .int (nI (u + 1))), (9, .int (nI ((zns (fun t9 => zcn (zKd nw t9) (nI k) (zSz nw t9)) u) + 0))), (0, .ref (ad 287)), (1, .ref (ra)), (2, .ref (ba)), (3, .ref (ga)), (4, .ref (ea)), (5, .ref (ca)), (6, .int (nI (zNl nw))), (7, .int (zset (fun t9 => decide (zSz nw t9 ≠ 0)) i)), (8, .int (nI (k)))]) hx hb dL_box_90 hl (k := 10) rfl (z_inc1 _) (by decide) rfl (fun ls hl => ?_)
                      refine lv_goto (tgt := 56) hx hb dL_box_93 (by decide) ?_
                      have hl9 := lv_sub hl [2, 3, 4, 5, 6, 7, 8, 9, 10, 1, 0] (l' := [(0, .ref (ad 287)), (1, .ref (ra)), (2, .ref (ba)), (3, .ref (ga)), (4, .ref (ea)), (5, .ref (ca)), (6, .int (nI (zNl nw))), (7, .int (zset (fun t9 => decide (zSz nw t9 ≠ 0)) i)), (8, .int (nI (k))), (9, .int (nI ((zns (fun t9 => zcn (zKd nw t9) (nI k) (zSz nw t9)) u) + 0))), (10, .int (nI (u + 1)))]) rfl
                      have e9_9 : ((zns (fun t9 => zcn (zKd nw t9) (nI k) (zSz nw t9)) u) + 0) = (zns (fun t9 => zcn (zKd nw t9) (nI k) (zSz nw t9)) (u + 1)) := by first | exact zns_a (by show zcn (zKd nw u) (nI k) (zSz nw u) = 0; rw [zRn_0 (v := nw) (t := u) (by omega)]; rfl) | rfl
                      have e9_10 : (u + 1) = ((u + 1)) := by omega
                      exact ih56 (u + 1) (by omega) (by omega) ls (by rw [← e9_9, ← e9_10]; exact hl9)
                    · refine lv_aload_n hx hb dL_box_74 rfl (lv_at hl 1 rfl) ?_
                      refine lv_iload hx hb dL_box_75 (lv_at hl 10 rfl) ?_
                      refine z_lald (j := u) hx hb hG hr1 ⟨by omega, by omega⟩ dL_box_77 ?_
                      refine z_topl (y := lN (zLn (zKd nw u) (zSz nw u))) (congrArg lN ((e1r _ (by omega)).trans (zRn_e (zRn_1 (by omega))))) ?_
                      refine lv_iload hx hb dL_box_78 (lv_at hl 8 rfl) ?_
                      refine z_roSX (As := [.long (lN (zLn (zKd nw u) (zSz nw u))), .int (nI (k))]) (rest := [.int (nI (zns (fun t9 => zcn (zKd nw t9) (nI k) (zSz nw t9)) u))]) S hG (c_L_charms E (x := nI k) (hok.s4 (t := u) (by omega) (zRn_1 (by omega))) (hok.k4 (t := u) (by omega))) 2 gL_box_L_charms rfl kL_charms.2 ⟨Nat.le_of_ble_eq_true rfl, Nat.le_of_ble_eq_true rfl⟩ ⟨Nat.zero_le _, Nat.zero_le _⟩ (trivial) rfl hl.1 rfl rfl (Nat.le_of_ble_eq_true rfl) dL_box_80 ?_
                      refine lv_goto (tgt := 87) hx hb dL_box_83 (by decide) ?_
                      refine z_iadd hx hb dL_box_87 ?_
                      refine lv_istore (lv' := [(9, .int (nI ((zns (fun t9 => zcn (zKd nw t9) (nI k) (zSz nw t9)) u) + (zcn (zKd nw u) (nI k) (zSz nw u))))), (0, .ref (ad 287)), (1, .ref (ra)), (2, .ref (ba)), (3, .ref (ga)), (4, .ref (ea)), (5, .ref (ca)), (6, .int (nI (zNl nw))), (7, .int (zset (fun t9 => decide (zSz nw t9 ≠ 0)) i)), (8, .int (nI (k))), (10, .int (nI (u)))]) hx hb dL_box_88 hl (by decide) rfl (fun ls hl => ?_)
                      refine lv_iinc (v := nI (u + 1)) (lv' := [(10, .int (nI (u + 1))), (9, .int (nI ((zns (fun t9 => zcn (zKd nw t9) (nI k) (zSz nw t9)) u) + (zcn (zKd nw u) (nI k) (zSz nw u))))), (0, .ref (ad 287)), (1, .ref (ra)), (2, .ref (ba)), (3, .ref (ga)), (4, .ref (ea)), (5, .ref (ca)), (6, .int (nI (zNl nw))), (7, .int (zset (fun t9 => decide (zSz nw t9 ≠ 0)) i)), (8, .int (nI (k)))]) hx hb dL_box_90 hl (k := 10) rfl (z_inc1 _) (by decide) rfl (fun ls hl => ?_)
                      refine lv_goto (tgt := 56) hx hb dL_box_93 (by decide) ?_
                      have hl9 := lv_sub hl [2, 3, 4, 5, 6, 7, 8, 9, 10, 1, 0] (l' := [(0, .ref (ad 287)), (1, .ref (ra)), (2, .ref (ba)), (3, .ref (ga)), (4, .ref (ea)), (5, .ref (ca)), (6, .int (nI (zNl nw))), (7, .int (zset (fun t9 => decide (zSz nw t9 ≠ 0)) i)), (8, .int (nI (k))), (9, .int (nI ((zns (fun t9 => zcn (zKd nw t9) (nI k) (zSz nw t9)) u) + (zcn (zKd nw u) (nI k) (zSz nw u))))), (10, .int (nI (u + 1)))]) rfl
                      have e9_9 : ((zns (fun t9 => zcn (zKd nw t9) (nI k) (zSz nw t9)) u) + (zcn (zKd nw u) (nI k) (zSz nw u))) = (zns (fun t9 => zcn (zKd nw t9) (nI k) (zSz nw t9)) (u + 1)) := by first | exact zns_a (by show zcn (zKd nw u) (nI k) (zSz nw u) = 0; rw [zRn_0 (v := nw) (t := u) (by omega)]; rfl) | rfl
                      have e9_10 : (u + 1) = ((u + 1)) := by omega
                      exact ih56 (u + 1) (by omega) (by omega) ls (by rw [← e9_9, ← e9_10]; exact hl9)
              exact L56 ((6 - (0)) + 1) (0) (Nat.lt_succ_self _) (by omega) ls (lv_sub hl [2, 3, 4, 5, 6, 7, 8, 9, 10, 1, 0] rfl)
        exact L44 ((6 - (1)) + 1) (1) (Nat.lt_succ_self _) (by omega) (by omega) ls (lv_sub hl [1, 2, 3, 4, 5, 6, 7, 8, 0] rfl)
      · refine lv_iload hx hb dL_box_13 (lv_at hl 7 rfl) ?_
        refine lv_aload_n hx hb dL_box_15 rfl (lv_at hl 1 rfl) ?_
        refine lv_iload hx hb dL_box_16 (lv_at hl 8 rfl) ?_
        refine z_lald (j := i) hx hb hG hr1 ⟨by omega, by omega⟩ dL_box_18 ?_
        refine z_topl (y := lN (zRn nw i)) (congrArg lN (e1r _ (by omega))) ?_
        refine lv_lconst (v := lN 0) hx hb dL_box_19 rfl ?_
        refine W.lcmp hx hb dL_box_20 ?_
        refine z_lle (tgt := 31) hx hb dL_box_21 (by decide) ⟨by have h9 := zRn_62 hok (t := i) (by omega); omega, by omega⟩ (fun c_22 => ?_) (fun c_22 => ?_)
        · refine lv_iconst (v := nI (0)) hx hb dL_box_31 (by decide) ?_
          refine lv_ior hx hb dL_box_32 ?_
          refine lv_istore (lv' := [(7, .int ((zset (fun t9 => decide (zSz nw t9 ≠ 0)) i) ||| nI (0))), (0, .ref (ad 287)), (1, .ref (ra)), (2, .ref (ba)), (3, .ref (ga)), (4, .ref (ea)), (5, .ref (ca)), (6, .int (nI (zNl nw))), (8, .int (nI (i)))]) hx hb dL_box_33 hl (by decide) rfl (fun ls hl => ?_)
          refine lv_iinc (v := nI (i + 1)) (lv' := [(8, .int (nI (i + 1))), (7, .int ((zset (fun t9 => decide (zSz nw t9 ≠ 0)) i) ||| nI (0))), (0, .ref (ad 287)), (1, .ref (ra)), (2, .ref (ba)), (3, .ref (ga)), (4, .ref (ea)), (5, .ref (ca)), (6, .int (nI (zNl nw)))]) hx hb dL_box_35 hl (k := 8) rfl (z_inc1 _) (by decide) rfl (fun ls hl => ?_)
          refine lv_goto (tgt := 6) hx hb dL_box_38 (by decide) ?_
          have hl9 := lv_sub hl [2, 3, 4, 5, 6, 7, 8, 1, 0] (l' := [(0, .ref (ad 287)), (1, .ref (ra)), (2, .ref (ba)), (3, .ref (ga)), (4, .ref (ea)), (5, .ref (ca)), (6, .int (nI (zNl nw))), (7, .int ((zset (fun t9 => decide (zSz nw t9 ≠ 0)) i) ||| nI (0))), (8, .int (nI (i + 1)))]) rfl
          have e9_7 : ((zset (fun t9 => decide (zSz nw t9 ≠ 0)) i) ||| nI (0)) = (zset (fun t9 => decide (zSz nw t9 ≠ 0)) (i + 1)) := by first | exact zset_t (decide_eq_true (zRn_1 (by omega))) | exact zset_o (decide_eq_false (fun q => q (zRn_0 (by omega))))
          have e9_8 : (i + 1) = ((i + 1)) := by omega
          exact ih6 (i + 1) (by omega) (by omega) ls (by rw [← e9_7, ← e9_8]; exact hl9)
        · refine lv_iconst (v := nI (1)) hx hb dL_box_24 (by decide) ?_
          refine lv_iload hx hb dL_box_25 (lv_at hl 8 rfl) ?_
          refine lv_ishl hx hb dL_box_27 ?_
          refine lv_goto (tgt := 32) hx hb dL_box_28 (by decide) ?_
          refine lv_ior hx hb dL_box_32 ?_
          refine lv_istore (lv' := [(7, .int ((zset (fun t9 => decide (zSz nw t9 ≠ 0)) i) ||| (nI (1) <<< (nI (i) &&& 31)))), (0, .ref (ad 287)), (1, .ref (ra)), (2, .ref (ba)), (3, .ref (ga)), (4, .ref (ea)), (5, .ref (ca)), (6, .int (nI (zNl nw))), (8, .int (nI (i)))]) hx hb dL_box_33 hl (by decide) rfl (fun ls hl => ?_)
          refine lv_iinc (v := nI (i + 1)) (lv' := [(8, .int (nI (i + 1))), (7, .int ((zset (fun t9 => decide (zSz nw t9 ≠ 0)) i) ||| (nI (1) <<< (nI (i) &&& 31)))), (0, .ref (ad 287)), (1, .ref (ra)), (2, .ref (ba)), (3, .ref (ga)), (4, .ref (ea)), (5, .ref (ca)), (6, .int (nI (zNl nw)))]) hx hb dL_box_35 hl (k := 8) rfl (z_inc1 _) (by decide) rfl (fun ls hl => ?_)
          refine lv_goto (tgt := 6) hx hb dL_box_38 (by decide) ?_
          have hl9 := lv_sub hl [2, 3, 4, 5, 6, 7, 8, 1, 0] (l' := [(0, .ref (ad 287)), (1, .ref (ra)), (2, .ref (ba)), (3, .ref (ga)), (4, .ref (ea)), (5, .ref (ca)), (6, .int (nI (zNl nw))), (7, .int ((zset (fun t9 => decide (zSz nw t9 ≠ 0)) i) ||| (nI (1) <<< (nI (i) &&& 31)))), (8, .int (nI (i + 1)))]) rfl
          have e9_7 : ((zset (fun t9 => decide (zSz nw t9 ≠ 0)) i) ||| (nI (1) <<< (nI (i) &&& 31))) = (zset (fun t9 => decide (zSz nw t9 ≠ 0)) (i + 1)) := by first | exact zset_t (decide_eq_true (zRn_1 (by omega))) | exact zset_o (decide_eq_false (fun q => q (zRn_0 (by omega))))
          have e9_8 : (i + 1) = ((i + 1)) := by omega
          exact ih6 (i + 1) (by omega) (by omega) ls (by rw [← e9_7, ← e9_8]; exact hl9)
  exact L6 ((6 - (0)) + 1) (0) (Nat.lt_succ_self _) (by omega) ls (lv_sub hl [2, 3, 4, 5, 6, 7, 8, 1, 0] rfl)

set_option maxHeartbeats 4000000 in
set_option maxRecDepth 100000 in
theorem c_L_two (E : zEnv) {ad : Nat → Nat} {nw sv : zS} {an : Bool} {hs : Nat → zS} {ct ln : Nat} {cd : Nat → Int32} {ra ba ga ea ca : Nat} {rr : Nat → Nat} {bb gg : Nat → Int32} {ee : Nat → Nat} {cc : Nat → Int32} {a9 b9 lv : Nat} (hok : zOk nw) (hrel : zRel nw rr bb gg ee cc) (ha9 : a9 < 6) (hb9 : b9 < 6) (hlv : lv ≤ 2) : zRO E yL_two wsL_two 6 140 [.ref (ad 287), .ref (ra), .int (nI (a9)), .int (nI (b9)), .int (nI (lv))] (fun H => zCW E ad nw sv an hs ct ln cd H ∧ zRows E ra ba ga ea ca rr bb gg ee cc H) (some (.int (nI 1))) := by
  refine zRO.ofZ (maxL := 9) rfl (Nat.le_of_ble_eq_true rfl) (fun p e s m args below meth c H Q hF hP hret ls hl => ?_)
  have S : CallFix p m c cL_two 9 s args wsL_two RL := hF.1
  have hG := hF.2
  obtain ⟨hx, hb, hml, hown, hts⟩ := id S
  obtain ⟨hCW, hRW⟩ := id hP
  obtain ⟨hr1, hr2, hr3, hr4, hr5⟩ := id hRW
  obtain ⟨f5, h5⟩ := zCW_recv hCW
  obtain ⟨e1r, e2r, e3r, e4r, e5r⟩ := id hrel
  have hml := hok.2.2.2.1
  have hnl := hok.2.2.2.2.1
  have hl : lv_has ls 9 [(0, .ref (ad 287)), (1, .ref (ra)), (2, .int (nI (a9))), (3, .int (nI (b9))), (4, .int (nI (lv)))] := hl
  refine lv_aload_n hx hb dL_two_0 rfl (lv_at hl 1 rfl) ?_
  refine lv_iload_n hx hb dL_two_1 rfl (lv_at hl 2 rfl) ?_
  refine z_lald (j := a9) hx hb hG hr1 ⟨by omega, by omega⟩ dL_two_2 ?_
  refine z_topl (y := lN (zRn nw a9)) (congrArg lN (e1r _ (by omega))) ?_
  refine lv_lconst (v := lN 0) hx hb dL_two_3 rfl ?_
  refine W.lcmp hx hb dL_two_4 ?_
  refine z_leq (tgt := 16) hx hb dL_two_5 (by decide) ⟨by have h9 := zRn_62 hok (t := a9) (by omega); omega, by omega⟩ (fun c_1 => ?_) (fun c_1 => ?_)
  · have hz9 : zSz nw a9 = 0 ∨ zSz nw b9 = 0 := Or.inl (zRn_0 c_1)
    rcases (show (zSz nw a9 = 0 ∧ zSz nw b9 = 0) ∨ (zSz nw a9 = 0 ∧ zSz nw b9 ≠ 0) ∨ (zSz nw a9 ≠ 0 ∧ zSz nw b9 = 0) by omega) with q1 | q1 | q1
    · refine lv_aload_n hx hb dL_two_16 rfl (lv_at hl 0 rfl) ?_
      refine lv_iload_n hx hb dL_two_17 rfl (lv_at hl 2 rfl) ?_
      refine lv_iload_n hx hb dL_two_18 rfl (lv_at hl 3 rfl) ?_
      refine lv_iload hx hb dL_two_19 (lv_at hl 4 rfl) ?_
      refine z_roV (As := [.int (nI (a9)), .int (nI (b9)), .int (nI (lv))]) (rest := []) (q := (RX5, TX5, 7)) S hG (c_X5_alike_0 E (y := nI b9) (w := nI lv) hok (zfnd_no ha9 q1.1) (zfnd_no hb9 q1.2)) 3 gL_two_X5_alike rfl kX5_alike ⟨Nat.le_of_ble_eq_true rfl, Nat.le_of_ble_eq_true rfl⟩ ⟨Nat.zero_le _, Nat.zero_le _⟩ (hCW) rfl h5 rfl hl.1 rfl rfl (Nat.le_of_ble_eq_true rfl) dL_two_21 ?_
      refine lv_iconst (v := (-1)) hx hb dL_two_24 (by decide) ?_
      refine lv_icmp_ne (tgt := 42) hx hb dL_two_25 (by decide) (fun c_2 => by exfalso; exact c_2 rfl) (fun c_2 => ?_)
      refine lv_aload_n hx hb dL_two_28 rfl (lv_at hl 0 rfl) ?_
      refine lv_iload_n hx hb dL_two_29 rfl (lv_at hl 2 rfl) ?_
      refine lv_iload_n hx hb dL_two_30 rfl (lv_at hl 3 rfl) ?_
      refine z_roV (As := [.int (nI (a9)), .int (nI (b9))]) (rest := []) (q := (RX5, TX5, 7)) S hG (c_X5_distance_0 E (y := nI b9) hok (zfnd_no ha9 q1.1) (zfnd_no hb9 q1.2)) 2 gL_two_X5_distance rfl kX5_distance ⟨Nat.le_of_ble_eq_true rfl, Nat.le_of_ble_eq_true rfl⟩ ⟨Nat.zero_le _, Nat.zero_le _⟩ (hCW) rfl h5 rfl hl.1 rfl rfl (Nat.le_of_ble_eq_true rfl) dL_two_31 ?_
      refine lv_iconst (v := (-1)) hx hb dL_two_34 (by decide) ?_
      refine lv_icmp_ne (tgt := 42) hx hb dL_two_35 (by decide) (fun c_3 => by exfalso; exact c_3 rfl) (fun c_3 => ?_)
      refine lv_iconst (v := nI (1)) hx hb dL_two_38 (by decide) ?_
      refine lv_goto (tgt := 43) hx hb dL_two_39 (by decide) ?_
      exact hret _ _ _ dL_two_43 (by first | exact Or.inl rfl | exact Or.inr rfl) (rfl)
    · refine lv_aload_n hx hb dL_two_16 rfl (lv_at hl 0 rfl) ?_
      refine lv_iload_n hx hb dL_two_17 rfl (lv_at hl 2 rfl) ?_
      refine lv_iload_n hx hb dL_two_18 rfl (lv_at hl 3 rfl) ?_
      refine lv_iload hx hb dL_two_19 (lv_at hl 4 rfl) ?_
      refine z_roV (As := [.int (nI (a9)), .int (nI (b9)), .int (nI (lv))]) (rest := []) (q := (RX5, TX5, 7)) S hG (c_X5_alike_0s E (r2 := b9) (w := nI lv) hok (zfnd_no ha9 q1.1) hb9 q1.2) 3 gL_two_X5_alike rfl kX5_alike ⟨Nat.le_of_ble_eq_true rfl, Nat.le_of_ble_eq_true rfl⟩ ⟨Nat.zero_le _, Nat.zero_le _⟩ (hCW) rfl h5 rfl hl.1 rfl rfl (Nat.le_of_ble_eq_true rfl) dL_two_21 ?_
      refine lv_iconst (v := (-1)) hx hb dL_two_24 (by decide) ?_
      refine lv_icmp_ne (tgt := 42) hx hb dL_two_25 (by decide) (fun c_4 => by exfalso; exact c_4 rfl) (fun c_4 => ?_)
      refine lv_aload_n hx hb dL_two_28 rfl (lv_at hl 0 rfl) ?_
      refine lv_iload_n hx hb dL_two_29 rfl (lv_at hl 2 rfl) ?_
      refine lv_iload_n hx hb dL_two_30 rfl (lv_at hl 3 rfl) ?_
      refine z_roV (As := [.int (nI (a9)), .int (nI (b9))]) (rest := []) (q := (RX5, TX5, 7)) S hG (c_X5_distance_0s E (r2 := b9) hok (zfnd_no ha9 q1.1) hb9 q1.2) 2 gL_two_X5_distance rfl kX5_distance ⟨Nat.le_of_ble_eq_true rfl, Nat.le_of_ble_eq_true rfl⟩ ⟨Nat.zero_le _, Nat.zero_le _⟩ (hCW) rfl h5 rfl hl.1 rfl rfl (Nat.le_of_ble_eq_true rfl) dL_two_31 ?_
      refine lv_iconst (v := (-1)) hx hb dL_two_34 (by decide) ?_
      refine lv_icmp_ne (tgt := 42) hx hb dL_two_35 (by decide) (fun c_5 => by exfalso; exact c_5 rfl) (fun c_5 => ?_)
      refine lv_iconst (v := nI (1)) hx hb dL_two_38 (by decide) ?_
      refine lv_goto (tgt := 43) hx hb dL_two_39 (by decide) ?_
      exact hret _ _ _ dL_two_43 (by first | exact Or.inl rfl | exact Or.inr rfl) (rfl)
    · refine lv_aload_n hx hb dL_two_16 rfl (lv_at hl 0 rfl) ?_
      refine lv_iload_n hx hb dL_two_17 rfl (lv_at hl 2 rfl) ?_
      refine lv_iload_n hx hb dL_two_18 rfl (lv_at hl 3 rfl) ?_
      refine lv_iload hx hb dL_two_19 (lv_at hl 4 rfl) ?_
      refine z_roV (As := [.int (nI (a9)), .int (nI (b9)), .int (nI (lv))]) (rest := []) (q := (RX5, TX5, 7)) S hG (c_X5_alike_1 E (r := a9) (y := nI b9) (w := nI lv) hok ha9 q1.1 (zfnd_no hb9 q1.2)) 3 gL_two_X5_alike rfl kX5_alike ⟨Nat.le_of_ble_eq_true rfl, Nat.le_of_ble_eq_true rfl⟩ ⟨Nat.zero_le _, Nat.zero_le _⟩ (hCW) rfl h5 rfl hl.1 rfl rfl (Nat.le_of_ble_eq_true rfl) dL_two_21 ?_
      refine lv_iconst (v := (-1)) hx hb dL_two_24 (by decide) ?_
      refine lv_icmp_ne (tgt := 42) hx hb dL_two_25 (by decide) (fun c_6 => by exfalso; exact c_6 rfl) (fun c_6 => ?_)
      refine lv_aload_n hx hb dL_two_28 rfl (lv_at hl 0 rfl) ?_
      refine lv_iload_n hx hb dL_two_29 rfl (lv_at hl 2 rfl) ?_
      refine lv_iload_n hx hb dL_two_30 rfl (lv_at hl 3 rfl) ?_
      refine z_roV (As := [.int (nI (a9)), .int (nI (b9))]) (rest := []) (q := (RX5, TX5, 7)) S hG (c_X5_distance_1 E (r := a9) (y := nI b9) hok ha9 q1.1 (zfnd_no hb9 q1.2)) 2 gL_two_X5_distance rfl kX5_distance ⟨Nat.le_of_ble_eq_true rfl, Nat.le_of_ble_eq_true rfl⟩ ⟨Nat.zero_le _, Nat.zero_le _⟩ (hCW) rfl h5 rfl hl.1 rfl rfl (Nat.le_of_ble_eq_true rfl) dL_two_31 ?_
      refine lv_iconst (v := (-1)) hx hb dL_two_34 (by decide) ?_
      refine lv_icmp_ne (tgt := 42) hx hb dL_two_35 (by decide) (fun c_7 => by exfalso; exact c_7 rfl) (fun c_7 => ?_)
      refine lv_iconst (v := nI (1)) hx hb dL_two_38 (by decide) ?_
      refine lv_goto (tgt := 43) hx hb dL_two_39 (by decide) ?_
      exact hret _ _ _ dL_two_43 (by first | exact Or.inl rfl | exact Or.inr rfl) (rfl)
  · refine lv_aload_n hx hb dL_two_8 rfl (lv_at hl 1 rfl) ?_
    refine lv_iload_n hx hb dL_two_9 rfl (lv_at hl 3 rfl) ?_
    refine z_lald (j := b9) hx hb hG hr1 ⟨by omega, by omega⟩ dL_two_10 ?_
    refine z_topl (y := lN (zRn nw b9)) (congrArg lN (e1r _ (by omega))) ?_
    refine lv_lconst (v := lN 0) hx hb dL_two_11 rfl ?_
    refine W.lcmp hx hb dL_two_12 ?_
    refine z_lne (tgt := 44) hx hb dL_two_13 (by decide) ⟨by have h9 := zRn_62 hok (t := b9) (by omega); omega, by omega⟩ (fun c_8 => ?_) (fun c_8 => ?_)
    · have ha0 : zSz nw a9 ≠ 0 := zRn_1 (by assumption)
      have hb0 : zSz nw b9 ≠ 0 := zRn_1 c_8
      refine lv_aload_n hx hb dL_two_44 rfl (lv_at hl 1 rfl) ?_
      refine lv_iload_n hx hb dL_two_45 rfl (lv_at hl 2 rfl) ?_
      refine z_lald (j := a9) hx hb hG hr1 ⟨by omega, by omega⟩ dL_two_46 ?_
      refine z_topl (y := lN (zLn (zKd nw a9) (zSz nw a9))) (congrArg lN ((e1r _ ha9).trans (zRn_e ha0))) ?_
      refine z_roSX (As := [.long (lN (zLn (zKd nw a9) (zSz nw a9)))]) (rest := []) S hG (c_L_slots E (hok.s4 ha9 ha0) (hok.k4 ha9)) 1 gL_two_L_slots rfl kL_slots.2 ⟨Nat.le_of_ble_eq_true rfl, Nat.le_of_ble_eq_true rfl⟩ ⟨Nat.zero_le _, Nat.zero_le _⟩ (trivial) rfl hl.1 rfl rfl (Nat.le_of_ble_eq_true rfl) dL_two_47 ?_
      refine lv_aload_n hx hb dL_two_50 rfl (lv_at hl 1 rfl) ?_
      refine lv_iload_n hx hb dL_two_51 rfl (lv_at hl 3 rfl) ?_
      refine z_lald (j := b9) hx hb hG hr1 ⟨by omega, by omega⟩ dL_two_52 ?_
      refine z_topl (y := lN (zLn (zKd nw b9) (zSz nw b9))) (congrArg lN ((e1r _ hb9).trans (zRn_e hb0))) ?_
      refine z_roSX (As := [.long (lN (zLn (zKd nw b9) (zSz nw b9)))]) (rest := [.int (nI (zSz nw a9))]) S hG (c_L_slots E (hok.s4 hb9 hb0) (hok.k4 hb9)) 1 gL_two_L_slots rfl kL_slots.2 ⟨Nat.le_of_ble_eq_true rfl, Nat.le_of_ble_eq_true rfl⟩ ⟨Nat.zero_le _, Nat.zero_le _⟩ (trivial) rfl hl.1 rfl rfl (Nat.le_of_ble_eq_true rfl) dL_two_53 ?_
      refine z_cne (tgt := 63) hx hb dL_two_56 (by decide) ⟨by have h9 := (hok.s4 ha9 ha0).b; omega, by have h9 := (hok.s4 hb9 hb0).b; omega⟩ (fun c_9 => ?_) (fun c_9 => ?_)
      · refine lv_iconst (v := nI (0)) hx hb dL_two_63 (by decide) ?_
        refine lv_istore (lv' := [(5, .int (nI (0))), (0, .ref (ad 287)), (1, .ref (ra)), (2, .int (nI (a9))), (3, .int (nI (b9))), (4, .int (nI (lv)))]) hx hb dL_two_64 hl (by decide) rfl (fun ls hl => ?_)
        refine lv_bipush (v := nI (99)) hx hb dL_two_66 (by decide) ?_
        refine lv_istore (lv' := [(6, .int (nI (99))), (5, .int (nI (0))), (0, .ref (ad 287)), (1, .ref (ra)), (2, .int (nI (a9))), (3, .int (nI (b9))), (4, .int (nI (lv)))]) hx hb dL_two_68 hl (by decide) rfl (fun ls hl => ?_)
        refine lv_iconst (v := nI (0)) hx hb dL_two_70 (by decide) ?_
        refine lv_istore (lv' := [(7, .int (nI (0))), (6, .int (nI (99))), (5, .int (nI (0))), (0, .ref (ad 287)), (1, .ref (ra)), (2, .int (nI (a9))), (3, .int (nI (b9))), (4, .int (nI (lv)))]) hx hb dL_two_71 hl (by decide) rfl (fun ls hl => ?_)
        have L73 : ∀ (dd : Nat) (i : Nat), znc 2 (zSz nw a9) - i < dd → (i ≤ znc 2 (zSz nw a9)) → ∀ (ls : Array Slot), lv_has ls 9 [(0, .ref (ad 287)), (1, .ref (ra)), (2, .int (nI (a9))), (3, .int (nI (b9))), (4, .int (nI (lv))), (5, .int (nI (0))), (6, .int (nI (zmn (fun i9 => zdf (zSz nw a9) (zKd nw a9) (zchg 2 i9 (zSz nw a9)) (zKd nw b9)) 99 i))), (7, .int (nI (i)))] → W p (zl E) e (zRm 6 140) s m args below meth c H [] 0 0 Q (F0 m 73 ls []) := by
          intro dd
          induction dd with
          | zero => intro i hdd; exact absurd hdd (Nat.not_lt_zero _)
          | succ dd ih73 =>
            intro i hdd73 hi ls hl
            refine lv_iload hx hb dL_two_73 (lv_at hl 7 rfl) ?_
            refine lv_aload_n hx hb dL_two_75 rfl (lv_at hl 1 rfl) ?_
            refine lv_iload_n hx hb dL_two_76 rfl (lv_at hl 2 rfl) ?_
            refine z_lald (j := a9) hx hb hG hr1 ⟨by omega, by omega⟩ dL_two_77 ?_
            refine z_topl (y := lN (zLn (zKd nw a9) (zSz nw a9))) (congrArg lN ((e1r _ ha9).trans (zRn_e ha0))) ?_
            refine lv_iconst (v := nI (2)) hx hb dL_two_78 (by decide) ?_
            refine z_roSX (As := [.long (lN (zLn (zKd nw a9) (zSz nw a9))), .int (nI (2))]) (rest := [.int (nI (i))]) S hG (c_L_changes E (lv := 2) (hok.s4 ha9 ha0) (hok.k4 ha9) (by decide)) 2 gL_two_L_changes rfl kL_changes.2 ⟨Nat.le_of_ble_eq_true rfl, Nat.le_of_ble_eq_true rfl⟩ ⟨Nat.zero_le _, Nat.zero_le _⟩ (trivial) rfl hl.1 rfl rfl (Nat.le_of_ble_eq_true rfl) dL_two_79 ?_
            refine z_cge (tgt := 129) hx hb dL_two_82 (by decide) ⟨by have h9 := znc_le (lv := 2) (hok.s4 ha9 ha0).b.2.1; omega, by have h9 := znc_le (lv := 2) (hok.s4 ha9 ha0).b.2.1; omega⟩ (fun c_10 => ?_) (fun c_10 => ?_)
            · refine lv_aload_n hx hb dL_two_129 rfl (lv_at hl 0 rfl) ?_
              refine lv_iload_n hx hb dL_two_130 rfl (lv_at hl 2 rfl) ?_
              refine lv_iload_n hx hb dL_two_131 rfl (lv_at hl 3 rfl) ?_
              refine lv_iload hx hb dL_two_132 (lv_at hl 4 rfl) ?_
              refine z_roV (As := [.int (nI (a9)), .int (nI (b9)), .int (nI (lv))]) (rest := []) (q := (RX5, TX5, 7)) S hG (c_X5_alike_3 E (r := a9) (r2 := b9) (lv := lv) hok ha9 ha0 hb9 hb0 hlv) 3 gL_two_X5_alike rfl kX5_alike ⟨Nat.le_of_ble_eq_true rfl, Nat.le_of_ble_eq_true rfl⟩ ⟨Nat.zero_le _, Nat.zero_le _⟩ (hCW) rfl h5 rfl hl.1 rfl rfl (Nat.le_of_ble_eq_true rfl) dL_two_134 ?_
              refine lv_iload hx hb dL_two_137 (lv_at hl 5 rfl) ?_
              refine z_feq (tgt := 166) hx hb dL_two_139 (by decide) (by omega) (fun c_11 => ?_) (fun c_11 => by exfalso; omega)
              refine lv_iconst (v := nI (0)) hx hb dL_two_166 (by decide) ?_
              refine lv_icmp_ne (tgt := 195) hx hb dL_two_167 (by decide) (fun c_12 => by exfalso; first | exact c_12 (by rw [(zAL (hok.s4 ha9 ha0) (hok.s4 hb9 hb0) (hok.k4 ha9) (hok.k4 hb9) hlv).mp (by assumption)]; rfl) | exact c_12 (by rw [zAL_f (hok.s4 ha9 ha0) (hok.s4 hb9 hb0) (hok.k4 ha9) (hok.k4 hb9) hlv (by assumption)]; rfl) | exact c_12 (by unfold zal; rw [decide_eq_false (by assumption)]; rfl)) (fun c_12 => ?_)
              refine lv_aload_n hx hb dL_two_170 rfl (lv_at hl 0 rfl) ?_
              refine lv_iload_n hx hb dL_two_171 rfl (lv_at hl 2 rfl) ?_
              refine lv_iload_n hx hb dL_two_172 rfl (lv_at hl 3 rfl) ?_
              refine z_roV (As := [.int (nI (a9)), .int (nI (b9))]) (rest := []) (q := (RX5, TX5, 7)) S hG (c_X5_distance_2 E (r := a9) (r2 := b9) hok ha9 ha0 hb9 hb0 (by assumption)) 2 gL_two_X5_distance rfl kX5_distance ⟨Nat.le_of_ble_eq_true rfl, Nat.le_of_ble_eq_true rfl⟩ ⟨Nat.zero_le _, Nat.zero_le _⟩ (hCW) rfl h5 rfl hl.1 rfl rfl (Nat.le_of_ble_eq_true rfl) dL_two_173 ?_
              refine lv_iload hx hb dL_two_176 (lv_at hl 5 rfl) ?_
              refine z_feq (tgt := 186) hx hb dL_two_178 (by decide) (by omega) (fun c_13 => ?_) (fun c_13 => by exfalso; omega)
              refine lv_bipush (v := (-6)) hx hb dL_two_186 (by decide) ?_
              refine lv_icmp_ne (tgt := 195) hx hb dL_two_188 (by decide) (fun c_14 => by exfalso; exact c_14 rfl) (fun c_14 => ?_)
              refine lv_iconst (v := nI (1)) hx hb dL_two_191 (by decide) ?_
              refine lv_goto (tgt := 196) hx hb dL_two_192 (by decide) ?_
              exact hret _ _ _ dL_two_196 (by first | exact Or.inl rfl | exact Or.inr rfl) (rfl)
            · refine lv_iload hx hb dL_two_85 (lv_at hl 5 rfl) ?_
              refine z_feq (tgt := 129) hx hb dL_two_87 (by decide) (by omega) (fun c_15 => ?_) (fun c_15 => by exfalso; omega)
              refine lv_aload_n hx hb dL_two_129 rfl (lv_at hl 0 rfl) ?_
              refine lv_iload_n hx hb dL_two_130 rfl (lv_at hl 2 rfl) ?_
              refine lv_iload_n hx hb dL_two_131 rfl (lv_at hl 3 rfl) ?_
              refine lv_iload hx hb dL_two_132 (lv_at hl 4 rfl) ?_
              refine z_roV (As := [.int (nI (a9)), .int (nI (b9)), .int (nI (lv))]) (rest := []) (q := (RX5, TX5, 7)) S hG (c_X5_alike_3 E (r := a9) (r2 := b9) (lv := lv) hok ha9 ha0 hb9 hb0 hlv) 3 gL_two_X5_alike rfl kX5_alike ⟨Nat.le_of_ble_eq_true rfl, Nat.le_of_ble_eq_true rfl⟩ ⟨Nat.zero_le _, Nat.zero_le _⟩ (hCW) rfl h5 rfl hl.1 rfl rfl (Nat.le_of_ble_eq_true rfl) dL_two_134 ?_
              refine lv_iload hx hb dL_two_137 (lv_at hl 5 rfl) ?_
              refine z_feq (tgt := 166) hx hb dL_two_139 (by decide) (by omega) (fun c_16 => ?_) (fun c_16 => by exfalso; omega)
              refine lv_iconst (v := nI (0)) hx hb dL_two_166 (by decide) ?_
              refine lv_icmp_ne (tgt := 195) hx hb dL_two_167 (by decide) (fun c_17 => by exfalso; first | exact c_17 (by rw [(zAL (hok.s4 ha9 ha0) (hok.s4 hb9 hb0) (hok.k4 ha9) (hok.k4 hb9) hlv).mp (by assumption)]; rfl) | exact c_17 (by rw [zAL_f (hok.s4 ha9 ha0) (hok.s4 hb9 hb0) (hok.k4 ha9) (hok.k4 hb9) hlv (by assumption)]; rfl) | exact c_17 (by unfold zal; rw [decide_eq_false (by assumption)]; rfl)) (fun c_17 => ?_)
              refine lv_aload_n hx hb dL_two_170 rfl (lv_at hl 0 rfl) ?_
              refine lv_iload_n hx hb dL_two_171 rfl (lv_at hl 2 rfl) ?_
              refine lv_iload_n hx hb dL_two_172 rfl (lv_at hl 3 rfl) ?_
              refine z_roV (As := [.int (nI (a9)), .int (nI (b9))]) (rest := []) (q := (RX5, TX5, 7)) S hG (c_X5_distance_2 E (r := a9) (r2 := b9) hok ha9 ha0 hb9 hb0 (by assumption)) 2 gL_two_X5_distance rfl kX5_distance ⟨Nat.le_of_ble_eq_true rfl, Nat.le_of_ble_eq_true rfl⟩ ⟨Nat.zero_le _, Nat.zero_le _⟩ (hCW) rfl h5 rfl hl.1 rfl rfl (Nat.le_of_ble_eq_true rfl) dL_two_173 ?_
              refine lv_iload hx hb dL_two_176 (lv_at hl 5 rfl) ?_
              refine z_feq (tgt := 186) hx hb dL_two_178 (by decide) (by omega) (fun c_18 => ?_) (fun c_18 => by exfalso; omega)
              refine lv_bipush (v := (-6)) hx hb dL_two_186 (by decide) ?_
              refine lv_icmp_ne (tgt := 195) hx hb dL_two_188 (by decide) (fun c_19 => by exfalso; exact c_19 rfl) (fun c_19 => ?_)
              refine lv_iconst (v := nI (1)) hx hb dL_two_191 (by decide) ?_
              refine lv_goto (tgt := 196) hx hb dL_two_192 (by decide) ?_
              exact hret _ _ _ dL_two_196 (by first | exact Or.inl rfl | exact Or.inr rfl) (rfl)
        exact L73 ((znc 2 (zSz nw a9) - (0)) + 1) (0) (Nat.lt_succ_self _) (Nat.zero_le _) ls (lv_sub hl [3, 4, 5, 6, 7, 2, 1, 0] rfl)
      · have he9 : zSz nw a9 = zSz nw b9 := c_9
        refine lv_iconst (v := nI (1)) hx hb dL_two_59 (by decide) ?_
        refine lv_goto (tgt := 64) hx hb dL_two_60 (by decide) ?_
        refine lv_istore (lv' := [(5, .int (nI (1))), (0, .ref (ad 287)), (1, .ref (ra)), (2, .int (nI (a9))), (3, .int (nI (b9))), (4, .int (nI (lv)))]) hx hb dL_two_64 hl (by decide) rfl (fun ls hl => ?_)
        refine lv_bipush (v := nI (99)) hx hb dL_two_66 (by decide) ?_
        refine lv_istore (lv' := [(6, .int (nI (99))), (5, .int (nI (1))), (0, .ref (ad 287)), (1, .ref (ra)), (2, .int (nI (a9))), (3, .int (nI (b9))), (4, .int (nI (lv)))]) hx hb dL_two_68 hl (by decide) rfl (fun ls hl => ?_)
        refine lv_iconst (v := nI (0)) hx hb dL_two_70 (by decide) ?_
        refine lv_istore (lv' := [(7, .int (nI (0))), (6, .int (nI (99))), (5, .int (nI (1))), (0, .ref (ad 287)), (1, .ref (ra)), (2, .int (nI (a9))), (3, .int (nI (b9))), (4, .int (nI (lv)))]) hx hb dL_two_71 hl (by decide) rfl (fun ls hl => ?_)
        have L73 : ∀ (dd : Nat) (i : Nat), znc 2 (zSz nw a9) - i < dd → (i ≤ znc 2 (zSz nw a9)) → ∀ (ls : Array Slot), lv_has ls 9 [(0, .ref (ad 287)), (1, .ref (ra)), (2, .int (nI (a9))), (3, .int (nI (b9))), (4, .int (nI (lv))), (5, .int (nI (1))), (6, .int (nI (zmn (fun i9 => zdf (zSz nw a9) (zKd nw a9) (zchg 2 i9 (zSz nw a9)) (zKd nw b9)) 99 i))), (7, .int (nI (i)))] → W p (zl E) e (zRm 6 140) s m args below meth c H [] 0 0 Q (F0 m 73 ls []) := by
          intro dd
          induction dd with
          | zero => intro i hdd; exact absurd hdd (Nat.not_lt_zero _)
          | succ dd ih73 =>
            intro i hdd73 hi ls hl
            refine lv_iload hx hb dL_two_73 (lv_at hl 7 rfl) ?_
            refine lv_aload_n hx hb dL_two_75 rfl (lv_at hl 1 rfl) ?_
            refine lv_iload_n hx hb dL_two_76 rfl (lv_at hl 2 rfl) ?_
            refine z_lald (j := a9) hx hb hG hr1 ⟨by omega, by omega⟩ dL_two_77 ?_
            refine z_topl (y := lN (zLn (zKd nw a9) (zSz nw a9))) (congrArg lN ((e1r _ ha9).trans (zRn_e ha0))) ?_
            refine lv_iconst (v := nI (2)) hx hb dL_two_78 (by decide) ?_
            refine z_roSX (As := [.long (lN (zLn (zKd nw a9) (zSz nw a9))), .int (nI (2))]) (rest := [.int (nI (i))]) S hG (c_L_changes E (lv := 2) (hok.s4 ha9 ha0) (hok.k4 ha9) (by decide)) 2 gL_two_L_changes rfl kL_changes.2 ⟨Nat.le_of_ble_eq_true rfl, Nat.le_of_ble_eq_true rfl⟩ ⟨Nat.zero_le _, Nat.zero_le _⟩ (trivial) rfl hl.1 rfl rfl (Nat.le_of_ble_eq_true rfl) dL_two_79 ?_
            refine z_cge (tgt := 129) hx hb dL_two_82 (by decide) ⟨by have h9 := znc_le (lv := 2) (hok.s4 ha9 ha0).b.2.1; omega, by have h9 := znc_le (lv := 2) (hok.s4 ha9 ha0).b.2.1; omega⟩ (fun c_20 => ?_) (fun c_20 => ?_)
            · refine lv_aload_n hx hb dL_two_129 rfl (lv_at hl 0 rfl) ?_
              refine lv_iload_n hx hb dL_two_130 rfl (lv_at hl 2 rfl) ?_
              refine lv_iload_n hx hb dL_two_131 rfl (lv_at hl 3 rfl) ?_
              refine lv_iload hx hb dL_two_132 (lv_at hl 4 rfl) ?_
              refine z_roV (As := [.int (nI (a9)), .int (nI (b9)), .int (nI (lv))]) (rest := []) (q := (RX5, TX5, 7)) S hG (c_X5_alike_3 E (r := a9) (r2 := b9) (lv := lv) hok ha9 ha0 hb9 hb0 hlv) 3 gL_two_X5_alike rfl kX5_alike ⟨Nat.le_of_ble_eq_true rfl, Nat.le_of_ble_eq_true rfl⟩ ⟨Nat.zero_le _, Nat.zero_le _⟩ (hCW) rfl h5 rfl hl.1 rfl rfl (Nat.le_of_ble_eq_true rfl) dL_two_134 ?_
              refine lv_iload hx hb dL_two_137 (lv_at hl 5 rfl) ?_
              refine z_feq (tgt := 166) hx hb dL_two_139 (by decide) (by omega) (fun c_21 => by exfalso; omega) (fun c_21 => ?_)
              refine lv_aload_n hx hb dL_two_142 rfl (lv_at hl 1 rfl) ?_
              refine lv_iload_n hx hb dL_two_143 rfl (lv_at hl 2 rfl) ?_
              refine z_lald (j := a9) hx hb hG hr1 ⟨by omega, by omega⟩ dL_two_144 ?_
              refine z_topl (y := lN (zLn (zKd nw a9) (zSz nw a9))) (congrArg lN ((e1r _ ha9).trans (zRn_e ha0))) ?_
              refine lv_iload hx hb dL_two_145 (lv_at hl 4 rfl) ?_
              refine z_roSX (As := [.long (lN (zLn (zKd nw a9) (zSz nw a9))), .int (nI (lv))]) (rest := [.int (zb (zal (zSz nw a9) (zKd nw a9) (zSz nw b9) (zKd nw b9) lv))]) S hG (c_L_least E (lv := lv) (hok.s4 ha9 ha0) (hok.k4 ha9) hlv) 2 gL_two_L_least rfl kL_least.2 ⟨Nat.le_of_ble_eq_true rfl, Nat.le_of_ble_eq_true rfl⟩ ⟨Nat.zero_le _, Nat.zero_le _⟩ (trivial) rfl hl.1 rfl rfl (Nat.le_of_ble_eq_true rfl) dL_two_147 ?_
              refine lv_aload_n hx hb dL_two_150 rfl (lv_at hl 1 rfl) ?_
              refine lv_iload_n hx hb dL_two_151 rfl (lv_at hl 3 rfl) ?_
              refine z_lald (j := b9) hx hb hG hr1 ⟨by omega, by omega⟩ dL_two_152 ?_
              refine z_topl (y := lN (zLn (zKd nw b9) (zSz nw b9))) (congrArg lN ((e1r _ hb9).trans (zRn_e hb0))) ?_
              refine lv_iload hx hb dL_two_153 (lv_at hl 4 rfl) ?_
              refine z_roSX (As := [.long (lN (zLn (zKd nw b9) (zSz nw b9))), .int (nI (lv))]) (rest := [.long (lN (zLe lv (zSz nw a9) (zKd nw a9))), .int (zb (zal (zSz nw a9) (zKd nw a9) (zSz nw b9) (zKd nw b9) lv))]) S hG (c_L_least E (lv := lv) (hok.s4 hb9 hb0) (hok.k4 hb9) hlv) 2 gL_two_L_least rfl kL_least.2 ⟨Nat.le_of_ble_eq_true rfl, Nat.le_of_ble_eq_true rfl⟩ ⟨Nat.zero_le _, Nat.zero_le _⟩ (trivial) rfl hl.1 rfl rfl (Nat.le_of_ble_eq_true rfl) dL_two_155 ?_
              refine W.lcmp hx hb dL_two_158 ?_
              refine z_lne (tgt := 166) hx hb dL_two_159 (by decide) ⟨by have h9 := zLe_62 (lv := lv) (hok.s4 ha9 ha0) (hok.k4 ha9); omega, by have h9 := zLe_62 (lv := lv) (hok.s4 hb9 hb0) (hok.k4 hb9); omega⟩ (fun c_22 => ?_) (fun c_22 => ?_)
              · refine lv_iconst (v := nI (0)) hx hb dL_two_166 (by decide) ?_
                refine lv_icmp_ne (tgt := 195) hx hb dL_two_167 (by decide) (fun c_23 => by exfalso; first | exact c_23 (by rw [(zAL (hok.s4 ha9 ha0) (hok.s4 hb9 hb0) (hok.k4 ha9) (hok.k4 hb9) hlv).mp (by assumption)]; rfl) | exact c_23 (by rw [zAL_f (hok.s4 ha9 ha0) (hok.s4 hb9 hb0) (hok.k4 ha9) (hok.k4 hb9) hlv (by assumption)]; rfl) | exact c_23 (by unfold zal; rw [decide_eq_false (by assumption)]; rfl)) (fun c_23 => ?_)
                refine lv_aload_n hx hb dL_two_170 rfl (lv_at hl 0 rfl) ?_
                refine lv_iload_n hx hb dL_two_171 rfl (lv_at hl 2 rfl) ?_
                refine lv_iload_n hx hb dL_two_172 rfl (lv_at hl 3 rfl) ?_
                refine z_roV (As := [.int (nI (a9)), .int (nI (b9))]) (rest := []) (q := (RX5, TX5, 7)) S hG (c_X5_distance_3 E (r := a9) (r2 := b9) hok ha9 ha0 hb9 hb0 he9) 2 gL_two_X5_distance rfl kX5_distance ⟨Nat.le_of_ble_eq_true rfl, Nat.le_of_ble_eq_true rfl⟩ ⟨Nat.zero_le _, Nat.zero_le _⟩ (hCW) rfl h5 rfl hl.1 rfl rfl (Nat.le_of_ble_eq_true rfl) dL_two_173 ?_
                refine lv_iload hx hb dL_two_176 (lv_at hl 5 rfl) ?_
                refine z_feq (tgt := 186) hx hb dL_two_178 (by decide) (by omega) (fun c_24 => by exfalso; omega) (fun c_24 => ?_)
                refine lv_iload hx hb dL_two_181 (lv_at hl 6 rfl) ?_
                refine lv_goto (tgt := 188) hx hb dL_two_183 (by decide) ?_
                refine lv_icmp_ne (tgt := 195) hx hb dL_two_188 (by decide) (fun c_25 => by exfalso; exact c_25 (by rw [show i = znc 2 (zSz nw a9) by omega]; exact congrArg nI (zmn_99 (F := (fun i9 => zdf (zSz nw a9) (zKd nw a9) (zchg 2 i9 (zSz nw a9)) (zKd nw b9))) (fun j9 => zdf_le _ _ _ _) (by have h9 := (hok.s4 ha9 ha0).b; omega) (znc_pos (hok.s4 ha9 ha0).b.1)).symm)) (fun c_25 => ?_)
                refine lv_iconst (v := nI (1)) hx hb dL_two_191 (by decide) ?_
                refine lv_goto (tgt := 196) hx hb dL_two_192 (by decide) ?_
                exact hret _ _ _ dL_two_196 (by first | exact Or.inl rfl | exact Or.inr rfl) (rfl)
              · refine lv_iconst (v := nI (1)) hx hb dL_two_162 (by decide) ?_
                refine lv_goto (tgt := 167) hx hb dL_two_163 (by decide) ?_
                refine lv_icmp_ne (tgt := 195) hx hb dL_two_167 (by decide) (fun c_26 => by exfalso; first | exact c_26 (by rw [(zAL (hok.s4 ha9 ha0) (hok.s4 hb9 hb0) (hok.k4 ha9) (hok.k4 hb9) hlv).mp (by assumption)]; rfl) | exact c_26 (by rw [zAL_f (hok.s4 ha9 ha0) (hok.s4 hb9 hb0) (hok.k4 ha9) (hok.k4 hb9) hlv (by assumption)]; rfl) | exact c_26 (by unfold zal; rw [decide_eq_false (by assumption)]; rfl)) (fun c_26 => ?_)
                refine lv_aload_n hx hb dL_two_170 rfl (lv_at hl 0 rfl) ?_
                refine lv_iload_n hx hb dL_two_171 rfl (lv_at hl 2 rfl) ?_
                refine lv_iload_n hx hb dL_two_172 rfl (lv_at hl 3 rfl) ?_
                refine z_roV (As := [.int (nI (a9)), .int (nI (b9))]) (rest := []) (q := (RX5, TX5, 7)) S hG (c_X5_distance_3 E (r := a9) (r2 := b9) hok ha9 ha0 hb9 hb0 he9) 2 gL_two_X5_distance rfl kX5_distance ⟨Nat.le_of_ble_eq_true rfl, Nat.le_of_ble_eq_true rfl⟩ ⟨Nat.zero_le _, Nat.zero_le _⟩ (hCW) rfl h5 rfl hl.1 rfl rfl (Nat.le_of_ble_eq_true rfl) dL_two_173 ?_
                refine lv_iload hx hb dL_two_176 (lv_at hl 5 rfl) ?_
                refine z_feq (tgt := 186) hx hb dL_two_178 (by decide) (by omega) (fun c_27 => by exfalso; omega) (fun c_27 => ?_)
                refine lv_iload hx hb dL_two_181 (lv_at hl 6 rfl) ?_
                refine lv_goto (tgt := 188) hx hb dL_two_183 (by decide) ?_
                refine lv_icmp_ne (tgt := 195) hx hb dL_two_188 (by decide) (fun c_28 => by exfalso; exact c_28 (by rw [show i = znc 2 (zSz nw a9) by omega]; exact congrArg nI (zmn_99 (F := (fun i9 => zdf (zSz nw a9) (zKd nw a9) (zchg 2 i9 (zSz nw a9)) (zKd nw b9))) (fun j9 => zdf_le _ _ _ _) (by have h9 := (hok.s4 ha9 ha0).b; omega) (znc_pos (hok.s4 ha9 ha0).b.1)).symm)) (fun c_28 => ?_)
                refine lv_iconst (v := nI (1)) hx hb dL_two_191 (by decide) ?_
                refine lv_goto (tgt := 196) hx hb dL_two_192 (by decide) ?_
                exact hret _ _ _ dL_two_196 (by first | exact Or.inl rfl | exact Or.inr rfl) (rfl)
            · refine lv_iload hx hb dL_two_85 (lv_at hl 5 rfl) ?_
              refine z_feq (tgt := 129) hx hb dL_two_87 (by decide) (by omega) (fun c_29 => by exfalso; omega) (fun c_29 => ?_)
              refine lv_aload_n hx hb dL_two_90 rfl (lv_at hl 1 rfl) ?_
              refine lv_iload_n hx hb dL_two_91 rfl (lv_at hl 2 rfl) ?_
              refine z_lald (j := a9) hx hb hG hr1 ⟨by omega, by omega⟩ dL_two_92 ?_
              refine z_topl (y := lN (zLn (zKd nw a9) (zSz nw a9))) (congrArg lN ((e1r _ ha9).trans (zRn_e ha0))) ?_
              refine lv_iconst (v := nI (2)) hx hb dL_two_93 (by decide) ?_
              refine lv_iload hx hb dL_two_94 (lv_at hl 7 rfl) ?_
              refine z_roSX (As := [.long (lN (zLn (zKd nw a9) (zSz nw a9))), .int (nI (2)), .int (nI (i))]) (rest := []) S hG (c_L_image E (lv := 2) (ch := i) (hok.s4 ha9 ha0) (hok.k4 ha9) (by decide) (by omega)) 3 gL_two_L_image rfl kL_image.2 ⟨Nat.le_of_ble_eq_true rfl, Nat.le_of_ble_eq_true rfl⟩ ⟨Nat.zero_le _, Nat.zero_le _⟩ (trivial) rfl hl.1 rfl rfl (Nat.le_of_ble_eq_true rfl) dL_two_96 ?_
              refine lv_aload_n hx hb dL_two_99 rfl (lv_at hl 1 rfl) ?_
              refine lv_iload_n hx hb dL_two_100 rfl (lv_at hl 3 rfl) ?_
              refine z_lald (j := b9) hx hb hG hr1 ⟨by omega, by omega⟩ dL_two_101 ?_
              refine z_topl (y := lN (zLn (zKd nw b9) (zSz nw a9))) (congrArg lN ((e1r _ hb9).trans ((zRn_e hb0).trans (by rw [he9])))) ?_
              refine z_roSX (As := [.long (lN (zLn (zimg (zSz nw a9) (zKd nw a9) (zchg 2 i (zSz nw a9))) (zSz nw a9))), .long (lN (zLn (zKd nw b9) (zSz nw a9)))]) (rest := []) S hG (c_L_unlike E (f := zimg (zSz nw a9) (zKd nw a9) (zchg 2 i (zSz nw a9))) (g := (zKd nw b9)) (hok.s4 ha9 ha0) (zLn_k (hok.s4 ha9 ha0).b.1 (hok.k4 ha9)) (by rw [he9]; exact hok.k4 hb9)) 2 gL_two_L_unlike rfl kL_unlike.2 ⟨Nat.le_of_ble_eq_true rfl, Nat.le_of_ble_eq_true rfl⟩ ⟨Nat.zero_le _, Nat.zero_le _⟩ (trivial) rfl hl.1 rfl rfl (Nat.le_of_ble_eq_true rfl) dL_two_102 ?_
              refine z_top (y := nI (zdf (zSz nw a9) (zKd nw a9) (zchg 2 i (zSz nw a9)) (zKd nw b9))) (rfl) ?_
              refine lv_istore (lv' := [(8, .int (nI (zdf (zSz nw a9) (zKd nw a9) (zchg 2 i (zSz nw a9)) (zKd nw b9)))), (0, .ref (ad 287)), (1, .ref (ra)), (2, .int (nI (a9))), (3, .int (nI (b9))), (4, .int (nI (lv))), (5, .int (nI (1))), (6, .int (nI (zmn (fun i9 => zdf (zSz nw a9) (zKd nw a9) (zchg 2 i9 (zSz nw a9)) (zKd nw b9)) 99 i))), (7, .int (nI (i)))]) hx hb dL_two_105 hl (by decide) rfl (fun ls hl => ?_)
              refine lv_iload hx hb dL_two_107 (lv_at hl 0 rfl) ?_
              refine lv_iload hx hb dL_two_109 (lv_at hl 7 rfl) ?_
              refine z_cge (tgt := 119) hx hb dL_two_111 (by decide) ⟨by have h9 := zdf_le (zSz nw a9) (zKd nw a9) (zchg 2 i (zSz nw a9)) (zKd nw b9); have h8 := (hok.s4 ha9 ha0).b; omega, by have h9 := zmn_le (fun i9 => zdf (zSz nw a9) (zKd nw a9) (zchg 2 i9 (zSz nw a9)) (zKd nw b9)) 99 i; omega⟩ (fun c_30 => ?_) (fun c_30 => ?_)
              · refine lv_iload hx hb dL_two_119 (lv_at hl 7 rfl) ?_
                refine lv_istore (lv' := [(6, .int (nI (zmn (fun i9 => zdf (zSz nw a9) (zKd nw a9) (zchg 2 i9 (zSz nw a9)) (zKd nw b9)) 99 i))), (8, .int (nI (zdf (zSz nw a9) (zKd nw a9) (zchg 2 i (zSz nw a9)) (zKd nw b9)))), (0, .ref (ad 287)), (1, .ref (ra)), (2, .int (nI (a9))), (3, .int (nI (b9))), (4, .int (nI (lv))), (5, .int (nI (1))), (7, .int (nI (i)))]) hx hb dL_two_121 hl (by decide) rfl (fun ls hl => ?_)
                refine lv_iinc (v := nI (i + 1)) (lv' := [(7, .int (nI (i + 1))), (6, .int (nI (zmn (fun i9 => zdf (zSz nw a9) (zKd nw a9) (zchg 2 i9 (zSz nw a9)) (zKd nw b9)) 99 i))), (8, .int (nI (zdf (zSz nw a9) (zKd nw a9) (zchg 2 i (zSz nw a9)) (zKd nw b9)))), (0, .ref (ad 287)), (1, .ref (ra)), (2, .int (nI (a9))), (3, .int (nI (b9))), (4, .int (nI (lv))), (5, .int (nI (1)))]) hx hb dL_two_123 hl (k := 8) rfl (z_inc1 _) (by decide) rfl (fun ls hl => ?_)
                refine lv_goto (tgt := 73) hx hb dL_two_126 (by decide) ?_
                have hl9 := lv_sub hl [3, 4, 5, 6, 7, 8, 1, 0] (l' := [(0, .ref (ad 287)), (1, .ref (ra)), (2, .int (nI (a9))), (3, .int (nI (b9))), (4, .int (nI (lv))), (5, .int (nI (1))), (6, .int (nI (zmn (fun i9 => zdf (zSz nw a9) (zKd nw a9) (zchg 2 i9 (zSz nw a9)) (zKd nw b9)) 99 i))), (7, .int (nI (i + 1)))]) rfl
                have e9_6 : (zmn (fun i9 => zdf (zSz nw a9) (zKd nw a9) (zchg 2 i9 (zSz nw a9)) (zKd nw b9)) 99 i) = (zmn (fun i9 => zdf (zSz nw a9) (zKd nw a9) (zchg 2 i9 (zSz nw a9)) (zKd nw b9)) 99 (i + 1)) := by first | exact zmn_y (F := (fun i9 => zdf (zSz nw a9) (zKd nw a9) (zchg 2 i9 (zSz nw a9)) (zKd nw b9))) (a := 99) (i := i) c_30 | exact zmn_n (F := (fun i9 => zdf (zSz nw a9) (zKd nw a9) (zchg 2 i9 (zSz nw a9)) (zKd nw b9))) (a := 99) (i := i) c_30
                have e9_7 : (i + 1) = ((i + 1)) := by omega
                exact ih73 (i + 1) (by omega) (by omega) ls (by rw [← e9_6, ← e9_7]; exact hl9)
              · refine lv_iload hx hb dL_two_114 (lv_at hl 0 rfl) ?_
                refine lv_goto (tgt := 121) hx hb dL_two_116 (by decide) ?_
                refine lv_istore (lv' := [(6, .int (nI (zdf (zSz nw a9) (zKd nw a9) (zchg 2 i (zSz nw a9)) (zKd nw b9)))), (8, .int (nI (zdf (zSz nw a9) (zKd nw a9) (zchg 2 i (zSz nw a9)) (zKd nw b9)))), (0, .ref (ad 287)), (1, .ref (ra)), (2, .int (nI (a9))), (3, .int (nI (b9))), (4, .int (nI (lv))), (5, .int (nI (1))), (7, .int (nI (i)))]) hx hb dL_two_121 hl (by decide) rfl (fun ls hl => ?_)
                refine lv_iinc (v := nI (i + 1)) (lv' := [(7, .int (nI (i + 1))), (6, .int (nI (zdf (zSz nw a9) (zKd nw a9) (zchg 2 i (zSz nw a9)) (zKd nw b9)))), (8, .int (nI (zdf (zSz nw a9) (zKd nw a9) (zchg 2 i (zSz nw a9)) (zKd nw b9)))), (0, .ref (ad 287)), (1, .ref (ra)), (2, .int (nI (a9))), (3, .int (nI (b9))), (4, .int (nI (lv))), (5, .int (nI (1)))]) hx hb dL_two_123 hl (k := 8) rfl (z_inc1 _) (by decide) rfl (fun ls hl => ?_)
                refine lv_goto (tgt := 73) hx hb dL_two_126 (by decide) ?_
                have hl9 := lv_sub hl [3, 4, 5, 6, 7, 8, 1, 0] (l' := [(0, .ref (ad 287)), (1, .ref (ra)), (2, .int (nI (a9))), (3, .int (nI (b9))), (4, .int (nI (lv))), (5, .int (nI (1))), (6, .int (nI (zdf (zSz nw a9) (zKd nw a9) (zchg 2 i (zSz nw a9)) (zKd nw b9)))), (7, .int (nI (i + 1)))]) rfl
                have e9_6 : (zdf (zSz nw a9) (zKd nw a9) (zchg 2 i (zSz nw a9)) (zKd nw b9)) = (zmn (fun i9 => zdf (zSz nw a9) (zKd nw a9) (zchg 2 i9 (zSz nw a9)) (zKd nw b9)) 99 (i + 1)) := by first | exact zmn_y (F := (fun i9 => zdf (zSz nw a9) (zKd nw a9) (zchg 2 i9 (zSz nw a9)) (zKd nw b9))) (a := 99) (i := i) c_30 | exact zmn_n (F := (fun i9 => zdf (zSz nw a9) (zKd nw a9) (zchg 2 i9 (zSz nw a9)) (zKd nw b9))) (a := 99) (i := i) c_30
                have e9_7 : (i + 1) = ((i + 1)) := by omega
                exact ih73 (i + 1) (by omega) (by omega) ls (by rw [← e9_6, ← e9_7]; exact hl9)
        exact L73 ((znc 2 (zSz nw a9) - (0)) + 1) (0) (Nat.lt_succ_self _) (Nat.zero_le _) ls (lv_sub hl [3, 4, 5, 6, 7, 2, 1, 0] rfl)
    · have hz9 : zSz nw a9 = 0 ∨ zSz nw b9 = 0 := Or.inr (zRn_0 c_8)
      rcases (show (zSz nw a9 = 0 ∧ zSz nw b9 = 0) ∨ (zSz nw a9 = 0 ∧ zSz nw b9 ≠ 0) ∨ (zSz nw a9 ≠ 0 ∧ zSz nw b9 = 0) by omega) with q1 | q1 | q1
      · refine lv_aload_n hx hb dL_two_16 rfl (lv_at hl 0 rfl) ?_
        refine lv_iload_n hx hb dL_two_17 rfl (lv_at hl 2 rfl) ?_
        refine lv_iload_n hx hb dL_two_18 rfl (lv_at hl 3 rfl) ?_
        refine lv_iload hx hb dL_two_19 (lv_at hl 4 rfl) ?_
        refine z_roV (As := [.int (nI (a9)), .int (nI (b9)), .int (nI (lv))]) (rest := []) (q := (RX5, TX5, 7)) S hG (c_X5_alike_0 E (y := nI b9) (w := nI lv) hok (zfnd_no ha9 q1.1) (zfnd_no hb9 q1.2)) 3 gL_two_X5_alike rfl kX5_alike ⟨Nat.le_of_ble_eq_true rfl, Nat.le_of_ble_eq_true rfl⟩ ⟨Nat.zero_le _, Nat.zero_le _⟩ (hCW) rfl h5 rfl hl.1 rfl rfl (Nat.le_of_ble_eq_true rfl) dL_two_21 ?_
        refine lv_iconst (v := (-1)) hx hb dL_two_24 (by decide) ?_
        refine lv_icmp_ne (tgt := 42) hx hb dL_two_25 (by decide) (fun c_31 => by exfalso; exact c_31 rfl) (fun c_31 => ?_)
        refine lv_aload_n hx hb dL_two_28 rfl (lv_at hl 0 rfl) ?_
        refine lv_iload_n hx hb dL_two_29 rfl (lv_at hl 2 rfl) ?_
        refine lv_iload_n hx hb dL_two_30 rfl (lv_at hl 3 rfl) ?_
        refine z_roV (As := [.int (nI (a9)), .int (nI (b9))]) (rest := []) (q := (RX5, TX5, 7)) S hG (c_X5_distance_0 E (y := nI b9) hok (zfnd_no ha9 q1.1) (zfnd_no hb9 q1.2)) 2 gL_two_X5_distance rfl kX5_distance ⟨Nat.le_of_ble_eq_true rfl, Nat.le_of_ble_eq_true rfl⟩ ⟨Nat.zero_le _, Nat.zero_le _⟩ (hCW) rfl h5 rfl hl.1 rfl rfl (Nat.le_of_ble_eq_true rfl) dL_two_31 ?_
        refine lv_iconst (v := (-1)) hx hb dL_two_34 (by decide) ?_
        refine lv_icmp_ne (tgt := 42) hx hb dL_two_35 (by decide) (fun c_32 => by exfalso; exact c_32 rfl) (fun c_32 => ?_)
        refine lv_iconst (v := nI (1)) hx hb dL_two_38 (by decide) ?_
        refine lv_goto (tgt := 43) hx hb dL_two_39 (by decide) ?_
        exact hret _ _ _ dL_two_43 (by first | exact Or.inl rfl | exact Or.inr rfl) (rfl)
      · refine lv_aload_n hx hb dL_two_16 rfl (lv_at hl 0 rfl) ?_
        refine lv_iload_n hx hb dL_two_17 rfl (lv_at hl 2 rfl) ?_
        refine lv_iload_n hx hb dL_two_18 rfl (lv_at hl 3 rfl) ?_
        refine lv_iload hx hb dL_two_19 (lv_at hl 4 rfl) ?_
        refine z_roV (As := [.int (nI (a9)), .int (nI (b9)), .int (nI (lv))]) (rest := []) (q := (RX5, TX5, 7)) S hG (c_X5_alike_0s E (r2 := b9) (w := nI lv) hok (zfnd_no ha9 q1.1) hb9 q1.2) 3 gL_two_X5_alike rfl kX5_alike ⟨Nat.le_of_ble_eq_true rfl, Nat.le_of_ble_eq_true rfl⟩ ⟨Nat.zero_le _, Nat.zero_le _⟩ (hCW) rfl h5 rfl hl.1 rfl rfl (Nat.le_of_ble_eq_true rfl) dL_two_21 ?_
        refine lv_iconst (v := (-1)) hx hb dL_two_24 (by decide) ?_
        refine lv_icmp_ne (tgt := 42) hx hb dL_two_25 (by decide) (fun c_33 => by exfalso; exact c_33 rfl) (fun c_33 => ?_)
        refine lv_aload_n hx hb dL_two_28 rfl (lv_at hl 0 rfl) ?_
        refine lv_iload_n hx hb dL_two_29 rfl (lv_at hl 2 rfl) ?_
        refine lv_iload_n hx hb dL_two_30 rfl (lv_at hl 3 rfl) ?_
        refine z_roV (As := [.int (nI (a9)), .int (nI (b9))]) (rest := []) (q := (RX5, TX5, 7)) S hG (c_X5_distance_0s E (r2 := b9) hok (zfnd_no ha9 q1.1) hb9 q1.2) 2 gL_two_X5_distance rfl kX5_distance ⟨Nat.le_of_ble_eq_true rfl, Nat.le_of_ble_eq_true rfl⟩ ⟨Nat.zero_le _, Nat.zero_le _⟩ (hCW) rfl h5 rfl hl.1 rfl rfl (Nat.le_of_ble_eq_true rfl) dL_two_31 ?_
        refine lv_iconst (v := (-1)) hx hb dL_two_34 (by decide) ?_
        refine lv_icmp_ne (tgt := 42) hx hb dL_two_35 (by decide) (fun c_34 => by exfalso; exact c_34 rfl) (fun c_34 => ?_)
        refine lv_iconst (v := nI (1)) hx hb dL_two_38 (by decide) ?_
        refine lv_goto (tgt := 43) hx hb dL_two_39 (by decide) ?_
        exact hret _ _ _ dL_two_43 (by first | exact Or.inl rfl | exact Or.inr rfl) (rfl)
      · refine lv_aload_n hx hb dL_two_16 rfl (lv_at hl 0 rfl) ?_
        refine lv_iload_n hx hb dL_two_17 rfl (lv_at hl 2 rfl) ?_
        refine lv_iload_n hx hb dL_two_18 rfl (lv_at hl 3 rfl) ?_
        refine lv_iload hx hb dL_two_19 (lv_at hl 4 rfl) ?_
        refine z_roV (As := [.int (nI (a9)), .int (nI (b9)), .int (nI (lv))]) (rest := []) (q := (RX5, TX5, 7)) S hG (c_X5_alike_1 E (r := a9) (y := nI b9) (w := nI lv) hok ha9 q1.1 (zfnd_no hb9 q1.2)) 3 gL_two_X5_alike rfl kX5_alike ⟨Nat.le_of_ble_eq_true rfl, Nat.le_of_ble_eq_true rfl⟩ ⟨Nat.zero_le _, Nat.zero_le _⟩ (hCW) rfl h5 rfl hl.1 rfl rfl (Nat.le_of_ble_eq_true rfl) dL_two_21 ?_
        refine lv_iconst (v := (-1)) hx hb dL_two_24 (by decide) ?_
        refine lv_icmp_ne (tgt := 42) hx hb dL_two_25 (by decide) (fun c_35 => by exfalso; exact c_35 rfl) (fun c_35 => ?_)
        refine lv_aload_n hx hb dL_two_28 rfl (lv_at hl 0 rfl) ?_
        refine lv_iload_n hx hb dL_two_29 rfl (lv_at hl 2 rfl) ?_
        refine lv_iload_n hx hb dL_two_30 rfl (lv_at hl 3 rfl) ?_
        refine z_roV (As := [.int (nI (a9)), .int (nI (b9))]) (rest := []) (q := (RX5, TX5, 7)) S hG (c_X5_distance_1 E (r := a9) (y := nI b9) hok ha9 q1.1 (zfnd_no hb9 q1.2)) 2 gL_two_X5_distance rfl kX5_distance ⟨Nat.le_of_ble_eq_true rfl, Nat.le_of_ble_eq_true rfl⟩ ⟨Nat.zero_le _, Nat.zero_le _⟩ (hCW) rfl h5 rfl hl.1 rfl rfl (Nat.le_of_ble_eq_true rfl) dL_two_31 ?_
        refine lv_iconst (v := (-1)) hx hb dL_two_34 (by decide) ?_
        refine lv_icmp_ne (tgt := 42) hx hb dL_two_35 (by decide) (fun c_36 => by exfalso; exact c_36 rfl) (fun c_36 => ?_)
        refine lv_iconst (v := nI (1)) hx hb dL_two_38 (by decide) ?_
        refine lv_goto (tgt := 43) hx hb dL_two_39 (by decide) ?_
        exact hret _ _ _ dL_two_43 (by first | exact Or.inl rfl | exact Or.inr rfl) (rfl)

set_option maxHeartbeats 4000000 in
set_option maxRecDepth 100000 in
theorem c_L_best (E : zEnv) {ad : Nat → Nat} {nw sv : zS} {an : Bool} {hs : Nat → zS} {ct ln : Nat} {cd : Nat → Int32} {ra ba ga ea ca : Nat} {rr : Nat → Nat} {bb gg : Nat → Int32} {ee : Nat → Nat} {cc : Nat → Int32} {r9 : Nat} (hok : zOk nw) (hrel : zRel nw rr bb gg ee cc) (hinj : zInj ad) (hct : ct ≤ 5) (hdis : ∀ q, (q = ra ∨ q = ba ∨ q = ga ∨ q = ea ∨ q = ca) → ¬ zAC ad q) (hr9 : r9 < 6) (hr0 : zSz nw r9 ≠ 0) : zWR E yL_best wsL_best 6 141 [.ref (ad 287), .ref (ba), .int (nI (r9)), .long (lN (zLn (zKd nw r9) (zSz nw r9)))] (fun H => zCW E ad nw sv an hs ct ln cd H ∧ zRows E ra ba ga ea ca rr bb gg ee cc H) (some (.int (nI 1))) (fun H => zCW E ad nw sv an hs ct ln cd H ∧ zRows E ra ba ga ea ca rr bb gg ee cc H) (zAC ad) := by
  refine zWR.ofZ (maxL := 11) rfl (Nat.le_of_ble_eq_true rfl) (fun p e s m args below meth c H Q hF hP hret ls hl => ?_)
  have S : CallFix p m c cL_best 11 s args wsL_best RL := hF.1
  have hG := hF.2
  obtain ⟨hx, hb, hml, hown, hts⟩ := id S
  have hS : va_S (zAC ad) H H [] := va_S.rf
  obtain ⟨locs, hlocs⟩ : ∃ x : List Loc, x = [] := ⟨_, rfl⟩
  rw [← hlocs] at hS ⊢
  have hz : H.size = H.size := rfl
  obtain ⟨hCW, hRW⟩ := id hP
  obtain ⟨hr1, hr2, hr3, hr4, hr5⟩ := id hRW
  obtain ⟨f5, h5⟩ := zCW_recv hCW
  obtain ⟨e1r, e2r, e3r, e4r, e5r⟩ := id hrel
  have hml := hok.2.2.2.1
  have hnl := hok.2.2.2.2.1
  have hs4 := hok.s4 hr9 hr0
  have hk4 := hok.k4 hr9
  have hb4 := hs4.b
  have hq4 := hs4.q
  have hwt : ∀ k, 1 ≤ k → k ≤ 5 → (fun k9 => bb (4 + k9)) k = zWt nw k := fun k h1 h2 => (e2r k h1 h2).2
  have hl : lv_has ls 11 [(0, .ref (ad 287)), (1, .ref (ba)), (2, .int (nI (r9))), (3, .long (lN (zLn (zKd nw r9) (zSz nw r9))))] := hl
  refine lv_bipush (v := (-6)) hx hb dL_best_0 (by decide) ?_
  refine lv_istore (lv' := [(5, .int (-6)), (0, .ref (ad 287)), (1, .ref (ba)), (2, .int (nI (r9))), (3, .long (lN (zLn (zKd nw r9) (zSz nw r9))))]) hx hb dL_best_2 hl (by decide) rfl (fun ls hl => ?_)
  refine lv_aload_n hx hb dL_best_4 rfl (lv_at hl 2 rfl) ?_
  refine lv_lload_n hx hb dL_best_5 rfl (lv_at hl 4 rfl) ?_
  refine z_roSX (As := [.ref (ba), .long (lN (zLn (zKd nw r9) (zSz nw r9)))]) (rest := []) S hG (c_L_lean E (bb := bb) hs4 hk4) 2 gL_best_L_lean rfl kL_lean.2 ⟨Nat.le_of_ble_eq_true rfl, Nat.le_of_ble_eq_true rfl⟩ ⟨Nat.zero_le _, Nat.zero_le _⟩ (hr2) rfl hl.1 rfl rfl (Nat.le_of_ble_eq_true rfl) dL_best_6 ?_
  refine z_top (y := (zlean (zWt nw) (zSz nw r9) ((zKd nw r9)))) (zlean_cg hs4 hwt (hk4)) ?_
  refine lv_istore (lv' := [(6, .int (zlean (zWt nw) (zSz nw r9) ((zKd nw r9)))), (5, .int (-6)), (0, .ref (ad 287)), (1, .ref (ba)), (2, .int (nI (r9))), (3, .long (lN (zLn (zKd nw r9) (zSz nw r9))))]) hx hb dL_best_9 hl (by decide) rfl (fun ls hl => ?_)
  refine lv_iconst (v := nI (0)) hx hb dL_best_11 (by decide) ?_
  refine lv_istore (lv' := [(7, .int (nI (0))), (6, .int (zlean (zWt nw) (zSz nw r9) ((zKd nw r9)))), (5, .int (-6)), (0, .ref (ad 287)), (1, .ref (ba)), (2, .int (nI (r9))), (3, .long (lN (zLn (zKd nw r9) (zSz nw r9))))]) hx hb dL_best_12 hl (by decide) rfl (fun ls hl => ?_)
  have L14 : ∀ (dd : Nat) (k : Nat), 256 - k < dd → (k ≤ 256) → ∀ (ls : Array Slot), lv_has ls 11 [(0, .ref (ad 287)), (1, .ref (ba)), (2, .int (nI (r9))), (3, .long (lN (zLn (zKd nw r9) (zSz nw r9)))), (5, .int ((zbq (zWt nw) (zSz nw r9) (zKd nw r9) k).1)), (6, .int ((zbq (zWt nw) (zSz nw r9) (zKd nw r9) k).2)), (7, .int (nI (k)))] → W p (zl E) e (zRm 6 141) s m args below meth c H locs 0 0 Q (F0 m 14 ls []) := by
    intro dd
    induction dd with
    | zero => intro k hdd; exact absurd hdd (Nat.not_lt_zero _)
    | succ dd ih14 =>
      intro k hdd14 hk ls hl
      refine lv_iload hx hb dL_best_14 (lv_at hl 6 rfl) ?_
      refine lv_sipush (v := nI (256)) hx hb dL_best_16 (by decide) ?_
      refine z_cge (tgt := 125) hx hb dL_best_19 (by decide) ⟨by omega, by omega⟩ (fun c_1 => ?_) (fun c_1 => ?_)
      · refine lv_aload_n hx hb dL_best_125 rfl (lv_at hl 0 rfl) ?_
        refine lv_iload_n hx hb dL_best_126 rfl (lv_at hl 2 rfl) ?_
        refine z_wrV (As := [.int (nI (r9))]) (rest := []) (q := (RX5, TX5, 7)) S hG (c_X5_bestSwap_1 E (r := r9) hok hinj hct hr9 hr0) 1 gL_best_X5_bestSwap rfl kX5_bestSwap ⟨Nat.le_of_ble_eq_true rfl, Nat.le_of_ble_eq_true rfl⟩ ⟨Nat.zero_le _, Nat.zero_le _⟩ (hCW) rfl h5 rfl hl.1 rfl rfl (Nat.le_of_ble_eq_true rfl) dL_best_127 hS (fun _ h => h) (fun Hn locs h_3 q_2 o_4 hS => ?_)
        have hz : Hn.size = H.size := q_2.trans hz
        have hCW := h_3
        obtain ⟨f5, h5⟩ := zCW_recv hCW
        have hRW := zRows_kept hRW (fun q hq => o_4 q (hdis q hq))
        obtain ⟨hr1, hr2, hr3, hr4, hr5⟩ := id hRW
        refine lv_iload hx hb dL_best_130 (lv_at hl 4 rfl) ?_
        refine lv_icmp_ne (tgt := 139) hx hb dL_best_132 (by decide) (fun c_5 => by exfalso; exact c_5 (by rw [show k = 256 by omega, zbq_f hb4.2.1])) (fun c_5 => ?_)
        refine lv_iconst (v := nI (1)) hx hb dL_best_135 (by decide) ?_
        refine lv_goto (tgt := 140) hx hb dL_best_136 (by decide) ?_
        exact hret _ _ _ _ _ hS (hz) dL_best_140 (by first | exact Or.inl rfl | exact Or.inr rfl) (rfl) (⟨hCW, hRW⟩)
      · refine lv_iload hx hb dL_best_22 (lv_at hl 6 rfl) ?_
        refine lv_bipush (v := nI (16)) hx hb dL_best_24 (by decide) ?_
        refine z_idiv hx hb dL_best_26 ⟨by omega, by omega, by omega⟩ ?_
        refine lv_istore (lv' := [(8, .int (nI (k / 16))), (0, .ref (ad 287)), (1, .ref (ba)), (2, .int (nI (r9))), (3, .long (lN (zLn (zKd nw r9) (zSz nw r9)))), (5, .int ((zbq (zWt nw) (zSz nw r9) (zKd nw r9) k).1)), (6, .int ((zbq (zWt nw) (zSz nw r9) (zKd nw r9) k).2)), (7, .int (nI (k)))]) hx hb dL_best_27 hl (by decide) rfl (fun ls hl => ?_)
        refine lv_iload hx hb dL_best_29 (lv_at hl 7 rfl) ?_
        refine lv_bipush (v := nI (16)) hx hb dL_best_31 (by decide) ?_
        refine z_irem hx hb dL_best_33 ⟨by omega, by omega, by omega⟩ ?_
        refine lv_istore (lv' := [(9, .int (nI (k % 16))), (8, .int (nI (k / 16))), (0, .ref (ad 287)), (1, .ref (ba)), (2, .int (nI (r9))), (3, .long (lN (zLn (zKd nw r9) (zSz nw r9)))), (5, .int ((zbq (zWt nw) (zSz nw r9) (zKd nw r9) k).1)), (6, .int ((zbq (zWt nw) (zSz nw r9) (zKd nw r9) k).2)), (7, .int (nI (k)))]) hx hb dL_best_34 hl (by decide) rfl (fun ls hl => ?_)
        refine lv_iload hx hb dL_best_36 (lv_at hl 1 rfl) ?_
        refine lv_iload hx hb dL_best_38 (lv_at hl 0 rfl) ?_
        refine z_cge (tgt := 119) hx hb dL_best_40 (by decide) ⟨by omega, by omega⟩ (fun c_6 => ?_) (fun c_6 => ?_)
        · refine lv_iinc (v := nI (k + 1)) (lv' := [(7, .int (nI (k + 1))), (9, .int (nI (k % 16))), (8, .int (nI (k / 16))), (0, .ref (ad 287)), (1, .ref (ba)), (2, .int (nI (r9))), (3, .long (lN (zLn (zKd nw r9) (zSz nw r9)))), (5, .int ((zbq (zWt nw) (zSz nw r9) (zKd nw r9) k).1)), (6, .int ((zbq (zWt nw) (zSz nw r9) (zKd nw r9) k).2))]) hx hb dL_best_119 hl (k := 8) rfl (z_inc1 _) (by decide) rfl (fun ls hl => ?_)
          refine lv_goto (tgt := 14) hx hb dL_best_122 (by decide) ?_
          have hl9 := lv_sub hl [3, 4, 5, 6, 7, 8, 0] (l' := [(0, .ref (ad 287)), (1, .ref (ba)), (2, .int (nI (r9))), (3, .long (lN (zLn (zKd nw r9) (zSz nw r9)))), (5, .int ((zbq (zWt nw) (zSz nw r9) (zKd nw r9) k).1)), (6, .int ((zbq (zWt nw) (zSz nw r9) (zKd nw r9) k).2)), (7, .int (nI (k + 1)))]) rfl
          have e9_5 : ((zbq (zWt nw) (zSz nw r9) (zKd nw r9) k).1) = ((zbq (zWt nw) (zSz nw r9) (zKd nw r9) (k + 1)).1) := by rw [zbq_o ⟨hb4.1, hb4.2.1⟩ (Or.inl (by omega))]
          have e9_6 : ((zbq (zWt nw) (zSz nw r9) (zKd nw r9) k).2) = ((zbq (zWt nw) (zSz nw r9) (zKd nw r9) (k + 1)).2) := by rw [zbq_o ⟨hb4.1, hb4.2.1⟩ (Or.inl (by omega))]
          have e9_7 : (k + 1) = ((k + 1)) := by omega
          exact ih14 (k + 1) (by omega) (by omega) ls (by rw [← e9_5, ← e9_6, ← e9_7]; exact hl9)
        · refine lv_iload hx hb dL_best_43 (lv_at hl 0 rfl) ?_
          refine lv_lload_n hx hb dL_best_45 rfl (lv_at hl 5 rfl) ?_
          refine z_roSX (As := [.long (lN (zLn (zKd nw r9) (zSz nw r9)))]) (rest := [.int (nI (k % 16))]) S hG (c_L_slots E hs4 hk4) 1 gL_best_L_slots rfl kL_slots.2 ⟨Nat.le_of_ble_eq_true rfl, Nat.le_of_ble_eq_true rfl⟩ ⟨Nat.zero_le _, Nat.zero_le _⟩ (trivial) rfl hl.1 rfl rfl (Nat.le_of_ble_eq_true rfl) dL_best_46 ?_
          refine z_cge (tgt := 119) hx hb dL_best_49 (by decide) ⟨by omega, by omega⟩ (fun c_7 => ?_) (fun c_7 => ?_)
          · refine lv_iinc (v := nI (k + 1)) (lv' := [(7, .int (nI (k + 1))), (9, .int (nI (k % 16))), (8, .int (nI (k / 16))), (0, .ref (ad 287)), (1, .ref (ba)), (2, .int (nI (r9))), (3, .long (lN (zLn (zKd nw r9) (zSz nw r9)))), (5, .int ((zbq (zWt nw) (zSz nw r9) (zKd nw r9) k).1)), (6, .int ((zbq (zWt nw) (zSz nw r9) (zKd nw r9) k).2))]) hx hb dL_best_119 hl (k := 8) rfl (z_inc1 _) (by decide) rfl (fun ls hl => ?_)
            refine lv_goto (tgt := 14) hx hb dL_best_122 (by decide) ?_
            have hl9 := lv_sub hl [3, 4, 5, 6, 7, 8, 0] (l' := [(0, .ref (ad 287)), (1, .ref (ba)), (2, .int (nI (r9))), (3, .long (lN (zLn (zKd nw r9) (zSz nw r9)))), (5, .int ((zbq (zWt nw) (zSz nw r9) (zKd nw r9) k).1)), (6, .int ((zbq (zWt nw) (zSz nw r9) (zKd nw r9) k).2)), (7, .int (nI (k + 1)))]) rfl
            have e9_5 : ((zbq (zWt nw) (zSz nw r9) (zKd nw r9) k).1) = ((zbq (zWt nw) (zSz nw r9) (zKd nw r9) (k + 1)).1) := by rw [zbq_o ⟨hb4.1, hb4.2.1⟩ (Or.inr (by omega))]
            have e9_6 : ((zbq (zWt nw) (zSz nw r9) (zKd nw r9) k).2) = ((zbq (zWt nw) (zSz nw r9) (zKd nw r9) (k + 1)).2) := by rw [zbq_o ⟨hb4.1, hb4.2.1⟩ (Or.inr (by omega))]
            have e9_7 : (k + 1) = ((k + 1)) := by omega
            exact ih14 (k + 1) (by omega) (by omega) ls (by rw [← e9_5, ← e9_6, ← e9_7]; exact hl9)
          · refine lv_aload_n hx hb dL_best_52 rfl (lv_at hl 3 rfl) ?_
            refine lv_lload_n hx hb dL_best_53 rfl (lv_at hl 5 rfl) ?_
            refine lv_iload hx hb dL_best_54 (lv_at hl 1 rfl) ?_
            refine lv_lload_n hx hb dL_best_56 rfl (lv_at hl 5 rfl) ?_
            refine lv_iload hx hb dL_best_57 (lv_at hl 0 rfl) ?_
            refine z_roSX (As := [.long (lN (zLn (zKd nw r9) (zSz nw r9))), .int (nI (k % 16))]) (rest := [.int (nI (k / 16)), .long (lN (zLn (zKd nw r9) (zSz nw r9))), .ref (ba)]) S hG (c_L_kind E (j := k % 16) hs4 hk4 (by omega)) 2 gL_best_L_kind rfl kL_kind.2 ⟨Nat.le_of_ble_eq_true rfl, Nat.le_of_ble_eq_true rfl⟩ ⟨Nat.zero_le _, Nat.zero_le _⟩ (trivial) rfl hl.1 rfl rfl (Nat.le_of_ble_eq_true rfl) dL_best_59 ?_
            refine z_roSX (As := [.long (lN (zLn (zKd nw r9) (zSz nw r9))), .int (nI (k / 16)), .int ((zKd nw r9) (k % 16))]) (rest := [.ref (ba)]) S hG (c_L_lay E (j := k / 16) (x := (zKd nw r9) (k % 16)) hs4 hk4 (by omega) (hk4 _ (by omega))) 3 gL_best_L_lay rfl kL_lay.2 ⟨Nat.le_of_ble_eq_true rfl, Nat.le_of_ble_eq_true rfl⟩ ⟨Nat.zero_le _, Nat.zero_le _⟩ (trivial) rfl hl.1 rfl rfl (Nat.le_of_ble_eq_true rfl) dL_best_62 ?_
            refine lv_iload hx hb dL_best_65 (lv_at hl 0 rfl) ?_
            refine lv_lload_n hx hb dL_best_67 rfl (lv_at hl 5 rfl) ?_
            refine lv_iload hx hb dL_best_68 (lv_at hl 1 rfl) ?_
            refine z_roSX (As := [.long (lN (zLn (zKd nw r9) (zSz nw r9))), .int (nI (k / 16))]) (rest := [.int (nI (k % 16)), .long (lN (zLn (upd (zKd nw r9) (k / 16) ((zKd nw r9) (k % 16))) (zSz nw r9))), .ref (ba)]) S hG (c_L_kind E (j := k / 16) hs4 hk4 (by omega)) 2 gL_best_L_kind rfl kL_kind.2 ⟨Nat.le_of_ble_eq_true rfl, Nat.le_of_ble_eq_true rfl⟩ ⟨Nat.zero_le _, Nat.zero_le _⟩ (trivial) rfl hl.1 rfl rfl (Nat.le_of_ble_eq_true rfl) dL_best_70 ?_
            refine z_roSX (As := [.long (lN (zLn (upd (zKd nw r9) (k / 16) ((zKd nw r9) (k % 16))) (zSz nw r9))), .int (nI (k % 16)), .int ((zKd nw r9) (k / 16))]) (rest := [.ref (ba)]) S hG (c_L_lay E (f := upd (zKd nw r9) (k / 16) ((zKd nw r9) (k % 16))) (j := k % 16) (x := (zKd nw r9) (k / 16)) hs4 (zup_kk hk4 (hk4 _ (by omega))) (by omega) (hk4 _ (by omega))) 3 gL_best_L_lay rfl kL_lay.2 ⟨Nat.le_of_ble_eq_true rfl, Nat.le_of_ble_eq_true rfl⟩ ⟨Nat.zero_le _, Nat.zero_le _⟩ (trivial) rfl hl.1 rfl rfl (Nat.le_of_ble_eq_true rfl) dL_best_73 ?_
            refine z_topl (y := lN (zLn (zxc (zKd nw r9) (k / 16) (k % 16)) (zSz nw r9))) (rfl) ?_
            refine z_roSX (As := [.ref (ba), .long (lN (zLn (zxc (zKd nw r9) (k / 16) (k % 16)) (zSz nw r9)))]) (rest := []) S hG (c_L_lean E (bb := bb) (f := zxc (zKd nw r9) (k / 16) (k % 16)) hs4 (fun s9 h9 => zxc_k hk4 (by omega) (by omega) h9)) 2 gL_best_L_lean rfl kL_lean.2 ⟨Nat.le_of_ble_eq_true rfl, Nat.le_of_ble_eq_true rfl⟩ ⟨Nat.zero_le _, Nat.zero_le _⟩ (hr2) rfl hl.1 rfl rfl (Nat.le_of_ble_eq_true rfl) dL_best_76 ?_
            refine z_top (y := (zlean (zWt nw) (zSz nw r9) (zxc (zKd nw r9) (k / 16) (k % 16)))) (zlean_cg hs4 hwt (fun s9 h9 => zxc_k hk4 (by omega) (by omega) h9)) ?_
            refine lv_istore (lv' := [(10, .int (zlean (zWt nw) (zSz nw r9) (zxc (zKd nw r9) (k / 16) (k % 16)))), (9, .int (nI (k % 16))), (8, .int (nI (k / 16))), (0, .ref (ad 287)), (1, .ref (ba)), (2, .int (nI (r9))), (3, .long (lN (zLn (zKd nw r9) (zSz nw r9)))), (5, .int ((zbq (zWt nw) (zSz nw r9) (zKd nw r9) k).1)), (6, .int ((zbq (zWt nw) (zSz nw r9) (zKd nw r9) k).2)), (7, .int (nI (k)))]) hx hb dL_best_79 hl (by decide) rfl (fun ls hl => ?_)
            refine lv_iload hx hb dL_best_81 (lv_at hl 0 rfl) ?_
            refine lv_iload hx hb dL_best_83 (lv_at hl 8 rfl) ?_
            refine lv_icmp_ge (tgt := 99) hx hb dL_best_85 (by decide) (fun c_8 => ?_) (fun c_8 => ?_)
            · refine lv_iload hx hb dL_best_99 (lv_at hl 7 rfl) ?_
              refine lv_istore (lv' := [(5, .int ((zbq (zWt nw) (zSz nw r9) (zKd nw r9) k).1)), (10, .int (zlean (zWt nw) (zSz nw r9) (zxc (zKd nw r9) (k / 16) (k % 16)))), (9, .int (nI (k % 16))), (8, .int (nI (k / 16))), (0, .ref (ad 287)), (1, .ref (ba)), (2, .int (nI (r9))), (3, .long (lN (zLn (zKd nw r9) (zSz nw r9)))), (6, .int ((zbq (zWt nw) (zSz nw r9) (zKd nw r9) k).2)), (7, .int (nI (k)))]) hx hb dL_best_101 hl (by decide) rfl (fun ls hl => ?_)
              refine lv_iload hx hb dL_best_103 (lv_at hl 1 rfl) ?_
              refine lv_iload hx hb dL_best_105 (lv_at hl 8 rfl) ?_
              refine lv_icmp_ge (tgt := 115) hx hb dL_best_107 (by decide) (fun c_9 => ?_) (fun c_9 => by exfalso; exact c_9 c_8)
              refine lv_iload hx hb dL_best_115 (lv_at hl 8 rfl) ?_
              refine lv_istore (lv' := [(6, .int ((zbq (zWt nw) (zSz nw r9) (zKd nw r9) k).2)), (5, .int ((zbq (zWt nw) (zSz nw r9) (zKd nw r9) k).1)), (10, .int (zlean (zWt nw) (zSz nw r9) (zxc (zKd nw r9) (k / 16) (k % 16)))), (9, .int (nI (k % 16))), (8, .int (nI (k / 16))), (0, .ref (ad 287)), (1, .ref (ba)), (2, .int (nI (r9))), (3, .long (lN (zLn (zKd nw r9) (zSz nw r9)))), (7, .int (nI (k)))]) hx hb dL_best_117 hl (by decide) rfl (fun ls hl => ?_)
              refine lv_iinc (v := nI (k + 1)) (lv' := [(7, .int (nI (k + 1))), (6, .int ((zbq (zWt nw) (zSz nw r9) (zKd nw r9) k).2)), (5, .int ((zbq (zWt nw) (zSz nw r9) (zKd nw r9) k).1)), (10, .int (zlean (zWt nw) (zSz nw r9) (zxc (zKd nw r9) (k / 16) (k % 16)))), (9, .int (nI (k % 16))), (8, .int (nI (k / 16))), (0, .ref (ad 287)), (1, .ref (ba)), (2, .int (nI (r9))), (3, .long (lN (zLn (zKd nw r9) (zSz nw r9))))]) hx hb dL_best_119 hl (k := 9) rfl (z_inc1 _) (by decide) rfl (fun ls hl => ?_)
              refine lv_goto (tgt := 14) hx hb dL_best_122 (by decide) ?_
              have hl9 := lv_sub hl [6, 7, 8, 9, 2, 1, 0] (l' := [(0, .ref (ad 287)), (1, .ref (ba)), (2, .int (nI (r9))), (3, .long (lN (zLn (zKd nw r9) (zSz nw r9)))), (5, .int ((zbq (zWt nw) (zSz nw r9) (zKd nw r9) k).1)), (6, .int ((zbq (zWt nw) (zSz nw r9) (zKd nw r9) k).2)), (7, .int (nI (k + 1)))]) rfl
              have e9_5 : ((zbq (zWt nw) (zSz nw r9) (zKd nw r9) k).1) = ((zbq (zWt nw) (zSz nw r9) (zKd nw r9) (k + 1)).1) := by rw [zbq_n ⟨hb4.1, hb4.2.1⟩ (by omega) (by omega) (by assumption)]
              have e9_6 : ((zbq (zWt nw) (zSz nw r9) (zKd nw r9) k).2) = ((zbq (zWt nw) (zSz nw r9) (zKd nw r9) (k + 1)).2) := by rw [zbq_n ⟨hb4.1, hb4.2.1⟩ (by omega) (by omega) (by assumption)]
              have e9_7 : (k + 1) = ((k + 1)) := by omega
              exact ih14 (k + 1) (by omega) (by omega) ls (by rw [← e9_5, ← e9_6, ← e9_7]; exact hl9)
            · refine lv_bipush (v := nI (100)) hx hb dL_best_88 (by decide) ?_
              refine lv_iload hx hb dL_best_90 (lv_at hl 2 rfl) ?_
              refine z_imul hx hb dL_best_92 ?_
              refine lv_iload hx hb dL_best_93 (lv_at hl 1 rfl) ?_
              refine z_iadd hx hb dL_best_95 ?_
              refine lv_goto (tgt := 101) hx hb dL_best_96 (by decide) ?_
              refine lv_istore (lv' := [(5, .int (nI ((100 * (k / 16)) + (k % 16)))), (10, .int (zlean (zWt nw) (zSz nw r9) (zxc (zKd nw r9) (k / 16) (k % 16)))), (9, .int (nI (k % 16))), (8, .int (nI (k / 16))), (0, .ref (ad 287)), (1, .ref (ba)), (2, .int (nI (r9))), (3, .long (lN (zLn (zKd nw r9) (zSz nw r9)))), (6, .int ((zbq (zWt nw) (zSz nw r9) (zKd nw r9) k).2)), (7, .int (nI (k)))]) hx hb dL_best_101 hl (by decide) rfl (fun ls hl => ?_)
              refine lv_iload hx hb dL_best_103 (lv_at hl 1 rfl) ?_
              refine lv_iload hx hb dL_best_105 (lv_at hl 8 rfl) ?_
              refine lv_icmp_ge (tgt := 115) hx hb dL_best_107 (by decide) (fun c_10 => by exfalso; exact c_8 c_10) (fun c_10 => ?_)
              refine lv_iload hx hb dL_best_110 (lv_at hl 1 rfl) ?_
              refine lv_goto (tgt := 117) hx hb dL_best_112 (by decide) ?_
              refine lv_istore (lv' := [(6, .int (zlean (zWt nw) (zSz nw r9) (zxc (zKd nw r9) (k / 16) (k % 16)))), (5, .int (nI ((100 * (k / 16)) + (k % 16)))), (10, .int (zlean (zWt nw) (zSz nw r9) (zxc (zKd nw r9) (k / 16) (k % 16)))), (9, .int (nI (k % 16))), (8, .int (nI (k / 16))), (0, .ref (ad 287)), (1, .ref (ba)), (2, .int (nI (r9))), (3, .long (lN (zLn (zKd nw r9) (zSz nw r9)))), (7, .int (nI (k)))]) hx hb dL_best_117 hl (by decide) rfl (fun ls hl => ?_)
              refine lv_iinc (v := nI (k + 1)) (lv' := [(7, .int (nI (k + 1))), (6, .int (zlean (zWt nw) (zSz nw r9) (zxc (zKd nw r9) (k / 16) (k % 16)))), (5, .int (nI ((100 * (k / 16)) + (k % 16)))), (10, .int (zlean (zWt nw) (zSz nw r9) (zxc (zKd nw r9) (k / 16) (k % 16)))), (9, .int (nI (k % 16))), (8, .int (nI (k / 16))), (0, .ref (ad 287)), (1, .ref (ba)), (2, .int (nI (r9))), (3, .long (lN (zLn (zKd nw r9) (zSz nw r9))))]) hx hb dL_best_119 hl (k := 9) rfl (z_inc1 _) (by decide) rfl (fun ls hl => ?_)
              refine lv_goto (tgt := 14) hx hb dL_best_122 (by decide) ?_
              have hl9 := lv_sub hl [6, 7, 8, 9, 2, 1, 0] (l' := [(0, .ref (ad 287)), (1, .ref (ba)), (2, .int (nI (r9))), (3, .long (lN (zLn (zKd nw r9) (zSz nw r9)))), (5, .int (nI ((100 * (k / 16)) + (k % 16)))), (6, .int (zlean (zWt nw) (zSz nw r9) (zxc (zKd nw r9) (k / 16) (k % 16)))), (7, .int (nI (k + 1)))]) rfl
              have e9_5 : (nI ((100 * (k / 16)) + (k % 16))) = (((zbq (zWt nw) (zSz nw r9) (zKd nw r9) (k + 1)).1)) := by rw [zbq_y ⟨hb4.1, hb4.2.1⟩ (by omega) (by omega) (Int32.not_le.mp (by assumption))]
              have e9_6 : (zlean (zWt nw) (zSz nw r9) (zxc (zKd nw r9) (k / 16) (k % 16))) = ((zbq (zWt nw) (zSz nw r9) (zKd nw r9) (k + 1)).2) := by rw [zbq_y ⟨hb4.1, hb4.2.1⟩ (by omega) (by omega) (Int32.not_le.mp (by assumption))]
              have e9_7 : (k + 1) = ((k + 1)) := by omega
              exact ih14 (k + 1) (by omega) (by omega) ls (by rw [← e9_5, ← e9_6, ← e9_7]; exact hl9)
  have hl : lv_has ls 11 [(7, .int (nI (0))), (6, .int ((zbq (zWt nw) (zSz nw r9) (zKd nw r9) 0).2)), (5, .int ((zbq (zWt nw) (zSz nw r9) (zKd nw r9) 0).1)), (0, .ref (ad 287)), (1, .ref (ba)), (2, .int (nI (r9))), (3, .long (lN (zLn (zKd nw r9) (zSz nw r9))))] := by rw [zbq_0 hb4.1]; exact hl
  exact L14 ((256 - (0)) + 1) (0) (Nat.lt_succ_self _) (by omega) ls (lv_sub hl [3, 4, 5, 6, 2, 1, 0] rfl)
