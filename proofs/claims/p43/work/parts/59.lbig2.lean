set_option maxHeartbeats 4000000 in
set_option maxRecDepth 100000 in
theorem c_L_ring (E : zEnv) {ad : Nat → Nat} {nw sv : zS} {an : Bool} {hs : Nat → zS} {ct ln : Nat} {cd : Nat → Int32} {ra ba ga ea ca : Nat} {rr : Nat → Nat} {bb gg : Nat → Int32} {ee : Nat → Nat} {cc : Nat → Int32} {r9 : Nat} {x : Int32} (hok : zOk nw) (hrel : zRel nw rr bb gg ee cc) (hinj : zInj ad) (hct : ct ≤ 5) (hdis : ∀ q, (q = ra ∨ q = ba ∨ q = ga ∨ q = ea ∨ q = ca) → ¬ zAC ad q) (hr9 : r9 < 6) (hr0 : zSz nw r9 ≠ 0) : zWR E yL_ring wsL_ring 5 126 [.ref (ad 287), .ref (ba), .ref (ga), .int (nI (r9)), .long (lN (zLn (zKd nw r9) (zSz nw r9))), .int (x)] (fun H => zCW E ad nw sv an hs ct ln cd H ∧ zRows E ra ba ga ea ca rr bb gg ee cc H) (some (.int (nI 1))) (fun H => zCW E ad nw sv an hs ct ln cd H ∧ zRows E ra ba ga ea ca rr bb gg ee cc H) (zAC ad) := by
  refine zWR.ofZ (maxL := 18) rfl (Nat.le_of_ble_eq_true rfl) (fun p e s m args below meth c H Q hF hP hret ls hl => ?_)
  have S : CallFix p m c cL_ring 18 s args wsL_ring RL := hF.1
  have hG := hF.2
  obtain ⟨hx, hb, hml, hown, hts⟩ := id S
  have hS : va_S (zAC ad) H H [] := va_S.rf
  obtain ⟨locs, hlocs⟩ : ∃ x : List Loc, x = [] := ⟨_, rfl⟩
  rw [← hlocs] at hS ⊢
  have hz : H.size = H.size := rfl
  obtain ⟨hCW, hRW⟩ := id hP
  obtain ⟨hr1, hr2, hr3, hr4, hr5⟩ := id hRW
  obtain ⟨f5, h5⟩ := zCW_recv hCW
  obtain ⟨e1r, e2r, e3r, e4r, e5r⟩ := id hrel
  have hml := hok.2.2.2.1
  have hnl := hok.2.2.2.2.1
  have hs4 := hok.s4 hr9 hr0
  have hk4 := hok.k4 hr9
  have hb4 := hs4.b
  have hq4 := hs4.q
  have hwt : ∀ k, 1 ≤ k → k ≤ 5 → (fun k9 => bb (4 + k9)) k = zWt nw k := fun k h1 h2 => (e2r k h1 h2).2
  obtain ⟨lv, hlv0⟩ : ∃ y : Nat, y = zlw x 3 := ⟨_, rfl⟩
  have hlv : lv ≤ 2 := by have h9 := zlw_lt x (n := 3) (by decide); omega
  obtain ⟨sl, hsl0⟩ : ∃ y : Nat, y = zlw (x >>> (nI (2) &&& 31)) (zSz nw r9) := ⟨_, rfl⟩
  have hsl : sl < (zSz nw r9) := by rw [hsl0]; exact zlw_lt _ hb4.1
  obtain ⟨kq, hkq0⟩ : ∃ y : Nat, y = zlw (x >>> (nI (6) &&& 31)) 6 := ⟨_, rfl⟩
  have hkq : kq ≤ 5 := by have h9 := zlw_lt (x >>> (nI (6) &&& 31)) (n := 6) (by decide); omega
  obtain ⟨pp, hpp⟩ : ∃ y : Nat → Bool, y = zmt (zMl nw) (zSg nw) (zSz nw r9) (zKd nw r9) := ⟨_, rfl⟩
  have hL := zLn_62 hb4.2.1 hk4
  have hfx := zfx_pos (lv := lv) (f := (zKd nw r9)) hb4.1
  have hfx2 := zfx_le (n := (zSz nw r9)) (lv := lv) (f := (zKd nw r9))
  have hnc := znc_le (lv := lv) hb4.2.1
  have hl : lv_has ls 18 [(0, .ref (ad 287)), (1, .ref (ba)), (2, .ref (ga)), (3, .int (nI (r9))), (4, .long (lN (zLn (zKd nw r9) (zSz nw r9)))), (6, .int (x))] := hl
  refine lv_lload hx hb dL_ring_0 (lv_at hl 4 rfl) ?_
  refine z_roSX (As := [.long (lN (zLn (zKd nw r9) (zSz nw r9)))]) (rest := []) S hG (c_L_slots E hs4 hk4) 1 gL_ring_L_slots rfl kL_slots.2 ⟨Nat.le_of_ble_eq_true rfl, Nat.le_of_ble_eq_true rfl⟩ ⟨Nat.zero_le _, Nat.zero_le _⟩ (trivial) rfl hl.1 rfl rfl (Nat.le_of_ble_eq_true rfl) dL_ring_2 ?_
  refine lv_istore (lv' := [(7, .int (nI (zSz nw r9))), (0, .ref (ad 287)), (1, .ref (ba)), (2, .ref (ga)), (3, .int (nI (r9))), (4, .long (lN (zLn (zKd nw r9) (zSz nw r9)))), (6, .int (x))]) hx hb dL_ring_5 hl (by decide) rfl (fun ls hl => ?_)
  refine lv_iload hx hb dL_ring_7 (lv_at hl 0 rfl) ?_
  refine lv_iconst (v := nI (4)) hx hb dL_ring_9 (by decide) ?_
  refine z_idiv hx hb dL_ring_10 ⟨by omega, by omega, by omega⟩ ?_
  refine lv_istore (lv' := [(8, .int (nI ((zSz nw r9) / 4))), (7, .int (nI (zSz nw r9))), (0, .ref (ad 287)), (1, .ref (ba)), (2, .ref (ga)), (3, .int (nI (r9))), (4, .long (lN (zLn (zKd nw r9) (zSz nw r9)))), (6, .int (x))]) hx hb dL_ring_11 hl (by decide) rfl (fun ls hl => ?_)
  refine lv_iload hx hb dL_ring_13 (lv_at hl 7 rfl) ?_
  refine lv_iconst (v := nI (3)) hx hb dL_ring_15 (by decide) ?_
  refine z_roSX (As := [.int (x), .int (nI (3))]) (rest := []) S hG (c_L_low E (v := x) (n := 3) ⟨by omega, by omega⟩) 2 gL_ring_L_low rfl kL_low.2 ⟨Nat.le_of_ble_eq_true rfl, Nat.le_of_ble_eq_true rfl⟩ ⟨Nat.zero_le _, Nat.zero_le _⟩ (trivial) rfl hl.1 rfl rfl (Nat.le_of_ble_eq_true rfl) dL_ring_16 ?_
  refine z_top (y := nI (lv)) (by rw [hlv0]) ?_
  refine lv_istore (lv' := [(9, .int (nI (lv))), (8, .int (nI ((zSz nw r9) / 4))), (7, .int (nI (zSz nw r9))), (0, .ref (ad 287)), (1, .ref (ba)), (2, .ref (ga)), (3, .int (nI (r9))), (4, .long (lN (zLn (zKd nw r9) (zSz nw r9)))), (6, .int (x))]) hx hb dL_ring_19 hl (by decide) rfl (fun ls hl => ?_)
  refine lv_lload hx hb dL_ring_21 (lv_at hl 7 rfl) ?_
  refine lv_iload hx hb dL_ring_23 (lv_at hl 0 rfl) ?_
  refine z_roSX (As := [.long (lN (zLn (zKd nw r9) (zSz nw r9))), .int (nI (lv))]) (rest := []) S hG (c_L_least E (lv := lv) hs4 hk4 hlv) 2 gL_ring_L_least rfl kL_least.2 ⟨Nat.le_of_ble_eq_true rfl, Nat.le_of_ble_eq_true rfl⟩ ⟨Nat.zero_le _, Nat.zero_le _⟩ (trivial) rfl hl.1 rfl rfl (Nat.le_of_ble_eq_true rfl) dL_ring_25 ?_
  refine z_topl (y := lN (zLn (zimg (zSz nw r9) (zKd nw r9) (zls (zSz nw r9) (zKd nw r9) lv)) (zSz nw r9))) (rfl) ?_
  refine lv_lstore (lv' := [(10, .long (lN (zLn (zimg (zSz nw r9) (zKd nw r9) (zls (zSz nw r9) (zKd nw r9) lv)) (zSz nw r9)))), (9, .int (nI (lv))), (8, .int (nI ((zSz nw r9) / 4))), (7, .int (nI (zSz nw r9))), (0, .ref (ad 287)), (1, .ref (ba)), (2, .ref (ga)), (3, .int (nI (r9))), (4, .long (lN (zLn (zKd nw r9) (zSz nw r9)))), (6, .int (x))]) hx hb dL_ring_28 hl (by decide) rfl (fun ls hl => ?_)
  refine lv_aload_n hx hb dL_ring_30 rfl (lv_at hl 6 rfl) ?_
  refine lv_lload hx hb dL_ring_31 (lv_at hl 8 rfl) ?_
  refine z_roSX (As := [.ref (ga), .long (lN (zLn (zKd nw r9) (zSz nw r9)))]) (rest := []) S hG (c_L_places E (ml := zMl nw) (gg := gg) hs4 hk4 e3r hml) 2 gL_ring_L_places rfl kL_places.2 ⟨Nat.le_of_ble_eq_true rfl, Nat.le_of_ble_eq_true rfl⟩ ⟨Nat.zero_le _, Nat.zero_le _⟩ (hr3) rfl hl.1 rfl rfl (Nat.le_of_ble_eq_true rfl) dL_ring_33 ?_
  refine z_top (y := (zset pp (zSz nw r9))) (by rw [zmt_cg e4r, hpp]) ?_
  refine lv_istore (lv' := [(12, .int (zset pp (zSz nw r9))), (10, .long (lN (zLn (zimg (zSz nw r9) (zKd nw r9) (zls (zSz nw r9) (zKd nw r9) lv)) (zSz nw r9)))), (9, .int (nI (lv))), (8, .int (nI ((zSz nw r9) / 4))), (7, .int (nI (zSz nw r9))), (0, .ref (ad 287)), (1, .ref (ba)), (2, .ref (ga)), (3, .int (nI (r9))), (4, .long (lN (zLn (zKd nw r9) (zSz nw r9)))), (6, .int (x))]) hx hb dL_ring_36 hl (by decide) rfl (fun ls hl => ?_)
  refine lv_iconst (v := nI (0)) hx hb dL_ring_38 (by decide) ?_
  refine lv_istore (lv' := [(13, .int (nI (0))), (12, .int (zset pp (zSz nw r9))), (10, .long (lN (zLn (zimg (zSz nw r9) (zKd nw r9) (zls (zSz nw r9) (zKd nw r9) lv)) (zSz nw r9)))), (9, .int (nI (lv))), (8, .int (nI ((zSz nw r9) / 4))), (7, .int (nI (zSz nw r9))), (0, .ref (ad 287)), (1, .ref (ba)), (2, .ref (ga)), (3, .int (nI (r9))), (4, .long (lN (zLn (zKd nw r9) (zSz nw r9)))), (6, .int (x))]) hx hb dL_ring_39 hl (by decide) rfl (fun ls hl => ?_)
  refine lv_iconst (v := nI (0)) hx hb dL_ring_41 (by decide) ?_
  refine lv_istore (lv' := [(14, .int (nI (0))), (13, .int (nI (0))), (12, .int (zset pp (zSz nw r9))), (10, .long (lN (zLn (zimg (zSz nw r9) (zKd nw r9) (zls (zSz nw r9) (zKd nw r9) lv)) (zSz nw r9)))), (9, .int (nI (lv))), (8, .int (nI ((zSz nw r9) / 4))), (7, .int (nI (zSz nw r9))), (0, .ref (ad 287)), (1, .ref (ba)), (2, .ref (ga)), (3, .int (nI (r9))), (4, .long (lN (zLn (zKd nw r9) (zSz nw r9)))), (6, .int (x))]) hx hb dL_ring_42 hl (by decide) rfl (fun ls hl => ?_)
  refine lv_iconst (v := nI (0)) hx hb dL_ring_44 (by decide) ?_
  refine lv_istore (lv' := [(15, .int (nI (0))), (14, .int (nI (0))), (13, .int (nI (0))), (12, .int (zset pp (zSz nw r9))), (10, .long (lN (zLn (zimg (zSz nw r9) (zKd nw r9) (zls (zSz nw r9) (zKd nw r9) lv)) (zSz nw r9)))), (9, .int (nI (lv))), (8, .int (nI ((zSz nw r9) / 4))), (7, .int (nI (zSz nw r9))), (0, .ref (ad 287)), (1, .ref (ba)), (2, .ref (ga)), (3, .int (nI (r9))), (4, .long (lN (zLn (zKd nw r9) (zSz nw r9)))), (6, .int (x))]) hx hb dL_ring_45 hl (by decide) rfl (fun ls hl => ?_)
  have L47 : ∀ (dd : Nat) (i : Nat), (zSz nw r9) - i < dd → (i ≤ (zSz nw r9)) → ∀ (ls : Array Slot), lv_has ls 18 [(0, .ref (ad 287)), (1, .ref (ba)), (2, .ref (ga)), (3, .int (nI (r9))), (4, .long (lN (zLn (zKd nw r9) (zSz nw r9)))), (6, .int (x)), (7, .int (nI (zSz nw r9))), (8, .int (nI ((zSz nw r9) / 4))), (9, .int (nI (lv))), (10, .long (lN (zLn (zimg (zSz nw r9) (zKd nw r9) (zls (zSz nw r9) (zKd nw r9) lv)) (zSz nw r9)))), (12, .int (zset pp (zSz nw r9))), (13, .int (zset (zsq pp (zSz nw r9)) i)), (14, .int (nI (0))), (15, .int (nI (i)))] → W p (zl E) e (zRm 5 126) s m args below meth c H locs 0 0 Q (F0 m 47 ls []) := by
    intro dd
    induction dd with
    | zero => intro i hdd; exact absurd hdd (Nat.not_lt_zero _)
    | succ dd ih47 =>
      intro i hdd47 hi ls hl
      refine lv_iload hx hb dL_ring_47 (lv_at hl 13 rfl) ?_
      refine lv_iload hx hb dL_ring_49 (lv_at hl 6 rfl) ?_
      refine z_cge (tgt := 189) hx hb dL_ring_51 (by decide) ⟨by omega, by omega⟩ (fun c_1 => ?_) (fun c_1 => ?_)
      · refine lv_iconst (v := nI (0)) hx hb dL_ring_189 (by decide) ?_
        refine lv_istore (lv' := [(15, .int (nI (0))), (0, .ref (ad 287)), (1, .ref (ba)), (2, .ref (ga)), (3, .int (nI (r9))), (4, .long (lN (zLn (zKd nw r9) (zSz nw r9)))), (6, .int (x)), (7, .int (nI (zSz nw r9))), (8, .int (nI ((zSz nw r9) / 4))), (9, .int (nI (lv))), (10, .long (lN (zLn (zimg (zSz nw r9) (zKd nw r9) (zls (zSz nw r9) (zKd nw r9) lv)) (zSz nw r9)))), (12, .int (zset pp (zSz nw r9))), (13, .int (zset (zsq pp (zSz nw r9)) i)), (14, .int (nI (0)))]) hx hb dL_ring_190 hl (by decide) rfl (fun ls hl => ?_)
        have L192 : ∀ (dd : Nat) (u : Nat), 4 - u < dd → (u ≤ 4) → ∀ (ls : Array Slot), lv_has ls 18 [(0, .ref (ad 287)), (1, .ref (ba)), (2, .ref (ga)), (3, .int (nI (r9))), (4, .long (lN (zLn (zKd nw r9) (zSz nw r9)))), (6, .int (x)), (7, .int (nI (zSz nw r9))), (8, .int (nI ((zSz nw r9) / 4))), (9, .int (nI (lv))), (10, .long (lN (zLn (zimg (zSz nw r9) (zKd nw r9) (zls (zSz nw r9) (zKd nw r9) lv)) (zSz nw r9)))), (12, .int (zset pp (zSz nw r9))), (13, .int (zset (zsq pp (zSz nw r9)) i)), (14, .int (zset (fun u9 => decide (zdf (zSz nw r9) (zKd nw r9) (u9 * (zSz nw r9) / 4) (zKd nw r9) = 0)) u)), (15, .int (nI (u)))] → W p (zl E) e (zRm 5 126) s m args below meth c H locs 0 0 Q (F0 m 192 ls []) := by
          intro dd
          induction dd with
          | zero => intro u hdd; exact absurd hdd (Nat.not_lt_zero _)
          | succ dd ih192 =>
            intro u hdd192 hu ls hl
            refine lv_iload hx hb dL_ring_192 (lv_at hl 13 rfl) ?_
            refine lv_iconst (v := nI (4)) hx hb dL_ring_194 (by decide) ?_
            refine z_cge (tgt := 264) hx hb dL_ring_195 (by decide) ⟨by omega, by omega⟩ (fun c_2 => ?_) (fun c_2 => ?_)
            · refine lv_iload hx hb dL_ring_264 (lv_at hl 5 rfl) ?_
              refine lv_iconst (v := nI (2)) hx hb dL_ring_266 (by decide) ?_
              refine lv_ishr hx hb dL_ring_267 ?_
              refine lv_iload hx hb dL_ring_268 (lv_at hl 6 rfl) ?_
              refine z_roSX (As := [.int ((x) >>> (nI (2) &&& 31)), .int (nI (zSz nw r9))]) (rest := []) S hG (c_L_low E (v := x >>> (nI (2) &&& 31)) (n := (zSz nw r9)) ⟨by omega, by omega⟩) 2 gL_ring_L_low rfl kL_low.2 ⟨Nat.le_of_ble_eq_true rfl, Nat.le_of_ble_eq_true rfl⟩ ⟨Nat.zero_le _, Nat.zero_le _⟩ (trivial) rfl hl.1 rfl rfl (Nat.le_of_ble_eq_true rfl) dL_ring_270 ?_
              refine z_top (y := nI (sl)) (by rw [hsl0]) ?_
              refine lv_istore (lv' := [(15, .int (nI (sl))), (0, .ref (ad 287)), (1, .ref (ba)), (2, .ref (ga)), (3, .int (nI (r9))), (4, .long (lN (zLn (zKd nw r9) (zSz nw r9)))), (6, .int (x)), (7, .int (nI (zSz nw r9))), (8, .int (nI ((zSz nw r9) / 4))), (9, .int (nI (lv))), (10, .long (lN (zLn (zimg (zSz nw r9) (zKd nw r9) (zls (zSz nw r9) (zKd nw r9) lv)) (zSz nw r9)))), (12, .int (zset pp (zSz nw r9))), (13, .int (zset (zsq pp (zSz nw r9)) i)), (14, .int (zset (fun u9 => decide (zdf (zSz nw r9) (zKd nw r9) (u9 * (zSz nw r9) / 4) (zKd nw r9) = 0)) u))]) hx hb dL_ring_273 hl (by decide) rfl (fun ls hl => ?_)
              refine lv_iload hx hb dL_ring_275 (lv_at hl 6 rfl) ?_
              refine lv_bipush (v := nI (6)) hx hb dL_ring_277 (by decide) ?_
              refine lv_ishr hx hb dL_ring_279 ?_
              refine lv_bipush (v := nI (6)) hx hb dL_ring_280 (by decide) ?_
              refine z_roSX (As := [.int ((x) >>> (nI (6) &&& 31)), .int (nI (6))]) (rest := []) S hG (c_L_low E (v := x >>> (nI (6) &&& 31)) (n := 6) ⟨by omega, by omega⟩) 2 gL_ring_L_low rfl kL_low.2 ⟨Nat.le_of_ble_eq_true rfl, Nat.le_of_ble_eq_true rfl⟩ ⟨Nat.zero_le _, Nat.zero_le _⟩ (trivial) rfl hl.1 rfl rfl (Nat.le_of_ble_eq_true rfl) dL_ring_282 ?_
              refine z_top (y := nI (kq)) (by rw [hkq0]) ?_
              refine lv_istore (lv' := [(16, .int (nI (kq))), (15, .int (nI (sl))), (0, .ref (ad 287)), (1, .ref (ba)), (2, .ref (ga)), (3, .int (nI (r9))), (4, .long (lN (zLn (zKd nw r9) (zSz nw r9)))), (6, .int (x)), (7, .int (nI (zSz nw r9))), (8, .int (nI ((zSz nw r9) / 4))), (9, .int (nI (lv))), (10, .long (lN (zLn (zimg (zSz nw r9) (zKd nw r9) (zls (zSz nw r9) (zKd nw r9) lv)) (zSz nw r9)))), (12, .int (zset pp (zSz nw r9))), (13, .int (zset (zsq pp (zSz nw r9)) i)), (14, .int (zset (fun u9 => decide (zdf (zSz nw r9) (zKd nw r9) (u9 * (zSz nw r9) / 4) (zKd nw r9) = 0)) u))]) hx hb dL_ring_285 hl (by decide) rfl (fun ls hl => ?_)
              refine lv_aload_n hx hb dL_ring_287 rfl (lv_at hl 2 rfl) ?_
              refine lv_iload_n hx hb dL_ring_288 rfl (lv_at hl 5 rfl) ?_
              refine lv_iconst (v := nI (0)) hx hb dL_ring_289 (by decide) ?_
              refine z_roV (As := [.int (nI (r9)), .int (nI (0))]) (rest := []) (q := (RX5, TX5, 7)) S hG (c_X5_bracelet_20 E (r := r9) hok hr9 hr0) 2 gL_ring_X5_bracelet rfl kX5_bracelet ⟨Nat.le_of_ble_eq_true rfl, Nat.le_of_ble_eq_true rfl⟩ ⟨Nat.zero_le _, Nat.zero_le _⟩ (hCW) rfl h5 rfl hl.1 rfl rfl (Nat.le_of_ble_eq_true rfl) dL_ring_290 ?_
              refine lv_iload hx hb dL_ring_293 (lv_at hl 8 rfl) ?_
              refine lv_icmp_ne (tgt := 388) hx hb dL_ring_295 (by decide) (fun c_3 => by exfalso; exact c_3 rfl) (fun c_3 => ?_)
              refine lv_aload_n hx hb dL_ring_298 rfl (lv_at hl 2 rfl) ?_
              refine lv_iload_n hx hb dL_ring_299 rfl (lv_at hl 5 rfl) ?_
              refine lv_iconst (v := nI (1)) hx hb dL_ring_300 (by decide) ?_
              refine z_roV (As := [.int (nI (r9)), .int (nI (1))]) (rest := []) (q := (RX5, TX5, 7)) S hG (c_X5_bracelet_21 E (r := r9) hok hr9 hr0) 2 gL_ring_X5_bracelet rfl kX5_bracelet ⟨Nat.le_of_ble_eq_true rfl, Nat.le_of_ble_eq_true rfl⟩ ⟨Nat.zero_le _, Nat.zero_le _⟩ (hCW) rfl h5 rfl hl.1 rfl rfl (Nat.le_of_ble_eq_true rfl) dL_ring_301 ?_
              refine lv_iload hx hb dL_ring_304 (lv_at hl 8 rfl) ?_
              refine lv_lload hx hb dL_ring_306 (lv_at hl 6 rfl) ?_
              refine lv_iconst (v := nI (0)) hx hb dL_ring_308 (by decide) ?_
              refine z_roSX (As := [.long (lN (zLn (zKd nw r9) (zSz nw r9))), .int (nI (0))]) (rest := [.int (nI (zSz nw r9)), .int (nI ((zSz nw r9) - zcn (zKd nw r9) 0 (zSz nw r9)))]) S hG (c_L_charms E (x := nI 0) hs4 hk4) 2 gL_ring_L_charms rfl kL_charms.2 ⟨Nat.le_of_ble_eq_true rfl, Nat.le_of_ble_eq_true rfl⟩ ⟨Nat.zero_le _, Nat.zero_le _⟩ (trivial) rfl hl.1 rfl rfl (Nat.le_of_ble_eq_true rfl) dL_ring_309 ?_
              refine z_top (y := nI (zcn (zKd nw r9) 0 (zSz nw r9))) (rfl) ?_
              refine z_isub hx hb dL_ring_312 (zcn_le _ _ _) ?_
              refine lv_icmp_ne (tgt := 388) hx hb dL_ring_313 (by decide) (fun c_4 => by exfalso; exact c_4 rfl) (fun c_4 => ?_)
              refine lv_aload_n hx hb dL_ring_316 rfl (lv_at hl 2 rfl) ?_
              refine lv_iload_n hx hb dL_ring_317 rfl (lv_at hl 5 rfl) ?_
              refine lv_iconst (v := nI (2)) hx hb dL_ring_318 (by decide) ?_
              refine z_roV (As := [.int (nI (r9)), .int (nI (2))]) (rest := []) (q := (RX5, TX5, 7)) S hG (c_X5_bracelet_22 E (r := r9) hok hr9 hr0) 2 gL_ring_X5_bracelet rfl kX5_bracelet ⟨Nat.le_of_ble_eq_true rfl, Nat.le_of_ble_eq_true rfl⟩ ⟨Nat.zero_le _, Nat.zero_le _⟩ (hCW) rfl h5 rfl hl.1 rfl rfl (Nat.le_of_ble_eq_true rfl) dL_ring_319 ?_
              refine lv_aload_n hx hb dL_ring_322 rfl (lv_at hl 3 rfl) ?_
              refine lv_lload hx hb dL_ring_323 (lv_at hl 6 rfl) ?_
              refine lv_iconst (v := nI (0)) hx hb dL_ring_325 (by decide) ?_
              refine lv_iload hx hb dL_ring_326 (lv_at hl 8 rfl) ?_
              refine z_roSX (As := [.ref (ba), .long (lN (zLn (zKd nw r9) (zSz nw r9))), .int (nI (0)), .int (nI (zSz nw r9))]) (rest := [.int (zqs (zWt nw) (zKd nw r9) 0 (zSz nw r9))]) S hG (c_L_weight E (bb := bb) (fa := 0) (tt := (zSz nw r9)) hs4 hk4 ⟨by omega, by omega⟩) 4 gL_ring_L_weight rfl kL_weight.2 ⟨Nat.le_of_ble_eq_true rfl, Nat.le_of_ble_eq_true rfl⟩ ⟨Nat.zero_le _, Nat.zero_le _⟩ (hr2) rfl hl.1 rfl rfl (Nat.le_of_ble_eq_true rfl) dL_ring_328 ?_
              refine z_top (y := (zqs (zWt nw) (zKd nw r9) 0 (zSz nw r9))) (by rw [Nat.sub_zero]; exact zqs_cg hwt (fun s9 h9 h8 => hk4 s9 (by omega))) ?_
              refine lv_icmp_ne (tgt := 388) hx hb dL_ring_331 (by decide) (fun c_5 => by exfalso; exact c_5 rfl) (fun c_5 => ?_)
              refine lv_aload_n hx hb dL_ring_334 rfl (lv_at hl 2 rfl) ?_
              refine lv_iload_n hx hb dL_ring_335 rfl (lv_at hl 5 rfl) ?_
              refine lv_iconst (v := nI (3)) hx hb dL_ring_336 (by decide) ?_
              refine z_roV (As := [.int (nI (r9)), .int (nI (3))]) (rest := []) (q := (RX5, TX5, 7)) S hG (c_X5_bracelet_23 E (r := r9) hok hr9 hr0) 2 gL_ring_X5_bracelet rfl kX5_bracelet ⟨Nat.le_of_ble_eq_true rfl, Nat.le_of_ble_eq_true rfl⟩ ⟨Nat.zero_le _, Nat.zero_le _⟩ (hCW) rfl h5 rfl hl.1 rfl rfl (Nat.le_of_ble_eq_true rfl) dL_ring_337 ?_
              refine lv_aload_n hx hb dL_ring_340 rfl (lv_at hl 3 rfl) ?_
              refine lv_lload hx hb dL_ring_341 (lv_at hl 6 rfl) ?_
              refine z_roSX (As := [.ref (ba), .long (lN (zLn (zKd nw r9) (zSz nw r9)))]) (rest := [.int (zlean (zWt nw) (zSz nw r9) (zKd nw r9))]) S hG (c_L_lean E (bb := bb) hs4 hk4) 2 gL_ring_L_lean rfl kL_lean.2 ⟨Nat.le_of_ble_eq_true rfl, Nat.le_of_ble_eq_true rfl⟩ ⟨Nat.zero_le _, Nat.zero_le _⟩ (hr2) rfl hl.1 rfl rfl (Nat.le_of_ble_eq_true rfl) dL_ring_343 ?_
              refine z_top (y := (zlean (zWt nw) (zSz nw r9) (zKd nw r9))) (zlean_cg hs4 hwt hk4) ?_
              refine lv_icmp_ne (tgt := 388) hx hb dL_ring_346 (by decide) (fun c_6 => by exfalso; exact c_6 rfl) (fun c_6 => ?_)
              refine lv_aload_n hx hb dL_ring_349 rfl (lv_at hl 2 rfl) ?_
              refine lv_iload_n hx hb dL_ring_350 rfl (lv_at hl 5 rfl) ?_
              refine lv_iload hx hb dL_ring_351 (lv_at hl 10 rfl) ?_
              refine z_roV (As := [.int (nI (r9)), .int (nI (lv))]) (rest := []) (q := (RX5, TX5, 7)) S hG (c_X5_orbit_2 E (r := r9) (lv := lv) hok hr9 hr0 hlv) 2 gL_ring_X5_orbit rfl kX5_orbit ⟨Nat.le_of_ble_eq_true rfl, Nat.le_of_ble_eq_true rfl⟩ ⟨Nat.zero_le _, Nat.zero_le _⟩ (hCW) rfl h5 rfl hl.1 rfl rfl (Nat.le_of_ble_eq_true rfl) dL_ring_353 ?_
              refine lv_lload hx hb dL_ring_356 (lv_at hl 6 rfl) ?_
              refine lv_iload hx hb dL_ring_358 (lv_at hl 10 rfl) ?_
              refine z_roSX (As := [.long (lN (zLn (zKd nw r9) (zSz nw r9))), .int (nI (lv))]) (rest := [.int (nI (zob (zSz nw r9) (zKd nw r9) lv))]) S hG (c_L_changes E (lv := lv) hs4 hk4 hlv) 2 gL_ring_L_changes rfl kL_changes.2 ⟨Nat.le_of_ble_eq_true rfl, Nat.le_of_ble_eq_true rfl⟩ ⟨Nat.zero_le _, Nat.zero_le _⟩ (trivial) rfl hl.1 rfl rfl (Nat.le_of_ble_eq_true rfl) dL_ring_360 ?_
              refine lv_lload hx hb dL_ring_363 (lv_at hl 6 rfl) ?_
              refine lv_iload hx hb dL_ring_365 (lv_at hl 10 rfl) ?_
              refine z_roSX (As := [.long (lN (zLn (zKd nw r9) (zSz nw r9))), .int (nI (lv))]) (rest := [.int (nI (znc lv (zSz nw r9))), .int (nI (zob (zSz nw r9) (zKd nw r9) lv))]) S hG (c_L_stays E (lv := lv) hs4 hk4 hlv) 2 gL_ring_L_stays rfl kL_stays.2 ⟨Nat.le_of_ble_eq_true rfl, Nat.le_of_ble_eq_true rfl⟩ ⟨Nat.zero_le _, Nat.zero_le _⟩ (trivial) rfl hl.1 rfl rfl (Nat.le_of_ble_eq_true rfl) dL_ring_367 ?_
              refine z_idiv hx hb dL_ring_370 ⟨by omega, by omega, by omega⟩ ?_
              refine z_top (y := nI (zob (zSz nw r9) (zKd nw r9) lv)) (by rw [zob_q hb4.1]) ?_
              refine lv_icmp_ne (tgt := 388) hx hb dL_ring_371 (by decide) (fun c_7 => by exfalso; exact c_7 rfl) (fun c_7 => ?_)
              refine lv_aload_n hx hb dL_ring_374 rfl (lv_at hl 2 rfl) ?_
              refine lv_iload_n hx hb dL_ring_375 rfl (lv_at hl 5 rfl) ?_
              refine z_roV (As := [.int (nI (r9))]) (rest := []) (q := (RX5, TX5, 7)) S hG (c_X5_fixed_1 E (r := r9) hok hr9 hr0) 1 gL_ring_X5_fixed rfl kX5_fixed ⟨Nat.le_of_ble_eq_true rfl, Nat.le_of_ble_eq_true rfl⟩ ⟨Nat.zero_le _, Nat.zero_le _⟩ (hCW) rfl h5 rfl hl.1 rfl rfl (Nat.le_of_ble_eq_true rfl) dL_ring_376 ?_
              refine lv_iload hx hb dL_ring_379 (lv_at hl 14 rfl) ?_
              refine lv_icmp_ne (tgt := 388) hx hb dL_ring_381 (by decide) (fun c_8 => by exfalso; exact c_8 (by rw [show u = 4 by omega])) (fun c_8 => ?_)
              refine lv_iconst (v := nI (1)) hx hb dL_ring_384 (by decide) ?_
              refine lv_goto (tgt := 389) hx hb dL_ring_385 (by decide) ?_
              refine lv_istore (lv' := [(17, .int (nI (1))), (16, .int (nI (kq))), (15, .int (nI (sl))), (0, .ref (ad 287)), (1, .ref (ba)), (2, .ref (ga)), (3, .int (nI (r9))), (4, .long (lN (zLn (zKd nw r9) (zSz nw r9)))), (6, .int (x)), (7, .int (nI (zSz nw r9))), (8, .int (nI ((zSz nw r9) / 4))), (9, .int (nI (lv))), (10, .long (lN (zLn (zimg (zSz nw r9) (zKd nw r9) (zls (zSz nw r9) (zKd nw r9) lv)) (zSz nw r9)))), (12, .int (zset pp (zSz nw r9))), (13, .int (zset (zsq pp (zSz nw r9)) i)), (14, .int (zset (fun u9 => decide (zdf (zSz nw r9) (zKd nw r9) (u9 * (zSz nw r9) / 4) (zKd nw r9) = 0)) u))]) hx hb dL_ring_389 hl (by decide) rfl (fun ls hl => ?_)
              refine lv_iload hx hb dL_ring_391 (lv_at hl 0 rfl) ?_
              refine z_feq (tgt := 459) hx hb dL_ring_393 (by decide) (by omega) (fun c_9 => by exfalso; omega) (fun c_9 => ?_)
              refine lv_aload_n hx hb dL_ring_396 rfl (lv_at hl 3 rfl) ?_
              refine lv_iload_n hx hb dL_ring_397 rfl (lv_at hl 6 rfl) ?_
              refine z_roV (As := [.int (nI (r9))]) (rest := []) (q := (RX5, TX5, 7)) S hG (c_X5_motifAt_1 E (r := r9) hok hr9 hr0) 1 gL_ring_X5_motifAt rfl kX5_motifAt ⟨Nat.le_of_ble_eq_true rfl, Nat.le_of_ble_eq_true rfl⟩ ⟨Nat.zero_le _, Nat.zero_le _⟩ (hCW) rfl h5 rfl hl.1 rfl rfl (Nat.le_of_ble_eq_true rfl) dL_ring_398 ?_
              refine z_top (y := (zset pp (zSz nw r9))) (by rw [← hpp]) ?_
              refine lv_iload hx hb dL_ring_401 (lv_at hl 13 rfl) ?_
              refine lv_icmp_ne (tgt := 459) hx hb dL_ring_403 (by decide) (fun c_10 => by exfalso; exact c_10 rfl) (fun c_10 => ?_)
              refine lv_aload_n hx hb dL_ring_406 rfl (lv_at hl 3 rfl) ?_
              refine lv_iload_n hx hb dL_ring_407 rfl (lv_at hl 6 rfl) ?_
              refine z_roV (As := [.int (nI (r9))]) (rest := []) (q := (RX5, TX5, 7)) S hG (c_X5_staysAt_1 E (r := r9) hok hr9 hr0) 1 gL_ring_X5_staysAt rfl kX5_staysAt ⟨Nat.le_of_ble_eq_true rfl, Nat.le_of_ble_eq_true rfl⟩ ⟨Nat.zero_le _, Nat.zero_le _⟩ (hCW) rfl h5 rfl hl.1 rfl rfl (Nat.le_of_ble_eq_true rfl) dL_ring_408 ?_
              refine z_top (y := (zset (zsq pp (zSz nw r9)) (zSz nw r9))) (by rw [← hpp, zst_q pp hs4]) ?_
              refine lv_iload hx hb dL_ring_411 (lv_at hl 14 rfl) ?_
              refine lv_icmp_ne (tgt := 459) hx hb dL_ring_413 (by decide) (fun c_11 => by exfalso; exact c_11 (by rw [show i = (zSz nw r9) by omega])) (fun c_11 => ?_)
              refine lv_aload_n hx hb dL_ring_416 rfl (lv_at hl 3 rfl) ?_
              refine lv_iload_n hx hb dL_ring_417 rfl (lv_at hl 6 rfl) ?_
              refine lv_iload hx hb dL_ring_418 (lv_at hl 2 rfl) ?_
              refine lv_iload hx hb dL_ring_420 (lv_at hl 1 rfl) ?_
              refine z_wrV (As := [.int (nI (r9)), .int (nI (sl)), .int (nI (kq))]) (rest := []) (q := (RX5, TX5, 7)) S hG (c_X5_ifHung_3 E (r := r9) (j := sl) (w := kq) hok hinj hct hr9 hr0 hsl hkq) 3 gL_ring_X5_ifHung rfl kX5_ifHung ⟨Nat.le_of_ble_eq_true rfl, Nat.le_of_ble_eq_true rfl⟩ ⟨Nat.zero_le _, Nat.zero_le _⟩ (hCW) rfl h5 rfl hl.1 rfl rfl (Nat.le_of_ble_eq_true rfl) dL_ring_422 hS (fun _ h => h) (fun Hn locs h_13 q_12 o_14 hS => ?_)
              have hz : Hn.size = H.size := q_12.trans hz
              have hCW := h_13
              obtain ⟨f5, h5⟩ := zCW_recv hCW
              have hRW := zRows_kept hRW (fun q hq => o_14 q (hdis q hq))
              obtain ⟨hr1, hr2, hr3, hr4, hr5⟩ := id hRW
              refine lv_aload_n hx hb dL_ring_425 rfl (lv_at hl 5 rfl) ?_
              refine lv_lload hx hb dL_ring_426 (lv_at hl 7 rfl) ?_
              refine lv_iload hx hb dL_ring_428 (lv_at hl 2 rfl) ?_
              refine lv_iload hx hb dL_ring_430 (lv_at hl 1 rfl) ?_
              refine z_roSX (As := [.long (lN (zLn (zKd nw r9) (zSz nw r9))), .int (nI (sl)), .int (nI (kq))]) (rest := [.ref (ga), .int (zjb (zset (zmt (zMl nw) (zSg nw) (zSz nw r9) (upd (zKd nw r9) sl (nI kq))) (zSz nw r9)))]) S hG (c_L_lay E (j := sl) (x := nI kq) hs4 hk4 hsl ⟨kq, hkq, rfl⟩) 3 gL_ring_L_lay rfl kL_lay.2 ⟨Nat.le_of_ble_eq_true rfl, Nat.le_of_ble_eq_true rfl⟩ ⟨Nat.zero_le _, Nat.zero_le _⟩ (trivial) rfl hl.1 rfl rfl (Nat.le_of_ble_eq_true rfl) dL_ring_432 ?_
              refine z_roSX (As := [.ref (ga), .long (lN (zLn (upd (zKd nw r9) sl (nI kq)) (zSz nw r9)))]) (rest := [.int (zjb (zset (zmt (zMl nw) (zSg nw) (zSz nw r9) (upd (zKd nw r9) sl (nI kq))) (zSz nw r9)))]) S hG (c_L_places E (ml := zMl nw) (gg := gg) (f := upd (zKd nw r9) sl (nI kq)) hs4 (zup_kk hk4 ⟨kq, hkq, rfl⟩) e3r hml) 2 gL_ring_L_places rfl kL_places.2 ⟨Nat.le_of_ble_eq_true rfl, Nat.le_of_ble_eq_true rfl⟩ ⟨Nat.zero_le _, Nat.zero_le _⟩ (hr3) rfl hl.1 rfl rfl (Nat.le_of_ble_eq_true rfl) dL_ring_435 ?_
              refine z_roSX (As := [.int (zset (zmt (zMl nw) gg (zSz nw r9) (upd (zKd nw r9) sl (nI kq))) (zSz nw r9))]) (rest := [.int (zjb (zset (zmt (zMl nw) (zSg nw) (zSz nw r9) (upd (zKd nw r9) sl (nI kq))) (zSz nw r9)))]) S hG (c_L_ones E (x := zset (zmt (zMl nw) gg (zSz nw r9) (upd (zKd nw r9) sl (nI kq))) (zSz nw r9))) 1 gL_ring_L_ones rfl kL_ones.2 ⟨Nat.le_of_ble_eq_true rfl, Nat.le_of_ble_eq_true rfl⟩ ⟨Nat.zero_le _, Nat.zero_le _⟩ (trivial) rfl hl.1 rfl rfl (Nat.le_of_ble_eq_true rfl) dL_ring_438 ?_
              refine lv_icmp_ne (tgt := 459) hx hb dL_ring_441 (by decide) (fun c_15 => by exfalso; exact c_15 (by rw [zmt_cg e4r, zjb_bc _ hb4.2.1])) (fun c_15 => ?_)
              refine lv_aload_n hx hb dL_ring_444 rfl (lv_at hl 3 rfl) ?_
              refine lv_iload_n hx hb dL_ring_445 rfl (lv_at hl 6 rfl) ?_
              refine lv_iload hx hb dL_ring_446 (lv_at hl 9 rfl) ?_
              refine z_roV (As := [.int (nI (r9)), .int (nI (zSz nw r9))]) (rest := []) (q := (RX5, TX5, 7)) S hG (c_X5_slot_1 E (r := r9) (y := nI (zSz nw r9)) hok hr9 hr0 (zin_n (Or.inr (by omega)) (by omega) (by omega) (by omega))) 2 gL_ring_X5_slot rfl kX5_slot ⟨Nat.le_of_ble_eq_true rfl, Nat.le_of_ble_eq_true rfl⟩ ⟨Nat.zero_le _, Nat.zero_le _⟩ (hCW) rfl h5 rfl hl.1 rfl rfl (Nat.le_of_ble_eq_true rfl) dL_ring_448 ?_
              refine lv_iconst (v := (-1)) hx hb dL_ring_451 (by decide) ?_
              refine lv_icmp_ne (tgt := 459) hx hb dL_ring_452 (by decide) (fun c_16 => by exfalso; exact c_16 rfl) (fun c_16 => ?_)
              refine lv_iconst (v := nI (1)) hx hb dL_ring_455 (by decide) ?_
              refine lv_goto (tgt := 460) hx hb dL_ring_456 (by decide) ?_
              exact hret _ _ _ _ _ hS (hz) dL_ring_460 (by first | exact Or.inl rfl | exact Or.inr rfl) (rfl) (⟨hCW, hRW⟩)
            · have hu5 : u * ((zSz nw r9) / 4) ≤ 3 * ((zSz nw r9) / 4) := Nat.mul_le_mul_right _ (by omega)
              refine lv_iload hx hb dL_ring_198 (lv_at hl 12 rfl) ?_
              refine lv_lload hx hb dL_ring_200 (lv_at hl 4 rfl) ?_
              refine lv_iload hx hb dL_ring_202 (lv_at hl 13 rfl) ?_
              refine lv_iload hx hb dL_ring_204 (lv_at hl 7 rfl) ?_
              refine z_imul hx hb dL_ring_206 ?_
              refine z_roSX (As := [.long (lN (zLn (zKd nw r9) (zSz nw r9))), .int (nI (u * ((zSz nw r9) / 4)))]) (rest := [.int (zset (fun u9 => decide (zdf (zSz nw r9) (zKd nw r9) (u9 * (zSz nw r9) / 4) (zKd nw r9) = 0)) u)]) S hG (c_L_rolledBy E (by9 := u * ((zSz nw r9) / 4)) hs4 hk4 (by omega)) 2 gL_ring_L_rolledBy rfl kL_rolledBy.2 ⟨Nat.le_of_ble_eq_true rfl, Nat.le_of_ble_eq_true rfl⟩ ⟨Nat.zero_le _, Nat.zero_le _⟩ (trivial) rfl hl.1 rfl rfl (Nat.le_of_ble_eq_true rfl) dL_ring_207 ?_
              refine lv_lload hx hb dL_ring_210 (lv_at hl 4 rfl) ?_
              refine W.lcmp hx hb dL_ring_212 ?_
              refine z_lne (tgt := 223) hx hb dL_ring_213 (by decide) ⟨by have h9 := zLn_62 (f := zimg (zSz nw r9) (zKd nw r9) (u * ((zSz nw r9) / 4))) hb4.2.1 (zLn_k hb4.1 hk4); omega, by omega⟩ (fun c_17 => ?_) (fun c_17 => ?_)
              · refine lv_iconst (v := nI (0)) hx hb dL_ring_223 (by decide) ?_
                refine lv_ior hx hb dL_ring_224 ?_
                refine lv_istore (lv' := [(14, .int ((zset (fun u9 => decide (zdf (zSz nw r9) (zKd nw r9) (u9 * (zSz nw r9) / 4) (zKd nw r9) = 0)) u) ||| nI (0))), (0, .ref (ad 287)), (1, .ref (ba)), (2, .ref (ga)), (3, .int (nI (r9))), (4, .long (lN (zLn (zKd nw r9) (zSz nw r9)))), (6, .int (x)), (7, .int (nI (zSz nw r9))), (8, .int (nI ((zSz nw r9) / 4))), (9, .int (nI (lv))), (10, .long (lN (zLn (zimg (zSz nw r9) (zKd nw r9) (zls (zSz nw r9) (zKd nw r9) lv)) (zSz nw r9)))), (12, .int (zset pp (zSz nw r9))), (13, .int (zset (zsq pp (zSz nw r9)) i)), (15, .int (nI (u)))]) hx hb dL_ring_225 hl (by decide) rfl (fun ls hl => ?_)
                refine lv_aload_n hx hb dL_ring_227 rfl (lv_at hl 1 rfl) ?_
                refine lv_iload_n hx hb dL_ring_228 rfl (lv_at hl 4 rfl) ?_
                refine lv_iload hx hb dL_ring_229 (lv_at hl 13 rfl) ?_
                refine z_roV (As := [.int (nI (r9)), .int (nI (u))]) (rest := []) (q := (RX5, TX5, 7)) S hG (c_X5_quarter_2 E (r := r9) (j := u) hok hr9 hr0 (by omega)) 2 gL_ring_X5_quarter rfl kX5_quarter ⟨Nat.le_of_ble_eq_true rfl, Nat.le_of_ble_eq_true rfl⟩ ⟨Nat.zero_le _, Nat.zero_le _⟩ (hCW) rfl h5 rfl hl.1 rfl rfl (Nat.le_of_ble_eq_true rfl) dL_ring_231 ?_
                refine lv_aload_n hx hb dL_ring_234 rfl (lv_at hl 2 rfl) ?_
                refine lv_lload hx hb dL_ring_235 (lv_at hl 5 rfl) ?_
                refine lv_iload hx hb dL_ring_237 (lv_at hl 13 rfl) ?_
                refine lv_iload hx hb dL_ring_239 (lv_at hl 8 rfl) ?_
                refine z_imul hx hb dL_ring_241 ?_
                refine lv_iload hx hb dL_ring_242 (lv_at hl 13 rfl) ?_
                refine lv_iload hx hb dL_ring_244 (lv_at hl 8 rfl) ?_
                refine z_imul hx hb dL_ring_246 ?_
                refine lv_iload hx hb dL_ring_247 (lv_at hl 8 rfl) ?_
                refine z_iadd hx hb dL_ring_249 ?_
                refine z_roSX (As := [.ref (ba), .long (lN (zLn (zKd nw r9) (zSz nw r9))), .int (nI (u * ((zSz nw r9) / 4))), .int (nI ((u * ((zSz nw r9) / 4)) + ((zSz nw r9) / 4)))]) (rest := [.int (zqw (zWt nw) (zSz nw r9) (zKd nw r9) u)]) S hG (c_L_weight E (bb := bb) (fa := u * ((zSz nw r9) / 4)) (tt := u * ((zSz nw r9) / 4) + (zSz nw r9) / 4) hs4 hk4 ⟨by omega, by omega⟩) 4 gL_ring_L_weight rfl kL_weight.2 ⟨Nat.le_of_ble_eq_true rfl, Nat.le_of_ble_eq_true rfl⟩ ⟨Nat.zero_le _, Nat.zero_le _⟩ (hr2) rfl hl.1 rfl rfl (Nat.le_of_ble_eq_true rfl) dL_ring_250 ?_
                refine z_top (y := (zqw (zWt nw) (zSz nw r9) (zKd nw r9) u)) (by rw [Nat.add_sub_cancel_left, zqw_4 hb4.2.2]; exact zqs_cg hwt (fun s9 h9 h8 => hk4 s9 (by omega))) ?_
                refine lv_icmp_eq (tgt := 258) hx hb dL_ring_253 (by decide) (fun c_18 => ?_) (fun c_18 => by exfalso; exact c_18 rfl)
                refine lv_iinc (v := nI (u + 1)) (lv' := [(15, .int (nI (u + 1))), (14, .int ((zset (fun u9 => decide (zdf (zSz nw r9) (zKd nw r9) (u9 * (zSz nw r9) / 4) (zKd nw r9) = 0)) u) ||| nI (0))), (0, .ref (ad 287)), (1, .ref (ba)), (2, .ref (ga)), (3, .int (nI (r9))), (4, .long (lN (zLn (zKd nw r9) (zSz nw r9)))), (6, .int (x)), (7, .int (nI (zSz nw r9))), (8, .int (nI ((zSz nw r9) / 4))), (9, .int (nI (lv))), (10, .long (lN (zLn (zimg (zSz nw r9) (zKd nw r9) (zls (zSz nw r9) (zKd nw r9) lv)) (zSz nw r9)))), (12, .int (zset pp (zSz nw r9))), (13, .int (zset (zsq pp (zSz nw r9)) i))]) hx hb dL_ring_258 hl (k := 13) rfl (z_inc1 _) (by decide) rfl (fun ls hl => ?_)
                refine lv_goto (tgt := 192) hx hb dL_ring_261 (by decide) ?_
                have hl9 := lv_sub hl [2, 3, 4, 5, 6, 7, 8, 9, 10, 11, 12, 13, 1, 0] (l' := [(0, .ref (ad 287)), (1, .ref (ba)), (2, .ref (ga)), (3, .int (nI (r9))), (4, .long (lN (zLn (zKd nw r9) (zSz nw r9)))), (6, .int (x)), (7, .int (nI (zSz nw r9))), (8, .int (nI ((zSz nw r9) / 4))), (9, .int (nI (lv))), (10, .long (lN (zLn (zimg (zSz nw r9) (zKd nw r9) (zls (zSz nw r9) (zKd nw r9) lv)) (zSz nw r9)))), (12, .int (zset pp (zSz nw r9))), (13, .int (zset (zsq pp (zSz nw r9)) i)), (14, .int ((zset (fun u9 => decide (zdf (zSz nw r9) (zKd nw r9) (u9 * (zSz nw r9) / 4) (zKd nw r9) = 0)) u) ||| nI (0))), (15, .int (nI (u + 1)))]) rfl
                have e9_14 : ((zset (fun u9 => decide (zdf (zSz nw r9) (zKd nw r9) (u9 * (zSz nw r9) / 4) (zKd nw r9) = 0)) u) ||| nI (0)) = (zset (fun u9 => decide (zdf (zSz nw r9) (zKd nw r9) (u9 * (zSz nw r9) / 4) (zKd nw r9) = 0)) (u + 1)) := by first | exact zset_t (decide_eq_true (by rw [znq hb4.2.2]; exact (zdf_0 hb4.1 hk4).mp (by assumption))) | exact zset_o (decide_eq_false (fun q9 => absurd ((zdf_0 hb4.1 hk4).mpr (by rw [znq hb4.2.2] at q9; exact q9)) (by assumption)))
                have e9_15 : (u + 1) = ((u + 1)) := by omega
                exact ih192 (u + 1) (by omega) (by omega) ls (by rw [← e9_14, ← e9_15]; exact hl9)
              · refine lv_iconst (v := nI (1)) hx hb dL_ring_216 (by decide) ?_
                refine lv_iload hx hb dL_ring_217 (lv_at hl 13 rfl) ?_
                refine lv_ishl hx hb dL_ring_219 ?_
                refine lv_goto (tgt := 224) hx hb dL_ring_220 (by decide) ?_
                refine lv_ior hx hb dL_ring_224 ?_
                refine lv_istore (lv' := [(14, .int ((zset (fun u9 => decide (zdf (zSz nw r9) (zKd nw r9) (u9 * (zSz nw r9) / 4) (zKd nw r9) = 0)) u) ||| (nI (1) <<< (nI (u) &&& 31)))), (0, .ref (ad 287)), (1, .ref (ba)), (2, .ref (ga)), (3, .int (nI (r9))), (4, .long (lN (zLn (zKd nw r9) (zSz nw r9)))), (6, .int (x)), (7, .int (nI (zSz nw r9))), (8, .int (nI ((zSz nw r9) / 4))), (9, .int (nI (lv))), (10, .long (lN (zLn (zimg (zSz nw r9) (zKd nw r9) (zls (zSz nw r9) (zKd nw r9) lv)) (zSz nw r9)))), (12, .int (zset pp (zSz nw r9))), (13, .int (zset (zsq pp (zSz nw r9)) i)), (15, .int (nI (u)))]) hx hb dL_ring_225 hl (by decide) rfl (fun ls hl => ?_)
                refine lv_aload_n hx hb dL_ring_227 rfl (lv_at hl 1 rfl) ?_
                refine lv_iload_n hx hb dL_ring_228 rfl (lv_at hl 4 rfl) ?_
                refine lv_iload hx hb dL_ring_229 (lv_at hl 13 rfl) ?_
                refine z_roV (As := [.int (nI (r9)), .int (nI (u))]) (rest := []) (q := (RX5, TX5, 7)) S hG (c_X5_quarter_2 E (r := r9) (j := u) hok hr9 hr0 (by omega)) 2 gL_ring_X5_quarter rfl kX5_quarter ⟨Nat.le_of_ble_eq_true rfl, Nat.le_of_ble_eq_true rfl⟩ ⟨Nat.zero_le _, Nat.zero_le _⟩ (hCW) rfl h5 rfl hl.1 rfl rfl (Nat.le_of_ble_eq_true rfl) dL_ring_231 ?_
                refine lv_aload_n hx hb dL_ring_234 rfl (lv_at hl 2 rfl) ?_
                refine lv_lload hx hb dL_ring_235 (lv_at hl 5 rfl) ?_
                refine lv_iload hx hb dL_ring_237 (lv_at hl 13 rfl) ?_
                refine lv_iload hx hb dL_ring_239 (lv_at hl 8 rfl) ?_
                refine z_imul hx hb dL_ring_241 ?_
                refine lv_iload hx hb dL_ring_242 (lv_at hl 13 rfl) ?_
                refine lv_iload hx hb dL_ring_244 (lv_at hl 8 rfl) ?_
                refine z_imul hx hb dL_ring_246 ?_
                refine lv_iload hx hb dL_ring_247 (lv_at hl 8 rfl) ?_
                refine z_iadd hx hb dL_ring_249 ?_
                refine z_roSX (As := [.ref (ba), .long (lN (zLn (zKd nw r9) (zSz nw r9))), .int (nI (u * ((zSz nw r9) / 4))), .int (nI ((u * ((zSz nw r9) / 4)) + ((zSz nw r9) / 4)))]) (rest := [.int (zqw (zWt nw) (zSz nw r9) (zKd nw r9) u)]) S hG (c_L_weight E (bb := bb) (fa := u * ((zSz nw r9) / 4)) (tt := u * ((zSz nw r9) / 4) + (zSz nw r9) / 4) hs4 hk4 ⟨by omega, by omega⟩) 4 gL_ring_L_weight rfl kL_weight.2 ⟨Nat.le_of_ble_eq_true rfl, Nat.le_of_ble_eq_true rfl⟩ ⟨Nat.zero_le _, Nat.zero_le _⟩ (hr2) rfl hl.1 rfl rfl (Nat.le_of_ble_eq_true rfl) dL_ring_250 ?_
                refine z_top (y := (zqw (zWt nw) (zSz nw r9) (zKd nw r9) u)) (by rw [Nat.add_sub_cancel_left, zqw_4 hb4.2.2]; exact zqs_cg hwt (fun s9 h9 h8 => hk4 s9 (by omega))) ?_
                refine lv_icmp_eq (tgt := 258) hx hb dL_ring_253 (by decide) (fun c_19 => ?_) (fun c_19 => by exfalso; exact c_19 rfl)
                refine lv_iinc (v := nI (u + 1)) (lv' := [(15, .int (nI (u + 1))), (14, .int ((zset (fun u9 => decide (zdf (zSz nw r9) (zKd nw r9) (u9 * (zSz nw r9) / 4) (zKd nw r9) = 0)) u) ||| (nI (1) <<< (nI (u) &&& 31)))), (0, .ref (ad 287)), (1, .ref (ba)), (2, .ref (ga)), (3, .int (nI (r9))), (4, .long (lN (zLn (zKd nw r9) (zSz nw r9)))), (6, .int (x)), (7, .int (nI (zSz nw r9))), (8, .int (nI ((zSz nw r9) / 4))), (9, .int (nI (lv))), (10, .long (lN (zLn (zimg (zSz nw r9) (zKd nw r9) (zls (zSz nw r9) (zKd nw r9) lv)) (zSz nw r9)))), (12, .int (zset pp (zSz nw r9))), (13, .int (zset (zsq pp (zSz nw r9)) i))]) hx hb dL_ring_258 hl (k := 13) rfl (z_inc1 _) (by decide) rfl (fun ls hl => ?_)
                refine lv_goto (tgt := 192) hx hb dL_ring_261 (by decide) ?_
                have hl9 := lv_sub hl [2, 3, 4, 5, 6, 7, 8, 9, 10, 11, 12, 13, 1, 0] (l' := [(0, .ref (ad 287)), (1, .ref (ba)), (2, .ref (ga)), (3, .int (nI (r9))), (4, .long (lN (zLn (zKd nw r9) (zSz nw r9)))), (6, .int (x)), (7, .int (nI (zSz nw r9))), (8, .int (nI ((zSz nw r9) / 4))), (9, .int (nI (lv))), (10, .long (lN (zLn (zimg (zSz nw r9) (zKd nw r9) (zls (zSz nw r9) (zKd nw r9) lv)) (zSz nw r9)))), (12, .int (zset pp (zSz nw r9))), (13, .int (zset (zsq pp (zSz nw r9)) i)), (14, .int ((zset (fun u9 => decide (zdf (zSz nw r9) (zKd nw r9) (u9 * (zSz nw r9) / 4) (zKd nw r9) = 0)) u) ||| (nI (1) <<< (nI (u) &&& 31)))), (15, .int (nI (u + 1)))]) rfl
                have e9_14 : ((zset (fun u9 => decide (zdf (zSz nw r9) (zKd nw r9) (u9 * (zSz nw r9) / 4) (zKd nw r9) = 0)) u) ||| (nI (1) <<< (nI (u) &&& 31))) = (zset (fun u9 => decide (zdf (zSz nw r9) (zKd nw r9) (u9 * (zSz nw r9) / 4) (zKd nw r9) = 0)) (u + 1)) := by first | exact zset_t (decide_eq_true (by rw [znq hb4.2.2]; exact (zdf_0 hb4.1 hk4).mp (by assumption))) | exact zset_o (decide_eq_false (fun q9 => absurd ((zdf_0 hb4.1 hk4).mpr (by rw [znq hb4.2.2] at q9; exact q9)) (by assumption)))
                have e9_15 : (u + 1) = ((u + 1)) := by omega
                exact ih192 (u + 1) (by omega) (by omega) ls (by rw [← e9_14, ← e9_15]; exact hl9)
        exact L192 ((4 - (0)) + 1) (0) (Nat.lt_succ_self _) (by omega) ls (lv_sub hl [1, 2, 3, 4, 5, 6, 7, 8, 9, 10, 11, 12, 13, 0] rfl)
      · refine lv_iload hx hb dL_ring_54 (lv_at hl 10 rfl) ?_
        refine lv_iload hx hb dL_ring_56 (lv_at hl 13 rfl) ?_
        refine lv_ishr hx hb dL_ring_58 ?_
        refine lv_iconst (v := nI (1)) hx hb dL_ring_59 (by decide) ?_
        refine lv_iand hx hb dL_ring_60 ?_
        refine lv_iconst (v := nI (1)) hx hb dL_ring_61 (by decide) ?_
        refine lv_icmp_ne (tgt := 124) hx hb dL_ring_62 (by decide) (fun c_20 => ?_) (fun c_20 => ?_)
        · have hn62 := zbf hb4.2.1 (show i < zSz nw r9 by omega) c_20
          refine lv_iconst (v := nI (0)) hx hb dL_ring_124 (by decide) ?_
          refine lv_istore (lv' := [(16, .int (nI (0))), (0, .ref (ad 287)), (1, .ref (ba)), (2, .ref (ga)), (3, .int (nI (r9))), (4, .long (lN (zLn (zKd nw r9) (zSz nw r9)))), (6, .int (x)), (7, .int (nI (zSz nw r9))), (8, .int (nI ((zSz nw r9) / 4))), (9, .int (nI (lv))), (10, .long (lN (zLn (zimg (zSz nw r9) (zKd nw r9) (zls (zSz nw r9) (zKd nw r9) lv)) (zSz nw r9)))), (12, .int (zset pp (zSz nw r9))), (13, .int (zset (zsq pp (zSz nw r9)) i)), (14, .int (nI (0))), (15, .int (nI (i)))]) hx hb dL_ring_125 hl (by decide) rfl (fun ls hl => ?_)
          refine lv_iload hx hb dL_ring_127 (lv_at hl 12 rfl) ?_
          refine lv_iload hx hb dL_ring_129 (lv_at hl 0 rfl) ?_
          refine z_feq (tgt := 141) hx hb dL_ring_131 (by decide) (by omega) (fun c_21 => ?_) (fun c_21 => by exfalso; omega)
          refine lv_iconst (v := nI (0)) hx hb dL_ring_141 (by decide) ?_
          refine lv_ior hx hb dL_ring_142 ?_
          refine lv_istore (lv' := [(13, .int ((zset (zsq pp (zSz nw r9)) i) ||| nI (0))), (16, .int (nI (0))), (0, .ref (ad 287)), (1, .ref (ba)), (2, .ref (ga)), (3, .int (nI (r9))), (4, .long (lN (zLn (zKd nw r9) (zSz nw r9)))), (6, .int (x)), (7, .int (nI (zSz nw r9))), (8, .int (nI ((zSz nw r9) / 4))), (9, .int (nI (lv))), (10, .long (lN (zLn (zimg (zSz nw r9) (zKd nw r9) (zls (zSz nw r9) (zKd nw r9) lv)) (zSz nw r9)))), (12, .int (zset pp (zSz nw r9))), (14, .int (nI (0))), (15, .int (nI (i)))]) hx hb dL_ring_143 hl (by decide) rfl (fun ls hl => ?_)
          refine lv_aload_n hx hb dL_ring_145 rfl (lv_at hl 2 rfl) ?_
          refine lv_iload_n hx hb dL_ring_146 rfl (lv_at hl 5 rfl) ?_
          refine lv_iload hx hb dL_ring_147 (lv_at hl 14 rfl) ?_
          refine z_roV (As := [.int (nI (r9)), .int (nI (i))]) (rest := []) (q := (RX5, TX5, 7)) S hG (c_X5_slot_2 E (r := r9) (j := i) hok hr9 hr0 (by omega)) 2 gL_ring_X5_slot rfl kX5_slot ⟨Nat.le_of_ble_eq_true rfl, Nat.le_of_ble_eq_true rfl⟩ ⟨Nat.zero_le _, Nat.zero_le _⟩ (hCW) rfl h5 rfl hl.1 rfl rfl (Nat.le_of_ble_eq_true rfl) dL_ring_149 ?_
          refine lv_lload hx hb dL_ring_152 (lv_at hl 6 rfl) ?_
          refine lv_iload hx hb dL_ring_154 (lv_at hl 14 rfl) ?_
          refine z_roSX (As := [.long (lN (zLn (zKd nw r9) (zSz nw r9))), .int (nI (i))]) (rest := [.int ((zKd nw r9) i)]) S hG (c_L_kind E (j := i) hs4 hk4 (by omega)) 2 gL_ring_L_kind rfl kL_kind.2 ⟨Nat.le_of_ble_eq_true rfl, Nat.le_of_ble_eq_true rfl⟩ ⟨Nat.zero_le _, Nat.zero_le _⟩ (trivial) rfl hl.1 rfl rfl (Nat.le_of_ble_eq_true rfl) dL_ring_156 ?_
          refine lv_icmp_ne (tgt := 181) hx hb dL_ring_159 (by decide) (fun c_22 => by exfalso; exact c_22 rfl) (fun c_22 => ?_)
          refine lv_aload_n hx hb dL_ring_162 rfl (lv_at hl 2 rfl) ?_
          refine lv_iload_n hx hb dL_ring_163 rfl (lv_at hl 5 rfl) ?_
          refine lv_iload hx hb dL_ring_164 (lv_at hl 10 rfl) ?_
          refine lv_iload hx hb dL_ring_166 (lv_at hl 14 rfl) ?_
          refine z_roV (As := [.int (nI (r9)), .int (nI (lv)), .int (nI (i))]) (rest := []) (q := (RX5, TX5, 7)) S hG (c_X5_least_3 E (r := r9) (j := i) (lv := lv) hok hr9 hr0 (by omega) hlv) 3 gL_ring_X5_least rfl kX5_least ⟨Nat.le_of_ble_eq_true rfl, Nat.le_of_ble_eq_true rfl⟩ ⟨Nat.zero_le _, Nat.zero_le _⟩ (hCW) rfl h5 rfl hl.1 rfl rfl (Nat.le_of_ble_eq_true rfl) dL_ring_168 ?_
          refine lv_lload hx hb dL_ring_171 (lv_at hl 11 rfl) ?_
          refine lv_iload hx hb dL_ring_173 (lv_at hl 14 rfl) ?_
          refine z_roSX (As := [.long (lN (zLn (zimg (zSz nw r9) (zKd nw r9) (zls (zSz nw r9) (zKd nw r9) lv)) (zSz nw r9))), .int (nI (i))]) (rest := [.int (zimg (zSz nw r9) (zKd nw r9) (zls (zSz nw r9) (zKd nw r9) lv) i)]) S hG (c_L_kind E (f := zimg (zSz nw r9) (zKd nw r9) (zls (zSz nw r9) (zKd nw r9) lv)) (j := i) hs4 (zLn_k hb4.1 hk4) (by omega)) 2 gL_ring_L_kind rfl kL_kind.2 ⟨Nat.le_of_ble_eq_true rfl, Nat.le_of_ble_eq_true rfl⟩ ⟨Nat.zero_le _, Nat.zero_le _⟩ (trivial) rfl hl.1 rfl rfl (Nat.le_of_ble_eq_true rfl) dL_ring_175 ?_
          refine lv_icmp_eq (tgt := 183) hx hb dL_ring_178 (by decide) (fun c_23 => ?_) (fun c_23 => by exfalso; exact c_23 rfl)
          refine lv_iinc (v := nI (i + 1)) (lv' := [(15, .int (nI (i + 1))), (13, .int ((zset (zsq pp (zSz nw r9)) i) ||| nI (0))), (16, .int (nI (0))), (0, .ref (ad 287)), (1, .ref (ba)), (2, .ref (ga)), (3, .int (nI (r9))), (4, .long (lN (zLn (zKd nw r9) (zSz nw r9)))), (6, .int (x)), (7, .int (nI (zSz nw r9))), (8, .int (nI ((zSz nw r9) / 4))), (9, .int (nI (lv))), (10, .long (lN (zLn (zimg (zSz nw r9) (zKd nw r9) (zls (zSz nw r9) (zKd nw r9) lv)) (zSz nw r9)))), (12, .int (zset pp (zSz nw r9))), (14, .int (nI (0)))]) hx hb dL_ring_183 hl (k := 14) rfl (z_inc1 _) (by decide) rfl (fun ls hl => ?_)
          refine lv_goto (tgt := 47) hx hb dL_ring_186 (by decide) ?_
          have hl9 := lv_sub hl [3, 4, 5, 6, 7, 8, 9, 10, 11, 12, 13, 1, 14, 0] (l' := [(0, .ref (ad 287)), (1, .ref (ba)), (2, .ref (ga)), (3, .int (nI (r9))), (4, .long (lN (zLn (zKd nw r9) (zSz nw r9)))), (6, .int (x)), (7, .int (nI (zSz nw r9))), (8, .int (nI ((zSz nw r9) / 4))), (9, .int (nI (lv))), (10, .long (lN (zLn (zimg (zSz nw r9) (zKd nw r9) (zls (zSz nw r9) (zKd nw r9) lv)) (zSz nw r9)))), (12, .int (zset pp (zSz nw r9))), (13, .int ((zset (zsq pp (zSz nw r9)) i) ||| nI (0))), (14, .int (nI (0))), (15, .int (nI (i + 1)))]) rfl
          have e9_13 : ((zset (zsq pp (zSz nw r9)) i) ||| nI (0)) = (zset (zsq pp (zSz nw r9)) (i + 1)) := by first | exact zset_t (by unfold zsq; rw [hp62, hp79, hp98, hp117]; rfl) | exact zset_o (by unfold zsq; rw [hn62]; rfl) | exact zset_o (by unfold zsq; rw [hn79, Bool.and_false]; rfl) | exact zset_o (by unfold zsq; rw [hn98, Bool.and_false]; rfl) | exact zset_o (by unfold zsq; rw [hn117, Bool.and_false])
          have e9_15 : (i + 1) = ((i + 1)) := by omega
          exact ih47 (i + 1) (by omega) (by omega) ls (by rw [← e9_13, ← e9_15]; exact hl9)
        · have hp62 := zbt hb4.2.1 (show i < zSz nw r9 by omega) c_20
          refine lv_iload hx hb dL_ring_65 (lv_at hl 10 rfl) ?_
          refine lv_iload hx hb dL_ring_67 (lv_at hl 13 rfl) ?_
          refine lv_iload hx hb dL_ring_69 (lv_at hl 7 rfl) ?_
          refine z_iadd hx hb dL_ring_71 ?_
          refine lv_iload hx hb dL_ring_72 (lv_at hl 6 rfl) ?_
          refine z_irem hx hb dL_ring_74 ⟨by omega, by omega, by omega⟩ ?_
          refine lv_ishr hx hb dL_ring_75 ?_
          refine lv_iconst (v := nI (1)) hx hb dL_ring_76 (by decide) ?_
          refine lv_iand hx hb dL_ring_77 ?_
          refine lv_iconst (v := nI (1)) hx hb dL_ring_78 (by decide) ?_
          refine lv_icmp_ne (tgt := 124) hx hb dL_ring_79 (by decide) (fun c_24 => ?_) (fun c_24 => ?_)
          · have hn79 := zbf hb4.2.1 (Nat.mod_lt (i + (zSz nw r9) / 4) hb4.1) c_24
            refine lv_iconst (v := nI (0)) hx hb dL_ring_124 (by decide) ?_
            refine lv_istore (lv' := [(16, .int (nI (0))), (0, .ref (ad 287)), (1, .ref (ba)), (2, .ref (ga)), (3, .int (nI (r9))), (4, .long (lN (zLn (zKd nw r9) (zSz nw r9)))), (6, .int (x)), (7, .int (nI (zSz nw r9))), (8, .int (nI ((zSz nw r9) / 4))), (9, .int (nI (lv))), (10, .long (lN (zLn (zimg (zSz nw r9) (zKd nw r9) (zls (zSz nw r9) (zKd nw r9) lv)) (zSz nw r9)))), (12, .int (zset pp (zSz nw r9))), (13, .int (zset (zsq pp (zSz nw r9)) i)), (14, .int (nI (0))), (15, .int (nI (i)))]) hx hb dL_ring_125 hl (by decide) rfl (fun ls hl => ?_)
            refine lv_iload hx hb dL_ring_127 (lv_at hl 12 rfl) ?_
            refine lv_iload hx hb dL_ring_129 (lv_at hl 0 rfl) ?_
            refine z_feq (tgt := 141) hx hb dL_ring_131 (by decide) (by omega) (fun c_25 => ?_) (fun c_25 => by exfalso; omega)
            refine lv_iconst (v := nI (0)) hx hb dL_ring_141 (by decide) ?_
            refine lv_ior hx hb dL_ring_142 ?_
            refine lv_istore (lv' := [(13, .int ((zset (zsq pp (zSz nw r9)) i) ||| nI (0))), (16, .int (nI (0))), (0, .ref (ad 287)), (1, .ref (ba)), (2, .ref (ga)), (3, .int (nI (r9))), (4, .long (lN (zLn (zKd nw r9) (zSz nw r9)))), (6, .int (x)), (7, .int (nI (zSz nw r9))), (8, .int (nI ((zSz nw r9) / 4))), (9, .int (nI (lv))), (10, .long (lN (zLn (zimg (zSz nw r9) (zKd nw r9) (zls (zSz nw r9) (zKd nw r9) lv)) (zSz nw r9)))), (12, .int (zset pp (zSz nw r9))), (14, .int (nI (0))), (15, .int (nI (i)))]) hx hb dL_ring_143 hl (by decide) rfl (fun ls hl => ?_)
            refine lv_aload_n hx hb dL_ring_145 rfl (lv_at hl 2 rfl) ?_
            refine lv_iload_n hx hb dL_ring_146 rfl (lv_at hl 5 rfl) ?_
            refine lv_iload hx hb dL_ring_147 (lv_at hl 14 rfl) ?_
            refine z_roV (As := [.int (nI (r9)), .int (nI (i))]) (rest := []) (q := (RX5, TX5, 7)) S hG (c_X5_slot_2 E (r := r9) (j := i) hok hr9 hr0 (by omega)) 2 gL_ring_X5_slot rfl kX5_slot ⟨Nat.le_of_ble_eq_true rfl, Nat.le_of_ble_eq_true rfl⟩ ⟨Nat.zero_le _, Nat.zero_le _⟩ (hCW) rfl h5 rfl hl.1 rfl rfl (Nat.le_of_ble_eq_true rfl) dL_ring_149 ?_
            refine lv_lload hx hb dL_ring_152 (lv_at hl 6 rfl) ?_
            refine lv_iload hx hb dL_ring_154 (lv_at hl 14 rfl) ?_
            refine z_roSX (As := [.long (lN (zLn (zKd nw r9) (zSz nw r9))), .int (nI (i))]) (rest := [.int ((zKd nw r9) i)]) S hG (c_L_kind E (j := i) hs4 hk4 (by omega)) 2 gL_ring_L_kind rfl kL_kind.2 ⟨Nat.le_of_ble_eq_true rfl, Nat.le_of_ble_eq_true rfl⟩ ⟨Nat.zero_le _, Nat.zero_le _⟩ (trivial) rfl hl.1 rfl rfl (Nat.le_of_ble_eq_true rfl) dL_ring_156 ?_
            refine lv_icmp_ne (tgt := 181) hx hb dL_ring_159 (by decide) (fun c_26 => by exfalso; exact c_26 rfl) (fun c_26 => ?_)
            refine lv_aload_n hx hb dL_ring_162 rfl (lv_at hl 2 rfl) ?_
            refine lv_iload_n hx hb dL_ring_163 rfl (lv_at hl 5 rfl) ?_
            refine lv_iload hx hb dL_ring_164 (lv_at hl 10 rfl) ?_
            refine lv_iload hx hb dL_ring_166 (lv_at hl 14 rfl) ?_
            refine z_roV (As := [.int (nI (r9)), .int (nI (lv)), .int (nI (i))]) (rest := []) (q := (RX5, TX5, 7)) S hG (c_X5_least_3 E (r := r9) (j := i) (lv := lv) hok hr9 hr0 (by omega) hlv) 3 gL_ring_X5_least rfl kX5_least ⟨Nat.le_of_ble_eq_true rfl, Nat.le_of_ble_eq_true rfl⟩ ⟨Nat.zero_le _, Nat.zero_le _⟩ (hCW) rfl h5 rfl hl.1 rfl rfl (Nat.le_of_ble_eq_true rfl) dL_ring_168 ?_
            refine lv_lload hx hb dL_ring_171 (lv_at hl 11 rfl) ?_
            refine lv_iload hx hb dL_ring_173 (lv_at hl 14 rfl) ?_
            refine z_roSX (As := [.long (lN (zLn (zimg (zSz nw r9) (zKd nw r9) (zls (zSz nw r9) (zKd nw r9) lv)) (zSz nw r9))), .int (nI (i))]) (rest := [.int (zimg (zSz nw r9) (zKd nw r9) (zls (zSz nw r9) (zKd nw r9) lv) i)]) S hG (c_L_kind E (f := zimg (zSz nw r9) (zKd nw r9) (zls (zSz nw r9) (zKd nw r9) lv)) (j := i) hs4 (zLn_k hb4.1 hk4) (by omega)) 2 gL_ring_L_kind rfl kL_kind.2 ⟨Nat.le_of_ble_eq_true rfl, Nat.le_of_ble_eq_true rfl⟩ ⟨Nat.zero_le _, Nat.zero_le _⟩ (trivial) rfl hl.1 rfl rfl (Nat.le_of_ble_eq_true rfl) dL_ring_175 ?_
            refine lv_icmp_eq (tgt := 183) hx hb dL_ring_178 (by decide) (fun c_27 => ?_) (fun c_27 => by exfalso; exact c_27 rfl)
            refine lv_iinc (v := nI (i + 1)) (lv' := [(15, .int (nI (i + 1))), (13, .int ((zset (zsq pp (zSz nw r9)) i) ||| nI (0))), (16, .int (nI (0))), (0, .ref (ad 287)), (1, .ref (ba)), (2, .ref (ga)), (3, .int (nI (r9))), (4, .long (lN (zLn (zKd nw r9) (zSz nw r9)))), (6, .int (x)), (7, .int (nI (zSz nw r9))), (8, .int (nI ((zSz nw r9) / 4))), (9, .int (nI (lv))), (10, .long (lN (zLn (zimg (zSz nw r9) (zKd nw r9) (zls (zSz nw r9) (zKd nw r9) lv)) (zSz nw r9)))), (12, .int (zset pp (zSz nw r9))), (14, .int (nI (0)))]) hx hb dL_ring_183 hl (k := 14) rfl (z_inc1 _) (by decide) rfl (fun ls hl => ?_)
            refine lv_goto (tgt := 47) hx hb dL_ring_186 (by decide) ?_
            have hl9 := lv_sub hl [3, 4, 5, 6, 7, 8, 9, 10, 11, 12, 13, 1, 14, 0] (l' := [(0, .ref (ad 287)), (1, .ref (ba)), (2, .ref (ga)), (3, .int (nI (r9))), (4, .long (lN (zLn (zKd nw r9) (zSz nw r9)))), (6, .int (x)), (7, .int (nI (zSz nw r9))), (8, .int (nI ((zSz nw r9) / 4))), (9, .int (nI (lv))), (10, .long (lN (zLn (zimg (zSz nw r9) (zKd nw r9) (zls (zSz nw r9) (zKd nw r9) lv)) (zSz nw r9)))), (12, .int (zset pp (zSz nw r9))), (13, .int ((zset (zsq pp (zSz nw r9)) i) ||| nI (0))), (14, .int (nI (0))), (15, .int (nI (i + 1)))]) rfl
            have e9_13 : ((zset (zsq pp (zSz nw r9)) i) ||| nI (0)) = (zset (zsq pp (zSz nw r9)) (i + 1)) := by first | exact zset_t (by unfold zsq; rw [hp62, hp79, hp98, hp117]; rfl) | exact zset_o (by unfold zsq; rw [hn62]; rfl) | exact zset_o (by unfold zsq; rw [hn79, Bool.and_false]; rfl) | exact zset_o (by unfold zsq; rw [hn98, Bool.and_false]; rfl) | exact zset_o (by unfold zsq; rw [hn117, Bool.and_false])
            have e9_15 : (i + 1) = ((i + 1)) := by omega
            exact ih47 (i + 1) (by omega) (by omega) ls (by rw [← e9_13, ← e9_15]; exact hl9)
          · have hp79 := zbt hb4.2.1 (Nat.mod_lt (i + (zSz nw r9) / 4) hb4.1) c_24
            refine lv_iload hx hb dL_ring_82 (lv_at hl 10 rfl) ?_
            refine lv_iload hx hb dL_ring_84 (lv_at hl 13 rfl) ?_
            refine lv_iconst (v := nI (2)) hx hb dL_ring_86 (by decide) ?_
            refine lv_iload hx hb dL_ring_87 (lv_at hl 7 rfl) ?_
            refine z_imul hx hb dL_ring_89 ?_
            refine z_iadd hx hb dL_ring_90 ?_
            refine lv_iload hx hb dL_ring_91 (lv_at hl 6 rfl) ?_
            refine z_irem hx hb dL_ring_93 ⟨by omega, by omega, by omega⟩ ?_
            refine lv_ishr hx hb dL_ring_94 ?_
            refine lv_iconst (v := nI (1)) hx hb dL_ring_95 (by decide) ?_
            refine lv_iand hx hb dL_ring_96 ?_
            refine lv_iconst (v := nI (1)) hx hb dL_ring_97 (by decide) ?_
            refine lv_icmp_ne (tgt := 124) hx hb dL_ring_98 (by decide) (fun c_28 => ?_) (fun c_28 => ?_)
            · have hn98 := zbf hb4.2.1 (Nat.mod_lt (i + 2 * ((zSz nw r9) / 4)) hb4.1) c_28
              refine lv_iconst (v := nI (0)) hx hb dL_ring_124 (by decide) ?_
              refine lv_istore (lv' := [(16, .int (nI (0))), (0, .ref (ad 287)), (1, .ref (ba)), (2, .ref (ga)), (3, .int (nI (r9))), (4, .long (lN (zLn (zKd nw r9) (zSz nw r9)))), (6, .int (x)), (7, .int (nI (zSz nw r9))), (8, .int (nI ((zSz nw r9) / 4))), (9, .int (nI (lv))), (10, .long (lN (zLn (zimg (zSz nw r9) (zKd nw r9) (zls (zSz nw r9) (zKd nw r9) lv)) (zSz nw r9)))), (12, .int (zset pp (zSz nw r9))), (13, .int (zset (zsq pp (zSz nw r9)) i)), (14, .int (nI (0))), (15, .int (nI (i)))]) hx hb dL_ring_125 hl (by decide) rfl (fun ls hl => ?_)
              refine lv_iload hx hb dL_ring_127 (lv_at hl 12 rfl) ?_
              refine lv_iload hx hb dL_ring_129 (lv_at hl 0 rfl) ?_
              refine z_feq (tgt := 141) hx hb dL_ring_131 (by decide) (by omega) (fun c_29 => ?_) (fun c_29 => by exfalso; omega)
              refine lv_iconst (v := nI (0)) hx hb dL_ring_141 (by decide) ?_
              refine lv_ior hx hb dL_ring_142 ?_
              refine lv_istore (lv' := [(13, .int ((zset (zsq pp (zSz nw r9)) i) ||| nI (0))), (16, .int (nI (0))), (0, .ref (ad 287)), (1, .ref (ba)), (2, .ref (ga)), (3, .int (nI (r9))), (4, .long (lN (zLn (zKd nw r9) (zSz nw r9)))), (6, .int (x)), (7, .int (nI (zSz nw r9))), (8, .int (nI ((zSz nw r9) / 4))), (9, .int (nI (lv))), (10, .long (lN (zLn (zimg (zSz nw r9) (zKd nw r9) (zls (zSz nw r9) (zKd nw r9) lv)) (zSz nw r9)))), (12, .int (zset pp (zSz nw r9))), (14, .int (nI (0))), (15, .int (nI (i)))]) hx hb dL_ring_143 hl (by decide) rfl (fun ls hl => ?_)
              refine lv_aload_n hx hb dL_ring_145 rfl (lv_at hl 2 rfl) ?_
              refine lv_iload_n hx hb dL_ring_146 rfl (lv_at hl 5 rfl) ?_
              refine lv_iload hx hb dL_ring_147 (lv_at hl 14 rfl) ?_
              refine z_roV (As := [.int (nI (r9)), .int (nI (i))]) (rest := []) (q := (RX5, TX5, 7)) S hG (c_X5_slot_2 E (r := r9) (j := i) hok hr9 hr0 (by omega)) 2 gL_ring_X5_slot rfl kX5_slot ⟨Nat.le_of_ble_eq_true rfl, Nat.le_of_ble_eq_true rfl⟩ ⟨Nat.zero_le _, Nat.zero_le _⟩ (hCW) rfl h5 rfl hl.1 rfl rfl (Nat.le_of_ble_eq_true rfl) dL_ring_149 ?_
              refine lv_lload hx hb dL_ring_152 (lv_at hl 6 rfl) ?_
              refine lv_iload hx hb dL_ring_154 (lv_at hl 14 rfl) ?_
              refine z_roSX (As := [.long (lN (zLn (zKd nw r9) (zSz nw r9))), .int (nI (i))]) (rest := [.int ((zKd nw r9) i)]) S hG (c_L_kind E (j := i) hs4 hk4 (by omega)) 2 gL_ring_L_kind rfl kL_kind.2 ⟨Nat.le_of_ble_eq_true rfl, Nat.le_of_ble_eq_true rfl⟩ ⟨Nat.zero_le _, Nat.zero_le _⟩ (trivial) rfl hl.1 rfl rfl (Nat.le_of_ble_eq_true rfl) dL_ring_156 ?_
              refine lv_icmp_ne (tgt := 181) hx hb dL_ring_159 (by decide) (fun c_30 => by exfalso; exact c_30 rfl) (fun c_30 => ?_)
              refine lv_aload_n hx hb dL_ring_162 rfl (lv_at hl 2 rfl) ?_
              refine lv_iload_n hx hb dL_ring_163 rfl (lv_at hl 5 rfl) ?_
              refine lv_iload hx hb dL_ring_164 (lv_at hl 10 rfl) ?_
              refine lv_iload hx hb dL_ring_166 (lv_at hl 14 rfl) ?_
              refine z_roV (As := [.int (nI (r9)), .int (nI (lv)), .int (nI (i))]) (rest := []) (q := (RX5, TX5, 7)) S hG (c_X5_least_3 E (r := r9) (j := i) (lv := lv) hok hr9 hr0 (by omega) hlv) 3 gL_ring_X5_least rfl kX5_least ⟨Nat.le_of_ble_eq_true rfl, Nat.le_of_ble_eq_true rfl⟩ ⟨Nat.zero_le _, Nat.zero_le _⟩ (hCW) rfl h5 rfl hl.1 rfl rfl (Nat.le_of_ble_eq_true rfl) dL_ring_168 ?_
              refine lv_lload hx hb dL_ring_171 (lv_at hl 11 rfl) ?_
              refine lv_iload hx hb dL_ring_173 (lv_at hl 14 rfl) ?_
              refine z_roSX (As := [.long (lN (zLn (zimg (zSz nw r9) (zKd nw r9) (zls (zSz nw r9) (zKd nw r9) lv)) (zSz nw r9))), .int (nI (i))]) (rest := [.int (zimg (zSz nw r9) (zKd nw r9) (zls (zSz nw r9) (zKd nw r9) lv) i)]) S hG (c_L_kind E (f := zimg (zSz nw r9) (zKd nw r9) (zls (zSz nw r9) (zKd nw r9) lv)) (j := i) hs4 (zLn_k hb4.1 hk4) (by omega)) 2 gL_ring_L_kind rfl kL_kind.2 ⟨Nat.le_of_ble_eq_true rfl, Nat.le_of_ble_eq_true rfl⟩ ⟨Nat.zero_le _, Nat.zero_le _⟩ (trivial) rfl hl.1 rfl rfl (Nat.le_of_ble_eq_true rfl) dL_ring_175 ?_
              refine lv_icmp_eq (tgt := 183) hx hb dL_ring_178 (by decide) (fun c_31 => ?_) (fun c_31 => by exfalso; exact c_31 rfl)
              refine lv_iinc (v := nI (i + 1)) (lv' := [(15, .int (nI (i + 1))), (13, .int ((zset (zsq pp (zSz nw r9)) i) ||| nI (0))), (16, .int (nI (0))), (0, .ref (ad 287)), (1, .ref (ba)), (2, .ref (ga)), (3, .int (nI (r9))), (4, .long (lN (zLn (zKd nw r9) (zSz nw r9)))), (6, .int (x)), (7, .int (nI (zSz nw r9))), (8, .int (nI ((zSz nw r9) / 4))), (9, .int (nI (lv))), (10, .long (lN (zLn (zimg (zSz nw r9) (zKd nw r9) (zls (zSz nw r9) (zKd nw r9) lv)) (zSz nw r9)))), (12, .int (zset pp (zSz nw r9))), (14, .int (nI (0)))]) hx hb dL_ring_183 hl (k := 14) rfl (z_inc1 _) (by decide) rfl (fun ls hl => ?_)
              refine lv_goto (tgt := 47) hx hb dL_ring_186 (by decide) ?_
              have hl9 := lv_sub hl [3, 4, 5, 6, 7, 8, 9, 10, 11, 12, 13, 1, 14, 0] (l' := [(0, .ref (ad 287)), (1, .ref (ba)), (2, .ref (ga)), (3, .int (nI (r9))), (4, .long (lN (zLn (zKd nw r9) (zSz nw r9)))), (6, .int (x)), (7, .int (nI (zSz nw r9))), (8, .int (nI ((zSz nw r9) / 4))), (9, .int (nI (lv))), (10, .long (lN (zLn (zimg (zSz nw r9) (zKd nw r9) (zls (zSz nw r9) (zKd nw r9) lv)) (zSz nw r9)))), (12, .int (zset pp (zSz nw r9))), (13, .int ((zset (zsq pp (zSz nw r9)) i) ||| nI (0))), (14, .int (nI (0))), (15, .int (nI (i + 1)))]) rfl
              have e9_13 : ((zset (zsq pp (zSz nw r9)) i) ||| nI (0)) = (zset (zsq pp (zSz nw r9)) (i + 1)) := by first | exact zset_t (by unfold zsq; rw [hp62, hp79, hp98, hp117]; rfl) | exact zset_o (by unfold zsq; rw [hn62]; rfl) | exact zset_o (by unfold zsq; rw [hn79, Bool.and_false]; rfl) | exact zset_o (by unfold zsq; rw [hn98, Bool.and_false]; rfl) | exact zset_o (by unfold zsq; rw [hn117, Bool.and_false])
              have e9_15 : (i + 1) = ((i + 1)) := by omega
              exact ih47 (i + 1) (by omega) (by omega) ls (by rw [← e9_13, ← e9_15]; exact hl9)
            · have hp98 := zbt hb4.2.1 (Nat.mod_lt (i + 2 * ((zSz nw r9) / 4)) hb4.1) c_28
              refine lv_iload hx hb dL_ring_101 (lv_at hl 10 rfl) ?_
              refine lv_iload hx hb dL_ring_103 (lv_at hl 13 rfl) ?_
              refine lv_iconst (v := nI (3)) hx hb dL_ring_105 (by decide) ?_
              refine lv_iload hx hb dL_ring_106 (lv_at hl 7 rfl) ?_
              refine z_imul hx hb dL_ring_108 ?_
              refine z_iadd hx hb dL_ring_109 ?_
              refine lv_iload hx hb dL_ring_110 (lv_at hl 6 rfl) ?_
              refine z_irem hx hb dL_ring_112 ⟨by omega, by omega, by omega⟩ ?_
              refine lv_ishr hx hb dL_ring_113 ?_
              refine lv_iconst (v := nI (1)) hx hb dL_ring_114 (by decide) ?_
              refine lv_iand hx hb dL_ring_115 ?_
              refine lv_iconst (v := nI (1)) hx hb dL_ring_116 (by decide) ?_
              refine lv_icmp_ne (tgt := 124) hx hb dL_ring_117 (by decide) (fun c_32 => ?_) (fun c_32 => ?_)
              · have hn117 := zbf hb4.2.1 (Nat.mod_lt (i + 3 * ((zSz nw r9) / 4)) hb4.1) c_32
                refine lv_iconst (v := nI (0)) hx hb dL_ring_124 (by decide) ?_
                refine lv_istore (lv' := [(16, .int (nI (0))), (0, .ref (ad 287)), (1, .ref (ba)), (2, .ref (ga)), (3, .int (nI (r9))), (4, .long (lN (zLn (zKd nw r9) (zSz nw r9)))), (6, .int (x)), (7, .int (nI (zSz nw r9))), (8, .int (nI ((zSz nw r9) / 4))), (9, .int (nI (lv))), (10, .long (lN (zLn (zimg (zSz nw r9) (zKd nw r9) (zls (zSz nw r9) (zKd nw r9) lv)) (zSz nw r9)))), (12, .int (zset pp (zSz nw r9))), (13, .int (zset (zsq pp (zSz nw r9)) i)), (14, .int (nI (0))), (15, .int (nI (i)))]) hx hb dL_ring_125 hl (by decide) rfl (fun ls hl => ?_)
                refine lv_iload hx hb dL_ring_127 (lv_at hl 12 rfl) ?_
                refine lv_iload hx hb dL_ring_129 (lv_at hl 0 rfl) ?_
                refine z_feq (tgt := 141) hx hb dL_ring_131 (by decide) (by omega) (fun c_33 => ?_) (fun c_33 => by exfalso; omega)
                refine lv_iconst (v := nI (0)) hx hb dL_ring_141 (by decide) ?_
                refine lv_ior hx hb dL_ring_142 ?_
                refine lv_istore (lv' := [(13, .int ((zset (zsq pp (zSz nw r9)) i) ||| nI (0))), (16, .int (nI (0))), (0, .ref (ad 287)), (1, .ref (ba)), (2, .ref (ga)), (3, .int (nI (r9))), (4, .long (lN (zLn (zKd nw r9) (zSz nw r9)))), (6, .int (x)), (7, .int (nI (zSz nw r9))), (8, .int (nI ((zSz nw r9) / 4))), (9, .int (nI (lv))), (10, .long (lN (zLn (zimg (zSz nw r9) (zKd nw r9) (zls (zSz nw r9) (zKd nw r9) lv)) (zSz nw r9)))), (12, .int (zset pp (zSz nw r9))), (14, .int (nI (0))), (15, .int (nI (i)))]) hx hb dL_ring_143 hl (by decide) rfl (fun ls hl => ?_)
                refine lv_aload_n hx hb dL_ring_145 rfl (lv_at hl 2 rfl) ?_
                refine lv_iload_n hx hb dL_ring_146 rfl (lv_at hl 5 rfl) ?_
                refine lv_iload hx hb dL_ring_147 (lv_at hl 14 rfl) ?_
                refine z_roV (As := [.int (nI (r9)), .int (nI (i))]) (rest := []) (q := (RX5, TX5, 7)) S hG (c_X5_slot_2 E (r := r9) (j := i) hok hr9 hr0 (by omega)) 2 gL_ring_X5_slot rfl kX5_slot ⟨Nat.le_of_ble_eq_true rfl, Nat.le_of_ble_eq_true rfl⟩ ⟨Nat.zero_le _, Nat.zero_le _⟩ (hCW) rfl h5 rfl hl.1 rfl rfl (Nat.le_of_ble_eq_true rfl) dL_ring_149 ?_
                refine lv_lload hx hb dL_ring_152 (lv_at hl 6 rfl) ?_
                refine lv_iload hx hb dL_ring_154 (lv_at hl 14 rfl) ?_
                refine z_roSX (As := [.long (lN (zLn (zKd nw r9) (zSz nw r9))), .int (nI (i))]) (rest := [.int ((zKd nw r9) i)]) S hG (c_L_kind E (j := i) hs4 hk4 (by omega)) 2 gL_ring_L_kind rfl kL_kind.2 ⟨Nat.le_of_ble_eq_true rfl, Nat.le_of_ble_eq_true rfl⟩ ⟨Nat.zero_le _, Nat.zero_le _⟩ (trivial) rfl hl.1 rfl rfl (Nat.le_of_ble_eq_true rfl) dL_ring_156 ?_
                refine lv_icmp_ne (tgt := 181) hx hb dL_ring_159 (by decide) (fun c_34 => by exfalso; exact c_34 rfl) (fun c_34 => ?_)
                refine lv_aload_n hx hb dL_ring_162 rfl (lv_at hl 2 rfl) ?_
                refine lv_iload_n hx hb dL_ring_163 rfl (lv_at hl 5 rfl) ?_
                refine lv_iload hx hb dL_ring_164 (lv_at hl 10 rfl) ?_
                refine lv_iload hx hb dL_ring_166 (lv_at hl 14 rfl) ?_
                refine z_roV (As := [.int (nI (r9)), .int (nI (lv)), .int (nI (i))]) (rest := []) (q := (RX5, TX5, 7)) S hG (c_X5_least_3 E (r := r9) (j := i) (lv := lv) hok hr9 hr0 (by omega) hlv) 3 gL_ring_X5_least rfl kX5_least ⟨Nat.le_of_ble_eq_true rfl, Nat.le_of_ble_eq_true rfl⟩ ⟨Nat.zero_le _, Nat.zero_le _⟩ (hCW) rfl h5 rfl hl.1 rfl rfl (Nat.le_of_ble_eq_true rfl) dL_ring_168 ?_
                refine lv_lload hx hb dL_ring_171 (lv_at hl 11 rfl) ?_
                refine lv_iload hx hb dL_ring_173 (lv_at hl 14 rfl) ?_
                refine z_roSX (As := [.long (lN (zLn (zimg (zSz nw r9) (zKd nw r9) (zls (zSz nw r9) (zKd nw r9) lv)) (zSz nw r9))), .int (nI (i))]) (rest := [.int (zimg (zSz nw r9) (zKd nw r9) (zls (zSz nw r9) (zKd nw r9) lv) i)]) S hG (c_L_kind E (f := zimg (zSz nw r9) (zKd nw r9) (zls (zSz nw r9) (zKd nw r9) lv)) (j := i) hs4 (zLn_k hb4.1 hk4) (by omega)) 2 gL_ring_L_kind rfl kL_kind.2 ⟨Nat.le_of_ble_eq_true rfl, Nat.le_of_ble_eq_true rfl⟩ ⟨Nat.zero_le _, Nat.zero_le _⟩ (trivial) rfl hl.1 rfl rfl (Nat.le_of_ble_eq_true rfl) dL_ring_175 ?_
                refine lv_icmp_eq (tgt := 183) hx hb dL_ring_178 (by decide) (fun c_35 => ?_) (fun c_35 => by exfalso; exact c_35 rfl)
                refine lv_iinc (v := nI (i + 1)) (lv' := [(15, .int (nI (i + 1))), (13, .int ((zset (zsq pp (zSz nw r9)) i) ||| nI (0))), (16, .int (nI (0))), (0, .ref (ad 287)), (1, .ref (ba)), (2, .ref (ga)), (3, .int (nI (r9))), (4, .long (lN (zLn (zKd nw r9) (zSz nw r9)))), (6, .int (x)), (7, .int (nI (zSz nw r9))), (8, .int (nI ((zSz nw r9) / 4))), (9, .int (nI (lv))), (10, .long (lN (zLn (zimg (zSz nw r9) (zKd nw r9) (zls (zSz nw r9) (zKd nw r9) lv)) (zSz nw r9)))), (12, .int (zset pp (zSz nw r9))), (14, .int (nI (0)))]) hx hb dL_ring_183 hl (k := 14) rfl (z_inc1 _) (by decide) rfl (fun ls hl => ?_)
                refine lv_goto (tgt := 47) hx hb dL_ring_186 (by decide) ?_
                have hl9 := lv_sub hl [3, 4, 5, 6, 7, 8, 9, 10, 11, 12, 13, 1, 14, 0] (l' := [(0, .ref (ad 287)), (1, .ref (ba)), (2, .ref (ga)), (3, .int (nI (r9))), (4, .long (lN (zLn (zKd nw r9) (zSz nw r9)))), (6, .int (x)), (7, .int (nI (zSz nw r9))), (8, .int (nI ((zSz nw r9) / 4))), (9, .int (nI (lv))), (10, .long (lN (zLn (zimg (zSz nw r9) (zKd nw r9) (zls (zSz nw r9) (zKd nw r9) lv)) (zSz nw r9)))), (12, .int (zset pp (zSz nw r9))), (13, .int ((zset (zsq pp (zSz nw r9)) i) ||| nI (0))), (14, .int (nI (0))), (15, .int (nI (i + 1)))]) rfl
                have e9_13 : ((zset (zsq pp (zSz nw r9)) i) ||| nI (0)) = (zset (zsq pp (zSz nw r9)) (i + 1)) := by first | exact zset_t (by unfold zsq; rw [hp62, hp79, hp98, hp117]; rfl) | exact zset_o (by unfold zsq; rw [hn62]; rfl) | exact zset_o (by unfold zsq; rw [hn79, Bool.and_false]; rfl) | exact zset_o (by unfold zsq; rw [hn98, Bool.and_false]; rfl) | exact zset_o (by unfold zsq; rw [hn117, Bool.and_false])
                have e9_15 : (i + 1) = ((i + 1)) := by omega
                exact ih47 (i + 1) (by omega) (by omega) ls (by rw [← e9_13, ← e9_15]; exact hl9)
              · have hp117 := zbt hb4.2.1 (Nat.mod_lt (i + 3 * ((zSz nw r9) / 4)) hb4.1) c_32
                refine lv_iconst (v := nI (1)) hx hb dL_ring_120 (by decide) ?_
                refine lv_goto (tgt := 125) hx hb dL_ring_121 (by decide) ?_
                refine lv_istore (lv' := [(16, .int (nI (1))), (0, .ref (ad 287)), (1, .ref (ba)), (2, .ref (ga)), (3, .int (nI (r9))), (4, .long (lN (zLn (zKd nw r9) (zSz nw r9)))), (6, .int (x)), (7, .int (nI (zSz nw r9))), (8, .int (nI ((zSz nw r9) / 4))), (9, .int (nI (lv))), (10, .long (lN (zLn (zimg (zSz nw r9) (zKd nw r9) (zls (zSz nw r9) (zKd nw r9) lv)) (zSz nw r9)))), (12, .int (zset pp (zSz nw r9))), (13, .int (zset (zsq pp (zSz nw r9)) i)), (14, .int (nI (0))), (15, .int (nI (i)))]) hx hb dL_ring_125 hl (by decide) rfl (fun ls hl => ?_)
                refine lv_iload hx hb dL_ring_127 (lv_at hl 12 rfl) ?_
                refine lv_iload hx hb dL_ring_129 (lv_at hl 0 rfl) ?_
                refine z_feq (tgt := 141) hx hb dL_ring_131 (by decide) (by omega) (fun c_36 => by exfalso; omega) (fun c_36 => ?_)
                refine lv_iconst (v := nI (1)) hx hb dL_ring_134 (by decide) ?_
                refine lv_iload hx hb dL_ring_135 (lv_at hl 14 rfl) ?_
                refine lv_ishl hx hb dL_ring_137 ?_
                refine lv_goto (tgt := 142) hx hb dL_ring_138 (by decide) ?_
                refine lv_ior hx hb dL_ring_142 ?_
                refine lv_istore (lv' := [(13, .int ((zset (zsq pp (zSz nw r9)) i) ||| (nI (1) <<< (nI (i) &&& 31)))), (16, .int (nI (1))), (0, .ref (ad 287)), (1, .ref (ba)), (2, .ref (ga)), (3, .int (nI (r9))), (4, .long (lN (zLn (zKd nw r9) (zSz nw r9)))), (6, .int (x)), (7, .int (nI (zSz nw r9))), (8, .int (nI ((zSz nw r9) / 4))), (9, .int (nI (lv))), (10, .long (lN (zLn (zimg (zSz nw r9) (zKd nw r9) (zls (zSz nw r9) (zKd nw r9) lv)) (zSz nw r9)))), (12, .int (zset pp (zSz nw r9))), (14, .int (nI (0))), (15, .int (nI (i)))]) hx hb dL_ring_143 hl (by decide) rfl (fun ls hl => ?_)
                refine lv_aload_n hx hb dL_ring_145 rfl (lv_at hl 2 rfl) ?_
                refine lv_iload_n hx hb dL_ring_146 rfl (lv_at hl 5 rfl) ?_
                refine lv_iload hx hb dL_ring_147 (lv_at hl 14 rfl) ?_
                refine z_roV (As := [.int (nI (r9)), .int (nI (i))]) (rest := []) (q := (RX5, TX5, 7)) S hG (c_X5_slot_2 E (r := r9) (j := i) hok hr9 hr0 (by omega)) 2 gL_ring_X5_slot rfl kX5_slot ⟨Nat.le_of_ble_eq_true rfl, Nat.le_of_ble_eq_true rfl⟩ ⟨Nat.zero_le _, Nat.zero_le _⟩ (hCW) rfl h5 rfl hl.1 rfl rfl (Nat.le_of_ble_eq_true rfl) dL_ring_149 ?_
                refine lv_lload hx hb dL_ring_152 (lv_at hl 6 rfl) ?_
                refine lv_iload hx hb dL_ring_154 (lv_at hl 14 rfl) ?_
                refine z_roSX (As := [.long (lN (zLn (zKd nw r9) (zSz nw r9))), .int (nI (i))]) (rest := [.int ((zKd nw r9) i)]) S hG (c_L_kind E (j := i) hs4 hk4 (by omega)) 2 gL_ring_L_kind rfl kL_kind.2 ⟨Nat.le_of_ble_eq_true rfl, Nat.le_of_ble_eq_true rfl⟩ ⟨Nat.zero_le _, Nat.zero_le _⟩ (trivial) rfl hl.1 rfl rfl (Nat.le_of_ble_eq_true rfl) dL_ring_156 ?_
                refine lv_icmp_ne (tgt := 181) hx hb dL_ring_159 (by decide) (fun c_37 => by exfalso; exact c_37 rfl) (fun c_37 => ?_)
                refine lv_aload_n hx hb dL_ring_162 rfl (lv_at hl 2 rfl) ?_
                refine lv_iload_n hx hb dL_ring_163 rfl (lv_at hl 5 rfl) ?_
                refine lv_iload hx hb dL_ring_164 (lv_at hl 10 rfl) ?_
                refine lv_iload hx hb dL_ring_166 (lv_at hl 14 rfl) ?_
                refine z_roV (As := [.int (nI (r9)), .int (nI (lv)), .int (nI (i))]) (rest := []) (q := (RX5, TX5, 7)) S hG (c_X5_least_3 E (r := r9) (j := i) (lv := lv) hok hr9 hr0 (by omega) hlv) 3 gL_ring_X5_least rfl kX5_least ⟨Nat.le_of_ble_eq_true rfl, Nat.le_of_ble_eq_true rfl⟩ ⟨Nat.zero_le _, Nat.zero_le _⟩ (hCW) rfl h5 rfl hl.1 rfl rfl (Nat.le_of_ble_eq_true rfl) dL_ring_168 ?_
                refine lv_lload hx hb dL_ring_171 (lv_at hl 11 rfl) ?_
                refine lv_iload hx hb dL_ring_173 (lv_at hl 14 rfl) ?_
                refine z_roSX (As := [.long (lN (zLn (zimg (zSz nw r9) (zKd nw r9) (zls (zSz nw r9) (zKd nw r9) lv)) (zSz nw r9))), .int (nI (i))]) (rest := [.int (zimg (zSz nw r9) (zKd nw r9) (zls (zSz nw r9) (zKd nw r9) lv) i)]) S hG (c_L_kind E (f := zimg (zSz nw r9) (zKd nw r9) (zls (zSz nw r9) (zKd nw r9) lv)) (j := i) hs4 (zLn_k hb4.1 hk4) (by omega)) 2 gL_ring_L_kind rfl kL_kind.2 ⟨Nat.le_of_ble_eq_true rfl, Nat.le_of_ble_eq_true rfl⟩ ⟨Nat.zero_le _, Nat.zero_le _⟩ (trivial) rfl hl.1 rfl rfl (Nat.le_of_ble_eq_true rfl) dL_ring_175 ?_
                refine lv_icmp_eq (tgt := 183) hx hb dL_ring_178 (by decide) (fun c_38 => ?_) (fun c_38 => by exfalso; exact c_38 rfl)
                refine lv_iinc (v := nI (i + 1)) (lv' := [(15, .int (nI (i + 1))), (13, .int ((zset (zsq pp (zSz nw r9)) i) ||| (nI (1) <<< (nI (i) &&& 31)))), (16, .int (nI (1))), (0, .ref (ad 287)), (1, .ref (ba)), (2, .ref (ga)), (3, .int (nI (r9))), (4, .long (lN (zLn (zKd nw r9) (zSz nw r9)))), (6, .int (x)), (7, .int (nI (zSz nw r9))), (8, .int (nI ((zSz nw r9) / 4))), (9, .int (nI (lv))), (10, .long (lN (zLn (zimg (zSz nw r9) (zKd nw r9) (zls (zSz nw r9) (zKd nw r9) lv)) (zSz nw r9)))), (12, .int (zset pp (zSz nw r9))), (14, .int (nI (0)))]) hx hb dL_ring_183 hl (k := 14) rfl (z_inc1 _) (by decide) rfl (fun ls hl => ?_)
                refine lv_goto (tgt := 47) hx hb dL_ring_186 (by decide) ?_
                have hl9 := lv_sub hl [3, 4, 5, 6, 7, 8, 9, 10, 11, 12, 13, 1, 14, 0] (l' := [(0, .ref (ad 287)), (1, .ref (ba)), (2, .ref (ga)), (3, .int (nI (r9))), (4, .long (lN (zLn (zKd nw r9) (zSz nw r9)))), (6, .int (x)), (7, .int (nI (zSz nw r9))), (8, .int (nI ((zSz nw r9) / 4))), (9, .int (nI (lv))), (10, .long (lN (zLn (zimg (zSz nw r9) (zKd nw r9) (zls (zSz nw r9) (zKd nw r9) lv)) (zSz nw r9)))), (12, .int (zset pp (zSz nw r9))), (13, .int ((zset (zsq pp (zSz nw r9)) i) ||| (nI (1) <<< (nI (i) &&& 31)))), (14, .int (nI (0))), (15, .int (nI (i + 1)))]) rfl
                have e9_13 : ((zset (zsq pp (zSz nw r9)) i) ||| (nI (1) <<< (nI (i) &&& 31))) = (zset (zsq pp (zSz nw r9)) (i + 1)) := by first | exact zset_t (by unfold zsq; rw [hp62, hp79, hp98, hp117]; rfl) | exact zset_o (by unfold zsq; rw [hn62]; rfl) | exact zset_o (by unfold zsq; rw [hn79, Bool.and_false]; rfl) | exact zset_o (by unfold zsq; rw [hn98, Bool.and_false]; rfl) | exact zset_o (by unfold zsq; rw [hn117, Bool.and_false])
                have e9_15 : (i + 1) = ((i + 1)) := by omega
                exact ih47 (i + 1) (by omega) (by omega) ls (by rw [← e9_13, ← e9_15]; exact hl9)
  exact L47 (((zSz nw r9) - (0)) + 1) (0) (Nat.lt_succ_self _) (by omega) ls (lv_sub hl [8, 9, 10, 11, 12, 13, 7, 6, 5, 4, 3, 2, 1, 0] rfl)
