theorem zin_mn {x : Int32} {n : Nat} (h : zin x 1 6 = false) : zin x 1 (min 6 n) = false := by
  refine decide_eq_false fun q => ?_
  have h9 := of_decide_eq_false h
  refine h9 ⟨q.1, Int32.le_trans q.2 (nI_le (Nat.min_le_left _ _) (by decide))⟩
theorem zin_mn0 {x : Int32} {n : Nat} (hn : n ≤ 6) (h : zin x 0 n = false) : zin x 0 (min n 5) = false := by
  refine decide_eq_false fun q => ?_
  have h9 := of_decide_eq_false h
  exact h9 ⟨q.1, Int32.le_trans q.2 (nI_le (Nat.min_le_left _ _) (by omega))⟩
theorem zcd_s {cd : Nat → Int32} {ln k : Nat} (h : ∀ j, j < ln → ∃ w : Nat, 33 ≤ w ∧ w ≤ 126 ∧ cd j = nI w) (h1 : 33 ≤ k) (h2 : k ≤ 126) : ∀ j, j < ln + 1 → ∃ w : Nat, 33 ≤ w ∧ w ≤ 126 ∧ upd cd ln (nI k) j = nI w := fun j hj => by
  unfold upd
  by_cases q : j = ln
  · rw [if_pos q]; exact ⟨k, h1, h2, rfl⟩
  · rw [if_neg q]; exact h j (by omega)
theorem zcw_h {cd : Nat → Int32} {ln : Nat} (h : ∀ j, j < ln → ∃ w : Nat, 33 ≤ w ∧ w ≤ 126 ∧ cd j = nI w) : ∀ j, j < ln → 33 ≤ (fun j => (cd j).toNatClampNeg) j ∧ (fun j => (cd j).toNatClampNeg) j ≤ 126 ∧ cd j = nI ((fun j => (cd j).toNatClampNeg) j) := fun j hj => by
  obtain ⟨w, h1, h2, e⟩ := h j hj
  show 33 ≤ (cd j).toNatClampNeg ∧ (cd j).toNatClampNeg ≤ 126 ∧ cd j = nI (cd j).toNatClampNeg
  rw [e, nI_clamp (by omega)]
  exact ⟨h1, h2, rfl⟩
theorem zpt_4 {cw : Nat → Nat} {ln : Nat} (h : zpt cw ln = true) : zsz4 (zpf cw ln).1 := by
  obtain ⟨w, h4, e⟩ := zsz_4 (zpt_2 h).2
  have hb := (zpf_b cw ln).1
  rw [(nI_eq (by omega) (by have := h4.b; omega)).mp e]; exact h4
theorem ztm_2 (tm : Nat → Int32) (e : Nat) : upd (upd tm e (nI 0)) e ((upd tm e (nI 0)) e + nI 1) = upd tm e (nI 1) := by
  funext j
  unfold upd
  by_cases q : j = e
  · rw [if_pos q, if_pos q, if_pos rfl]; rfl
  · rw [if_neg q, if_neg q, if_neg q]
theorem op_bracelets (E : zEnv) {ad am : Nat → Nat} {nw sv : zS} {an : Bool} {hs : Nat → zS} {ct ln : Nat} {cd : Nat → Int32} (hi : zInj ad) (hm : zInM am) (hv : zInv (nw, sv, an, hs, ct, ln, cd)) : zOpR E ad am yX5_bracelets wsX5_bracelets 1 22 yX6_bracelets wsX6_bracelets 1 21 [] (nw, sv, an, hs, ct, ln, cd) := by
  obtain ⟨hok, hsv, hhs, hct, hln, hcd⟩ := id hv
  have hok : zOk nw := hok
  have hct : ct ≤ 5 := hct
  have hln : ln ≤ 60 := hln
  exact ⟨_, c_X5_bracelets_0 E hok, c_X6_bracelets_0 E hok⟩
theorem op_kind (E : zEnv) {ad am : Nat → Nat} {nw sv : zS} {an : Bool} {hs : Nat → zS} {ct ln : Nat} {cd : Nat → Int32} (hi : zInj ad) (hm : zInM am) (hv : zInv (nw, sv, an, hs, ct, ln, cd)) (x : Int32) (y : Int32) : zOpR E ad am yX5_kind wsX5_kind 3 67 yX6_kind wsX6_kind 3 67 [.int x, .int y] (nw, sv, an, hs, ct, ln, cd) := by
  obtain ⟨hok, hsv, hhs, hct, hln, hcd⟩ := id hv
  have hok : zOk nw := hok
  have hct : ct ≤ 5 := hct
  have hln : ln ≤ 60 := hln
  rcases zin_ca x (lo := 1) (hi := 5) (by omega) (by omega) with h_x | ⟨j, j1, j2, rfl⟩
  · exact ⟨_, c_X5_kind_0 E hok h_x, c_X6_kind_0 E hok h_x⟩
  · rcases zin_ca y (lo := 0) (hi := 2) (by omega) (by omega) with h_y | ⟨k, k1, k2, rfl⟩
    · exact ⟨_, c_X5_kind_1 E hok ⟨j1, j2⟩ h_y, c_X6_kind_1 E hok ⟨j1, j2⟩ h_y⟩
    · rcases (show k = 0 ∨ k = 1 ∨ k = 2 by omega) with rfl | rfl | rfl
      · exact ⟨_, c_X5_kind_20 E hok ⟨j1, j2⟩, c_X6_kind_20 E hok ⟨j1, j2⟩⟩
      · exact ⟨_, c_X5_kind_21 E hok ⟨j1, j2⟩, c_X6_kind_21 E hok ⟨j1, j2⟩⟩
      · exact ⟨_, c_X5_kind_22 E hok ⟨j1, j2⟩, c_X6_kind_22 E hok ⟨j1, j2⟩⟩
theorem op_bracelet (E : zEnv) {ad am : Nat → Nat} {nw sv : zS} {an : Bool} {hs : Nat → zS} {ct ln : Nat} {cd : Nat → Int32} (hi : zInj ad) (hm : zInM am) (hv : zInv (nw, sv, an, hs, ct, ln, cd)) (x : Int32) (y : Int32) : zOpR E ad am yX5_bracelet wsX5_bracelet 4 90 yX6_bracelet wsX6_bracelet 4 89 [.int x, .int y] (nw, sv, an, hs, ct, ln, cd) := by
  obtain ⟨hok, hsv, hhs, hct, hln, hcd⟩ := id hv
  have hok : zOk nw := hok
  have hct : ct ≤ 5 := hct
  have hln : ln ≤ 60 := hln
  rcases zfnd_ca (v := nw) x with h_x | ⟨r, hr, hr0, rfl⟩
  · exact ⟨_, c_X5_bracelet_0 E hok h_x, c_X6_bracelet_0 E hok h_x⟩
  · rcases zin_ca y (lo := 0) (hi := 3) (by omega) (by omega) with h_y | ⟨k, k1, k2, rfl⟩
    · exact ⟨_, c_X5_bracelet_1 E hok hr hr0 h_y, c_X6_bracelet_1 E hok hr hr0 h_y⟩
    · rcases (show k = 0 ∨ k = 1 ∨ k = 2 ∨ k = 3 by omega) with rfl | rfl | rfl | rfl
      · exact ⟨_, c_X5_bracelet_20 E hok hr hr0, c_X6_bracelet_20 E hok hr hr0⟩
      · exact ⟨_, c_X5_bracelet_21 E hok hr hr0, c_X6_bracelet_21 E hok hr hr0⟩
      · exact ⟨_, c_X5_bracelet_22 E hok hr hr0, c_X6_bracelet_22 E hok hr hr0⟩
      · exact ⟨_, c_X5_bracelet_23 E hok hr hr0, c_X6_bracelet_23 E hok hr hr0⟩
theorem op_slot (E : zEnv) {ad am : Nat → Nat} {nw sv : zS} {an : Bool} {hs : Nat → zS} {ct ln : Nat} {cd : Nat → Int32} (hi : zInj ad) (hm : zInM am) (hv : zInv (nw, sv, an, hs, ct, ln, cd)) (x : Int32) (y : Int32) : zOpR E ad am yX5_slot wsX5_slot 1 21 yX6_slot wsX6_slot 3 65 [.int x, .int y] (nw, sv, an, hs, ct, ln, cd) := by
  obtain ⟨hok, hsv, hhs, hct, hln, hcd⟩ := id hv
  have hok : zOk nw := hok
  have hct : ct ≤ 5 := hct
  have hln : ln ≤ 60 := hln
  rcases zfnd_ca (v := nw) x with h_x | ⟨r, hr, hr0, rfl⟩
  · exact ⟨_, c_X5_slot_0 E hok h_x, c_X6_slot_0 E hok h_x⟩
  · have hn := hok.sz hr hr0
    rcases zin_ca y (lo := 0) (hi := zSz nw r - 1) (by omega) (by omega) with h_y | ⟨j, -, j9, rfl⟩
    · exact ⟨_, c_X5_slot_1 E hok hr hr0 h_y, c_X6_slot_1 E hok hr hr0 h_y⟩
    · have jh : j < zSz nw r := by omega
      exact ⟨_, c_X5_slot_2 E hok hr hr0 jh, c_X6_slot_2 E hok hr hr0 jh⟩
theorem op_quarter (E : zEnv) {ad am : Nat → Nat} {nw sv : zS} {an : Bool} {hs : Nat → zS} {ct ln : Nat} {cd : Nat → Int32} (hi : zInj ad) (hm : zInM am) (hv : zInv (nw, sv, an, hs, ct, ln, cd)) (x : Int32) (y : Int32) : zOpR E ad am yX5_quarter wsX5_quarter 3 69 yX6_quarter wsX6_quarter 3 68 [.int x, .int y] (nw, sv, an, hs, ct, ln, cd) := by
  obtain ⟨hok, hsv, hhs, hct, hln, hcd⟩ := id hv
  have hok : zOk nw := hok
  have hct : ct ≤ 5 := hct
  have hln : ln ≤ 60 := hln
  rcases zfnd_ca (v := nw) x with h_x | ⟨r, hr, hr0, rfl⟩
  · exact ⟨_, c_X5_quarter_0 E hok h_x, c_X6_quarter_0 E hok h_x⟩
  · rcases zin_ca y (lo := 0) (hi := 3) (by omega) (by omega) with h_y | ⟨j, j1, j2, rfl⟩
    · exact ⟨_, c_X5_quarter_1 E hok hr hr0 h_y, c_X6_quarter_1 E hok hr hr0 h_y⟩
    · exact ⟨_, c_X5_quarter_2 E hok hr hr0 (show j < 4 by omega), c_X6_quarter_2 E hok hr hr0 (show j < 4 by omega)⟩
theorem op_alike (E : zEnv) {ad am : Nat → Nat} {nw sv : zS} {an : Bool} {hs : Nat → zS} {ct ln : Nat} {cd : Nat → Int32} (hi : zInj ad) (hm : zInM am) (hv : zInv (nw, sv, an, hs, ct, ln, cd)) (x : Int32) (y : Int32) (w : Int32) : zOpR E ad am yX5_alike wsX5_alike 5 115 yX6_alike wsX6_alike 5 121 [.int x, .int y, .int w] (nw, sv, an, hs, ct, ln, cd) := by
  obtain ⟨hok, hsv, hhs, hct, hln, hcd⟩ := id hv
  have hok : zOk nw := hok
  have hct : ct ≤ 5 := hct
  have hln : ln ≤ 60 := hln
  rcases zfnd_ca (v := nw) x with h_x | ⟨r, hr, hr0, rfl⟩
  · rcases zfnd_ca (v := nw) y with h_y | ⟨r2, hr2, hr20, rfl⟩
    · exact ⟨_, c_X5_alike_0 E hok h_x h_y, c_X6_alike_0 E hok h_x⟩
    · exact ⟨_, c_X5_alike_0s E hok h_x hr2 hr20, c_X6_alike_0 E hok h_x⟩
  · rcases zfnd_ca (v := nw) y with h_y | ⟨r2, hr2, hr20, rfl⟩
    · exact ⟨_, c_X5_alike_1 E hok hr hr0 h_y, c_X6_alike_1 E hok hr hr0 h_y⟩
    · rcases zin_ca w (lo := 0) (hi := 2) (by omega) (by omega) with h_w | ⟨k, k1, k2, rfl⟩
      · exact ⟨_, c_X5_alike_2 E hok hr hr0 hr2 hr20 h_w, c_X6_alike_2 E hok hr hr0 hr2 hr20 h_w⟩
      · rcases Classical.em (zSz nw r = zSz nw r2) with he | he
        · exact ⟨_, c_X5_alike_3 E hok hr hr0 hr2 hr20 k2, c_X6_alike_3e E hok hr hr0 hr2 hr20 k2 he⟩
        · exact ⟨_, c_X5_alike_3 E hok hr hr0 hr2 hr20 k2, c_X6_alike_3n E hok hr hr0 hr2 hr20 k2 he⟩
theorem op_least (E : zEnv) {ad am : Nat → Nat} {nw sv : zS} {an : Bool} {hs : Nat → zS} {ct ln : Nat} {cd : Nat → Int32} (hi : zInj ad) (hm : zInM am) (hv : zInv (nw, sv, an, hs, ct, ln, cd)) (x : Int32) (y : Int32) (w : Int32) : zOpR E ad am yX5_least wsX5_least 4 94 yX6_least wsX6_least 5 119 [.int x, .int y, .int w] (nw, sv, an, hs, ct, ln, cd) := by
  obtain ⟨hok, hsv, hhs, hct, hln, hcd⟩ := id hv
  have hok : zOk nw := hok
  have hct : ct ≤ 5 := hct
  have hln : ln ≤ 60 := hln
  rcases zfnd_ca (v := nw) x with h_x | ⟨r, hr, hr0, rfl⟩
  · exact ⟨_, c_X5_least_0 E hok h_x, c_X6_least_0 E hok h_x⟩
  · have hn := hok.sz hr hr0
    rcases zin_ca w (lo := 0) (hi := zSz nw r - 1) (by omega) (by omega) with h_w | ⟨j, -, j9, rfl⟩
    · exact ⟨_, c_X5_least_1 E hok hr hr0 h_w, c_X6_least_1 E hok hr hr0 h_w⟩
    · have jh : j < zSz nw r := by omega
      rcases zin_ca y (lo := 0) (hi := 2) (by omega) (by omega) with h_y | ⟨k, k1, k2, rfl⟩
      · exact ⟨_, c_X5_least_2 E hok hr hr0 jh h_y, c_X6_least_2 E hok hr hr0 jh h_y⟩
      · exact ⟨_, c_X5_least_3 E hok hr hr0 jh k2, c_X6_least_3 E hok hr hr0 jh k2⟩
theorem op_orbit (E : zEnv) {ad am : Nat → Nat} {nw sv : zS} {an : Bool} {hs : Nat → zS} {ct ln : Nat} {cd : Nat → Int32} (hi : zInj ad) (hm : zInM am) (hv : zInv (nw, sv, an, hs, ct, ln, cd)) (x : Int32) (y : Int32) : zOpR E ad am yX5_orbit wsX5_orbit 4 92 yX6_orbit wsX6_orbit 4 95 [.int x, .int y] (nw, sv, an, hs, ct, ln, cd) := by
  obtain ⟨hok, hsv, hhs, hct, hln, hcd⟩ := id hv
  have hok : zOk nw := hok
  have hct : ct ≤ 5 := hct
  have hln : ln ≤ 60 := hln
  rcases zfnd_ca (v := nw) x with h_x | ⟨r, hr, hr0, rfl⟩
  · exact ⟨_, c_X5_orbit_0 E hok h_x, c_X6_orbit_0 E hok h_x⟩
  · have hn := hok.sz hr hr0
    rcases zin_ca y (lo := 0) (hi := 2) (by omega) (by omega) with h_y | ⟨k, k1, k2, rfl⟩
    · exact ⟨_, c_X5_orbit_1 E hok hr hr0 h_y, c_X6_orbit_1 E hok hr hr0 h_y⟩
    · have h6 := c_X6_orbit_2 E (am := am) (sv := sv) (an := an) (hs := hs) (ct := ct) (ln := ln) (cd := cd) hok hr hr0 k2
      rw [zob_e hn.1 (hok.m4 hr) k2] at h6
      exact ⟨_, c_X5_orbit_2 E hok hr hr0 k2, h6⟩
theorem op_fixed (E : zEnv) {ad am : Nat → Nat} {nw sv : zS} {an : Bool} {hs : Nat → zS} {ct ln : Nat} {cd : Nat → Int32} (hi : zInj ad) (hm : zInM am) (hv : zInv (nw, sv, an, hs, ct, ln, cd)) (x : Int32) : zOpR E ad am yX5_fixed wsX5_fixed 3 68 yX6_fixed wsX6_fixed 4 96 [.int x] (nw, sv, an, hs, ct, ln, cd) := by
  obtain ⟨hok, hsv, hhs, hct, hln, hcd⟩ := id hv
  have hok : zOk nw := hok
  have hct : ct ≤ 5 := hct
  have hln : ln ≤ 60 := hln
  rcases zfnd_ca (v := nw) x with h_x | ⟨r, hr, hr0, rfl⟩
  · exact ⟨_, c_X5_fixed_0 E hok h_x, c_X6_fixed_0 E hok h_x⟩
  · exact ⟨_, c_X5_fixed_1 E hok hr hr0, c_X6_fixed_1 E hok hr hr0⟩
theorem op_distance (E : zEnv) {ad am : Nat → Nat} {nw sv : zS} {an : Bool} {hs : Nat → zS} {ct ln : Nat} {cd : Nat → Int32} (hi : zInj ad) (hm : zInM am) (hv : zInv (nw, sv, an, hs, ct, ln, cd)) (x : Int32) (y : Int32) : zOpR E ad am yX5_distance wsX5_distance 4 93 yX6_distance wsX6_distance 4 96 [.int x, .int y] (nw, sv, an, hs, ct, ln, cd) := by
  obtain ⟨hok, hsv, hhs, hct, hln, hcd⟩ := id hv
  have hok : zOk nw := hok
  have hct : ct ≤ 5 := hct
  have hln : ln ≤ 60 := hln
  rcases zfnd_ca (v := nw) x with h_x | ⟨r, hr, hr0, rfl⟩
  · rcases zfnd_ca (v := nw) y with h_y | ⟨r2, hr2, hr20, rfl⟩
    · exact ⟨_, c_X5_distance_0 E hok h_x h_y, c_X6_distance_0 E hok h_x⟩
    · exact ⟨_, c_X5_distance_0s E hok h_x hr2 hr20, c_X6_distance_0 E hok h_x⟩
  · rcases zfnd_ca (v := nw) y with h_y | ⟨r2, hr2, hr20, rfl⟩
    · exact ⟨_, c_X5_distance_1 E hok hr hr0 h_y, c_X6_distance_1 E hok hr hr0 h_y⟩
    · rcases Classical.em (zSz nw r = zSz nw r2) with he | he
      · exact ⟨_, c_X5_distance_3 E hok hr hr0 hr2 hr20 he, c_X6_distance_3 E hok hr hr0 hr2 hr20 he⟩
      · exact ⟨_, c_X5_distance_2 E hok hr hr0 hr2 hr20 he, c_X6_distance_2 E hok hr hr0 hr2 hr20 he⟩
theorem op_motif (E : zEnv) {ad am : Nat → Nat} {nw sv : zS} {an : Bool} {hs : Nat → zS} {ct ln : Nat} {cd : Nat → Int32} (hi : zInj ad) (hm : zInM am) (hv : zInv (nw, sv, an, hs, ct, ln, cd)) (x : Int32) : zOpR E ad am yX5_motif wsX5_motif 0 0 yX6_motif wsX6_motif 1 22 [.int x] (nw, sv, an, hs, ct, ln, cd) := by
  obtain ⟨hok, hsv, hhs, hct, hln, hcd⟩ := id hv
  have hok : zOk nw := hok
  have hct : ct ≤ 5 := hct
  have hln : ln ≤ 60 := hln
  have hml6 : zMl nw ≤ 6 := hok.2.2.2.1
  rcases Nat.eq_zero_or_pos (zMl nw) with h0 | h0
  · exact ⟨_, c_X5_motif_0 E hok (Or.inl h0), c_X6_motif_0a E hok h0⟩
  · rcases zin_ca x (lo := 0) (hi := zMl nw - 1) (by omega) (by omega) with h_x | ⟨j, -, j9, rfl⟩
    · exact ⟨_, c_X5_motif_0 E hok (Or.inr h_x), c_X6_motif_0b E hok h0 h_x⟩
    · have jh : j < zMl nw := by omega
      exact ⟨_, c_X5_motif_1 E hok jh, c_X6_motif_1 E hok jh⟩
theorem op_motifAt (E : zEnv) {ad am : Nat → Nat} {nw sv : zS} {an : Bool} {hs : Nat → zS} {ct ln : Nat} {cd : Nat → Int32} (hi : zInj ad) (hm : zInM am) (hv : zInv (nw, sv, an, hs, ct, ln, cd)) (x : Int32) : zOpR E ad am yX5_motifAt wsX5_motifAt 3 67 yX6_motifAt wsX6_motifAt 4 90 [.int x] (nw, sv, an, hs, ct, ln, cd) := by
  obtain ⟨hok, hsv, hhs, hct, hln, hcd⟩ := id hv
  have hok : zOk nw := hok
  have hct : ct ≤ 5 := hct
  have hln : ln ≤ 60 := hln
  rcases zfnd_ca (v := nw) x with h_x | ⟨r, hr, hr0, rfl⟩
  · exact ⟨_, c_X5_motifAt_0 E hok h_x, c_X6_motifAt_0 E hok h_x⟩
  · exact ⟨_, c_X5_motifAt_1 E hok hr hr0, c_X6_motifAt_1 E hok hr hr0⟩
theorem op_staysAt (E : zEnv) {ad am : Nat → Nat} {nw sv : zS} {an : Bool} {hs : Nat → zS} {ct ln : Nat} {cd : Nat → Int32} (hi : zInj ad) (hm : zInM am) (hv : zInv (nw, sv, an, hs, ct, ln, cd)) (x : Int32) : zOpR E ad am yX5_staysAt wsX5_staysAt 3 67 yX6_staysAt wsX6_staysAt 4 90 [.int x] (nw, sv, an, hs, ct, ln, cd) := by
  obtain ⟨hok, hsv, hhs, hct, hln, hcd⟩ := id hv
  have hok : zOk nw := hok
  have hct : ct ≤ 5 := hct
  have hln : ln ≤ 60 := hln
  rcases zfnd_ca (v := nw) x with h_x | ⟨r, hr, hr0, rfl⟩
  · exact ⟨_, c_X5_staysAt_0 E hok h_x, c_X6_staysAt_0 E hok h_x⟩
  · have hn := hok.sz hr hr0
    have h6 := c_X6_staysAt_1 E (am := am) (sv := sv) (an := an) (hs := hs) (ct := ct) (ln := ln) (cd := cd) hok hr hr0
    rw [zstay_e _ hn] at h6
    exact ⟨_, c_X5_staysAt_1 E hok hr hr0, h6⟩
theorem op_entries (E : zEnv) {ad am : Nat → Nat} {nw sv : zS} {an : Bool} {hs : Nat → zS} {ct ln : Nat} {cd : Nat → Int32} (hi : zInj ad) (hm : zInM am) (hv : zInv (nw, sv, an, hs, ct, ln, cd)) : zOpR E ad am yX5_entries wsX5_entries 0 0 yX6_entries wsX6_entries 0 0 [] (nw, sv, an, hs, ct, ln, cd) := by
  obtain ⟨hok, hsv, hhs, hct, hln, hcd⟩ := id hv
  have hok : zOk nw := hok
  have hct : ct ≤ 5 := hct
  have hln : ln ≤ 60 := hln
  exact ⟨_, c_X5_entries_0 E hok, c_X6_entries_0 E hok⟩
theorem op_entry (E : zEnv) {ad am : Nat → Nat} {nw sv : zS} {an : Bool} {hs : Nat → zS} {ct ln : Nat} {cd : Nat → Int32} (hi : zInj ad) (hm : zInM am) (hv : zInv (nw, sv, an, hs, ct, ln, cd)) (x : Int32) (y : Int32) : zOpR E ad am yX5_entry wsX5_entry 6 139 yX6_entry wsX6_entry 6 145 [.int x, .int y] (nw, sv, an, hs, ct, ln, cd) := by
  obtain ⟨hok, hsv, hhs, hct, hln, hcd⟩ := id hv
  have hok : zOk nw := hok
  have hct : ct ≤ 5 := hct
  have hln : ln ≤ 60 := hln
  have hnl : zNl nw ≤ 10 := hok.2.2.2.2.1
  rcases Nat.eq_zero_or_pos (zNl nw) with h0 | h0
  · exact ⟨_, c_X5_entry_0 E hok (Or.inl h0), c_X6_entry_0a E hok h0⟩
  · rcases zin_ca x (lo := 0) (hi := zNl nw - 1) (by omega) (by omega) with h_x | ⟨j, -, j9, rfl⟩
    · exact ⟨_, c_X5_entry_0 E hok (Or.inr h_x), c_X6_entry_0b E hok h0 h_x⟩
    · have jh : j < zNl nw := by omega
      rcases zin_ca y (lo := 0) (hi := 2) (by omega) (by omega) with h_y | ⟨k, k1, k2, rfl⟩
      · exact ⟨_, c_X5_entry_1 E hok jh h_y, c_X6_entry_1 E hok jh h_y⟩
      · rcases (show k = 0 ∨ k = 1 ∨ k = 2 by omega) with rfl | rfl | rfl
        · exact ⟨_, c_X5_entry_20 E hok jh, c_X6_entry_20 E hok jh⟩
        · exact ⟨_, c_X5_entry_21 E hok jh, c_X6_entry_21 E hok jh⟩
        · have h6 := c_X6_entry_22 E (am := am) (sv := sv) (an := an) (hs := hs) (ct := ct) (ln := ln) (cd := cd) hok jh
          rw [show (fun t9 => zis (zSz nw (6 + j)) (zKd nw (6 + j)) (zSz nw t9) (zKd nw t9)) = (fun t => zal (zSz nw t) (zKd nw t) (zSz nw (6 + j)) (zKd nw (6 + j)) 1) from funext fun t => zis_al2 ((hok.2.2.2.2.2 j jh).1.b.1)] at h6
          exact ⟨_, c_X5_entry_22 E hok jh, h6⟩
theorem op_setMotif (E : zEnv) {ad am : Nat → Nat} {nw sv : zS} {an : Bool} {hs : Nat → zS} {ct ln : Nat} {cd : Nat → Int32} (hi : zInj ad) (hm : zInM am) (hv : zInv (nw, sv, an, hs, ct, ln, cd)) (x : Int32) (y : Int32) (w : Int32) : zOpW E ad am yX5_setMotif wsX5_setMotif 5 145 yX6_setMotif wsX6_setMotif 5 119 [.int x, .int y, .int w] (nw, sv, an, hs, ct, ln, cd) := by
  obtain ⟨hok, hsv, hhs, hct, hln, hcd⟩ := id hv
  have hok : zOk nw := hok
  have hct : ct ≤ 5 := hct
  have hln : ln ≤ 60 := hln
  rcases zfnd_ca (v := nw) x with h_x | ⟨r, hr, hr0, rfl⟩
  · exact ⟨_, _, hv, c_X5_setMotif_0 E hok hi hct h_x, c_X6_setMotif_0 E hok hm hct h_x⟩
  · have hn := hok.sz hr hr0
    rcases zin_ca y (lo := 0) (hi := zSz nw r - 1) (by omega) (by omega) with h_y | ⟨j, -, j9, rfl⟩
    · exact ⟨_, _, hv, c_X5_setMotif_1 E hok hi hct hr hr0 h_y, c_X6_setMotif_1 E hok hm hct hr hr0 h_y⟩
    · have jh : j < zSz nw r := by omega
      rcases zin_ca w (lo := 1) (hi := 6) (by omega) (by omega) with h_w | ⟨k, k1, k2, rfl⟩
      · have h_w2 : zin w 1 (min 6 (zSz nw r)) = false := zin_mn h_w
        exact ⟨_, _, hv, c_X5_setMotif_2 E hok hi hct hr hr0 jh h_w2, c_X6_setMotif_2a E hok hm hct hr hr0 jh h_w⟩
      · rcases Nat.lt_or_ge (zSz nw r) k with hk9 | hk9
        · have h_w2 : zin (nI k) 1 (min 6 (zSz nw r)) = false := zin_n (Or.inr (by omega)) (by omega) (by omega) (by omega)
          exact ⟨_, _, hv, c_X5_setMotif_2 E hok hi hct hr hr0 jh h_w2, c_X6_setMotif_2b E hok hm hct hr hr0 jh ⟨k1, k2⟩ hk9⟩
        · exact ⟨_, _, zInv_r hv (zOk_mo hok k2), c_X5_setMotif_3 E hok hi hct hr hr0 jh ⟨k1, k2, hk9⟩, c_X6_setMotif_3 E hok hm hct hr hr0 jh ⟨k1, k2, hk9⟩⟩
theorem op_cutMotif (E : zEnv) {ad am : Nat → Nat} {nw sv : zS} {an : Bool} {hs : Nat → zS} {ct ln : Nat} {cd : Nat → Int32} (hi : zInj ad) (hm : zInM am) (hv : zInv (nw, sv, an, hs, ct, ln, cd)) : zOpW E ad am yX5_cutMotif wsX5_cutMotif 5 145 yX6_cutMotif wsX6_cutMotif 1 21 [] (nw, sv, an, hs, ct, ln, cd) := by
  obtain ⟨hok, hsv, hhs, hct, hln, hcd⟩ := id hv
  have hok : zOk nw := hok
  have hct : ct ≤ 5 := hct
  have hln : ln ≤ 60 := hln
  have hml6 : zMl nw ≤ 6 := hok.2.2.2.1
  rcases Nat.eq_zero_or_pos (zMl nw) with h0 | h0
  · exact ⟨_, _, hv, c_X5_cutMotif_0 E hok hi hct h0, c_X6_cutMotif_0 E hok hm hct h0⟩
  · exact ⟨_, _, zInv_r hv (zOk_mo (v := nw) (ml := zMl nw - 1) (sg := zSg nw) hok (by omega)), c_X5_cutMotif_1 E hok hi hct h0, c_X6_cutMotif_1 E hok hm hct h0⟩
theorem op_ifHung (E : zEnv) {ad am : Nat → Nat} {nw sv : zS} {an : Bool} {hs : Nat → zS} {ct ln : Nat} {cd : Nat → Int32} (hi : zInj ad) (hm : zInM am) (hv : zInv (nw, sv, an, hs, ct, ln, cd)) (x : Int32) (y : Int32) (w : Int32) : zOpW E ad am yX5_ifHung wsX5_ifHung 3 81 yX6_ifHung wsX6_ifHung 4 90 [.int x, .int y, .int w] (nw, sv, an, hs, ct, ln, cd) := by
  obtain ⟨hok, hsv, hhs, hct, hln, hcd⟩ := id hv
  have hok : zOk nw := hok
  have hct : ct ≤ 5 := hct
  have hln : ln ≤ 60 := hln
  rcases zfnd_ca (v := nw) x with h_x | ⟨r, hr, hr0, rfl⟩
  · exact ⟨_, _, hv, c_X5_ifHung_0 E hok hi hct h_x, c_X6_ifHung_0 E hok hm hct h_x⟩
  · have hn := hok.sz hr hr0
    rcases zin_ca y (lo := 0) (hi := zSz nw r - 1) (by omega) (by omega) with h_y | ⟨j, -, j9, rfl⟩
    · exact ⟨_, _, hv, c_X5_ifHung_1 E hok hi hct hr hr0 h_y, c_X6_ifHung_1 E hok hm hct hr hr0 h_y⟩
    · have jh : j < zSz nw r := by omega
      rcases zin_ca w (lo := 0) (hi := 5) (by omega) (by omega) with h_w | ⟨k, k1, k2, rfl⟩
      · exact ⟨_, _, hv, c_X5_ifHung_2 E hok hi hct hr hr0 jh h_w, c_X6_ifHung_2 E hok hm hct hr hr0 jh h_w⟩
      · exact ⟨_, _, hv, c_X5_ifHung_3 E hok hi hct hr hr0 jh k2, c_X6_ifHung_3 E hok hm hct hr hr0 jh k2⟩
theorem op_bestSwap (E : zEnv) {ad am : Nat → Nat} {nw sv : zS} {an : Bool} {hs : Nat → zS} {ct ln : Nat} {cd : Nat → Int32} (hi : zInj ad) (hm : zInM am) (hv : zInv (nw, sv, an, hs, ct, ln, cd)) (x : Int32) : zOpW E ad am yX5_bestSwap wsX5_bestSwap 5 114 yX6_bestSwap wsX6_bestSwap 4 89 [.int x] (nw, sv, an, hs, ct, ln, cd) := by
  obtain ⟨hok, hsv, hhs, hct, hln, hcd⟩ := id hv
  have hok : zOk nw := hok
  have hct : ct ≤ 5 := hct
  have hln : ln ≤ 60 := hln
  rcases zfnd_ca (v := nw) x with h_x | ⟨r, hr, hr0, rfl⟩
  · exact ⟨_, _, hv, c_X5_bestSwap_0 E hok hi hct h_x, c_X6_bestSwap_0 E hok hm hct h_x⟩
  · exact ⟨_, _, hv, c_X5_bestSwap_1 E hok hi hct hr hr0, c_X6_bestSwap_1 E hok hm hct hr hr0⟩
theorem op_sign (E : zEnv) {ad am : Nat → Nat} {nw sv : zS} {an : Bool} {hs : Nat → zS} {ct ln : Nat} {cd : Nat → Int32} (hi : zInj ad) (hm : zInM am) (hv : zInv (nw, sv, an, hs, ct, ln, cd)) (x : Int32) (y : Int32) : zOpW E ad am yX5_sign wsX5_sign 5 145 yX6_sign wsX6_sign 1 22 [.int x, .int y] (nw, sv, an, hs, ct, ln, cd) := by
  obtain ⟨hok, hsv, hhs, hct, hln, hcd⟩ := id hv
  have hok : zOk nw := hok
  have hct : ct ≤ 5 := hct
  have hln : ln ≤ 60 := hln
  have hml6 : zMl nw ≤ 6 := hok.2.2.2.1
  rcases zin_ca x (lo := 0) (hi := zMl nw) (by omega) (by omega) with h_x | ⟨j, -, j9, rfl⟩
  · have h_x2 : zin x 0 (min (zMl nw) 5) = false := zin_mn0 hml6 h_x
    exact ⟨_, _, hv, c_X5_sign_0 E hok hi hct h_x2, c_X6_sign_0a E hok hm hct h_x⟩
  · rcases Nat.lt_or_ge j 6 with j6 | j6
    · rcases zbo_ca (zin y 0 5) with hy | hy
      · rcases Classical.em (y = nI 9) with hy9 | hy9
        · rcases Nat.lt_or_ge j (zMl nw) with h2 | h2
          · exact ⟨_, _, zInv_r hv (zOk_mo (v := nw) (ml := zMl nw) (sg := upd (zSg nw) j y) hok (by omega)), c_X5_sign_2a E hok hi hct h2 hy hy9, c_X6_sign_2a E hok hm hct h2 hy hy9⟩
          · have hj6 : j = zMl nw ∧ j < 6 := ⟨by omega, by omega⟩
            have hm5 : zMl nw + 1 ≤ 6 := by omega
            exact ⟨_, _, zInv_r hv (zOk_mo (v := nw) (ml := zMl nw + 1) (sg := upd (zSg nw) (zMl nw) y) hok hm5), c_X5_sign_3a E hok hi hct hj6 hy hy9, c_X6_sign_3a E hok hm hct hj6 hy hy9⟩
        · have hj7 : j ≤ zMl nw ∧ j < 6 := ⟨by omega, by omega⟩
          exact ⟨_, _, hv, c_X5_sign_1 E hok hi hct hj7 hy hy9, c_X6_sign_1 E hok hm hct hj7 hy hy9⟩
      · rcases Nat.lt_or_ge j (zMl nw) with h2 | h2
        · exact ⟨_, _, zInv_r hv (zOk_mo (v := nw) (ml := zMl nw) (sg := upd (zSg nw) j y) hok (by omega)), c_X5_sign_2k E hok hi hct h2 hy, c_X6_sign_2k E hok hm hct h2 hy⟩
        · have hj6 : j = zMl nw ∧ j < 6 := ⟨by omega, by omega⟩
          have hm5 : zMl nw + 1 ≤ 6 := by omega
          exact ⟨_, _, zInv_r hv (zOk_mo (v := nw) (ml := zMl nw + 1) (sg := upd (zSg nw) (zMl nw) y) hok hm5), c_X5_sign_3k E hok hi hct hj6 hy, c_X6_sign_3k E hok hm hct hj6 hy⟩
    · obtain rfl : j = 6 := by omega
      have h_x2 : zin (nI 6) 0 (min (zMl nw) 5) = false := zin_n (Or.inr (Nat.lt_of_le_of_lt (Nat.min_le_right _ _) (by decide))) (by decide) (Nat.lt_of_le_of_lt (Nat.min_le_right _ _) (by decide)) (by decide)
      exact ⟨_, _, hv, c_X5_sign_0 E hok hi hct h_x2, c_X6_sign_0b E hok hm hct⟩
theorem op_append (E : zEnv) {ad am : Nat → Nat} {nw sv : zS} {an : Bool} {hs : Nat → zS} {ct ln : Nat} {cd : Nat → Int32} (hi : zInj ad) (hm : zInM am) (hv : zInv (nw, sv, an, hs, ct, ln, cd)) (x : Int32) : zOpW E ad am yX5_append wsX5_append 0 0 yX6_append wsX6_append 1 22 [.int x] (nw, sv, an, hs, ct, ln, cd) := by
  obtain ⟨hok, hsv, hhs, hct, hln, hcd⟩ := id hv
  have hok : zOk nw := hok
  have hct : ct ≤ 5 := hct
  have hln : ln ≤ 60 := hln
  rcases zin_ca x (lo := 33) (hi := 126) (by omega) (by omega) with h_x | ⟨k, k1, k2, rfl⟩
  · exact ⟨_, _, hv, c_X5_append_0 E hok hi hct hln h_x, c_X6_append_0 E hok hm hct hln h_x⟩
  · rcases Nat.lt_or_ge ln 60 with l6 | l6
    · exact ⟨_, (nw, sv, an, hs, ct, ln + 1, upd cd ln (nI k)), ⟨hok, hsv, hhs, hct, by show ln + 1 ≤ 60; omega, zcd_s hcd k1 k2⟩, c_X5_append_2 E hok hi hct l6 ⟨k1, k2⟩, c_X6_append_2 E hok hm hct l6 ⟨k1, k2⟩⟩
    · have l60 : ln = 60 := by omega
      exact ⟨_, _, hv, c_X5_append_1 E hok hi hct l60 ⟨k1, k2⟩, c_X6_append_1 E hok hm hct l60 ⟨k1, k2⟩⟩
theorem op_clearText (E : zEnv) {ad am : Nat → Nat} {nw sv : zS} {an : Bool} {hs : Nat → zS} {ct ln : Nat} {cd : Nat → Int32} (hi : zInj ad) (hm : zInM am) (hv : zInv (nw, sv, an, hs, ct, ln, cd)) : zOpW E ad am yX5_clearText wsX5_clearText 0 0 yX6_clearText wsX6_clearText 0 0 [] (nw, sv, an, hs, ct, ln, cd) := by
  obtain ⟨hok, hsv, hhs, hct, hln, hcd⟩ := id hv
  have hok : zOk nw := hok
  have hct : ct ≤ 5 := hct
  have hln : ln ≤ 60 := hln
  exact ⟨_, (nw, sv, an, hs, ct, 0, cd), ⟨hok, hsv, hhs, hct, Nat.zero_le _, (fun j hj => absurd hj (Nat.not_lt_zero j))⟩, c_X5_clearText_0 E hok hi hct hln, c_X6_clearText_0 E hok hm hct hln⟩
theorem op_undo (E : zEnv) {ad am : Nat → Nat} {nw sv : zS} {an : Bool} {hs : Nat → zS} {ct ln : Nat} {cd : Nat → Int32} (hi : zInj ad) (hm : zInM am) (hv : zInv (nw, sv, an, hs, ct, ln, cd)) : zOpW E ad am yX5_undo wsX5_undo 4 125 yX6_undo wsX6_undo 0 0 [] (nw, sv, an, hs, ct, ln, cd) := by
  obtain ⟨hok, hsv, hhs, hct, hln, hcd⟩ := id hv
  have hok : zOk nw := hok
  have hct : ct ≤ 5 := hct
  have hln : ln ≤ 60 := hln
  rcases Nat.eq_zero_or_pos ct with h0 | h0
  · exact ⟨_, _, hv, c_X5_undo_0 E hok hi hct h0, c_X6_undo_0 E hok hm hct h0⟩
  · exact ⟨_, (hs (ct - 1), sv, an, hs, ct - 1, ln, cd), ⟨hhs (ct - 1) (show ct - 1 < ct by omega), hsv, fun i h => hhs i (Nat.lt_of_lt_of_le h (Nat.sub_le _ _)), Nat.le_trans (Nat.sub_le _ _) hct, hln, hcd⟩, c_X5_undo_1 E hok hi hct h0, c_X6_undo_1 E hok hm hct h0⟩
theorem op_save (E : zEnv) {ad am : Nat → Nat} {nw sv : zS} {an : Bool} {hs : Nat → zS} {ct ln : Nat} {cd : Nat → Int32} (hi : zInj ad) (hm : zInM am) (hv : zInv (nw, sv, an, hs, ct, ln, cd)) : zOpW E ad am yX5_save wsX5_save 4 125 yX6_save wsX6_save 2 43 [] (nw, sv, an, hs, ct, ln, cd) := by
  obtain ⟨hok, hsv, hhs, hct, hln, hcd⟩ := id hv
  have hok : zOk nw := hok
  have hct : ct ≤ 5 := hct
  have hln : ln ≤ 60 := hln
  exact ⟨_, (nw, nw, true, hs, ct, ln, cd), ⟨hok, fun _ => hok, hhs, hct, hln, hcd⟩, c_X5_save_0 E hok hi hct, c_X6_save_0 E hok hm hct⟩
theorem op_restore (E : zEnv) {ad am : Nat → Nat} {nw sv : zS} {an : Bool} {hs : Nat → zS} {ct ln : Nat} {cd : Nat → Int32} (hi : zInj ad) (hm : zInM am) (hv : zInv (nw, sv, an, hs, ct, ln, cd)) : zOpW E ad am yX5_restore wsX5_restore 5 145 yX6_restore wsX6_restore 2 43 [] (nw, sv, an, hs, ct, ln, cd) := by
  obtain ⟨hok, hsv, hhs, hct, hln, hcd⟩ := id hv
  have hok : zOk nw := hok
  have hct : ct ≤ 5 := hct
  have hln : ln ≤ 60 := hln
  rcases zbo_ca an with ha | ha
  · exact ⟨_, _, hv, c_X5_restore_0 E hok hi hct ha, c_X6_restore_0 E hok hm hct ha⟩
  · exact ⟨_, _, zInv_r hv (hsv ha), c_X5_restore_1 E hok hi hct ha (hsv ha), c_X6_restore_1 E hok hm hct ha (hsv ha)⟩
theorem op_errorPosition (E : zEnv) {ad am : Nat → Nat} {nw sv : zS} {an : Bool} {hs : Nat → zS} {ct ln : Nat} {cd : Nat → Int32} (hi : zInj ad) (hm : zInM am) (hv : zInv (nw, sv, an, hs, ct, ln, cd)) : zOpW E ad am yX5_errorPosition wsX5_errorPosition 4 88 yX6_errorPosition wsX6_errorPosition 2 47 [] (nw, sv, an, hs, ct, ln, cd) := by
  obtain ⟨hok, hsv, hhs, hct, hln, hcd⟩ := id hv
  have hok : zOk nw := hok
  have hct : ct ≤ 5 := hct
  have hln : ln ≤ 60 := hln
  have hc : ∀ j, j < ln → 33 ≤ (fun j => (cd j).toNatClampNeg) j ∧ (fun j => (cd j).toNatClampNeg) j ≤ 126 ∧ cd j = nI ((fun j => (cd j).toNatClampNeg) j) := zcw_h hcd
  rcases zbo_ca (zpt (fun j => (cd j).toNatClampNeg) ln) with hT | hT
  · exact ⟨_, _, hv, c_X5_errorPosition_1 E hok hi hct hc hln hT, c_X6_errorPosition_1 E hok hm hct hc hln hT⟩
  · exact ⟨_, _, hv, c_X5_errorPosition_0 E hok hi hct hc hln hT, c_X6_errorPosition_0 E hok hm hct hc hln hT⟩
theorem op_read (E : zEnv) {ad am : Nat → Nat} {nw sv : zS} {an : Bool} {hs : Nat → zS} {ct ln : Nat} {cd : Nat → Int32} (hi : zInj ad) (hm : zInM am) (hv : zInv (nw, sv, an, hs, ct, ln, cd)) : zOpW E ad am yX5_read wsX5_read 6 167 yX6_read wsX6_read 3 68 [] (nw, sv, an, hs, ct, ln, cd) := by
  obtain ⟨hok, hsv, hhs, hct, hln, hcd⟩ := id hv
  have hok : zOk nw := hok
  have hct : ct ≤ 5 := hct
  have hln : ln ≤ 60 := hln
  have hc : ∀ j, j < ln → 33 ≤ (fun j => (cd j).toNatClampNeg) j ∧ (fun j => (cd j).toNatClampNeg) j ≤ 126 ∧ cd j = nI ((fun j => (cd j).toNatClampNeg) j) := zcw_h hcd
  rcases zbo_ca (zpt (fun j => (cd j).toNatClampNeg) ln) with hT | hT
  · exact ⟨_, _, hv, c_X5_read_0 E hok hi hct hc hln hT, c_X6_read_0 E hok hm hct hc hln hT⟩
  · rcases zbo_ca (zall (fun t => decide (nI (zcn (zpf (fun j => (cd j).toNatClampNeg) ln).2.2 (nI (t + 1)) (zpf (fun j => (cd j).toNatClampNeg) ln).1) ≤ zBx nw (t + 1))) 5) with hb | hb
    · exact ⟨_, _, hv, c_X5_read_1 E hok hi hct hc hln hT hb, c_X6_read_1 E hok hm hct hc hln hT hb⟩
    · rcases zfd_ca (zSz nw) with hf | hf
      · exact ⟨_, _, hv, c_X5_read_2 E hok hi hct hc hln hT hb hf, c_X6_read_2 E hok hm hct hc hln hT hb hf⟩
      · have h9 := zInv_r hv (zOk_rg (zOk_bx hok (zto_k hok hb (zpf_b (fun j => (cd j).toNatClampNeg) ln).1)) hf (Or.inr (zpt_4 hT)) (zpf_k (fun j => (cd j).toNatClampNeg) ln))
        exact ⟨_, (_, sv, an, zrH hs ct nw, zrC ct, 0, cd), ⟨h9.1, hsv, h9.2.2.1, h9.2.2.2.1, Nat.zero_le _, (fun j hj => absurd hj (Nat.not_lt_zero j))⟩, c_X5_read_3 E hok hi hct hc hln hT hb hf, c_X6_read_3 E hok hm hct hc hln hT hb hf⟩
theorem op_note (E : zEnv) {ad am : Nat → Nat} {nw sv : zS} {an : Bool} {hs : Nat → zS} {ct ln : Nat} {cd : Nat → Int32} (hi : zInj ad) (hm : zInM am) (hv : zInv (nw, sv, an, hs, ct, ln, cd)) (x : Int32) : zOpW E ad am yX5_note wsX5_note 6 145 yX6_note wsX6_note 6 145 [.int x] (nw, sv, an, hs, ct, ln, cd) := by
  obtain ⟨hok, hsv, hhs, hct, hln, hcd⟩ := id hv
  have hok : zOk nw := hok
  have hct : ct ≤ 5 := hct
  have hln : ln ≤ 60 := hln
  rcases zfnd_ca (v := nw) x with h_x | ⟨r, hr, hr0, rfl⟩
  · exact ⟨_, _, hv, c_X5_note_0 E hok hi hct h_x, c_X6_note_0 E hok hm hct h_x⟩
  · have he : zff (fun t9 => zis (zSz nw (6 + t9)) (zKd nw (6 + t9)) (zSz nw r) (zKd nw r)) (zNl nw) = zff (fun t => zal (zSz nw (6 + t)) (zKd nw (6 + t)) (zSz nw r) (zKd nw r) 1) (zNl nw) := zff_cong fun t ht => zis_al ((hok.2.2.2.2.2 t ht).1.b.1)
    have hle := zff_le (fun t => zal (zSz nw (6 + t)) (zKd nw (6 + t)) (zSz nw r) (zKd nw r) 1) (zNl nw)
    have hnl : zNl nw ≤ 10 := hok.2.2.2.2.1
    rcases Nat.lt_or_ge (zff (fun t => zal (zSz nw (6 + t)) (zKd nw (6 + t)) (zSz nw r) (zKd nw r) 1) (zNl nw)) (zNl nw) with q | q
    · exact ⟨_, _, zInv_r hv (zOk_tm hok), c_X5_note_2 E hok hi hct hr hr0 rfl q, c_X6_note_2 E hok hm hct hr hr0 he q⟩
    · have q2 : zff (fun t => zal (zSz nw (6 + t)) (zKd nw (6 + t)) (zSz nw r) (zKd nw r) 1) (zNl nw) = zNl nw := by omega
      rcases Nat.lt_or_ge (zNl nw) 10 with q3 | q3
      · have h5 := c_X5_note_3 (ad := ad) (sv := sv) (an := an) (hs := hs) (ct := ct) (ln := ln) (cd := cd) E hok hi hct hr hr0 q2 ⟨rfl, q3⟩
        rw [ztm_2] at h5
        exact ⟨_, _, zInv_r hv (zOk_nl hok q3 ((hok.1 r hr).resolve_left hr0) (hok.2.1 r hr)), h5, c_X6_note_3 E hok hm hct hr hr0 (he.trans q2) q3⟩
      · have q4 : zff (fun t => zal (zSz nw (6 + t)) (zKd nw (6 + t)) (zSz nw r) (zKd nw r) 1) (zNl nw) = 10 := by omega
        exact ⟨_, _, hv, c_X5_note_1 E hok hi hct hr hr0 q4, c_X6_note_1 E hok hm hct hr hr0 (he.trans q4)⟩
