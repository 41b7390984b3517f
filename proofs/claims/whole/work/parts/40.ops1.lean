theorem zsz_ca (x : Int32) : zsz x = false ∨ ∃ k : Nat, zsz4 k ∧ x = nI k := by
  cases q : zsz x with
  | false => exact Or.inl rfl
  | true => exact Or.inr (zsz_4 q)
/-- the class's object and the model's, by the world's words -/
def zCWt (E : zEnv) (ad : Nat → Nat) (τ : zT) (H : Heap) : Prop := zCW E ad τ.1 τ.2.1 τ.2.2.1 τ.2.2.2.1 τ.2.2.2.2.1 τ.2.2.2.2.2.1 τ.2.2.2.2.2.2 H
def zMWt (E : zEnv) (am : Nat → Nat) (τ : zT) (H : Heap) : Prop := zMW E am τ.1 τ.2.1 τ.2.2.1 τ.2.2.2.1 τ.2.2.2.2.1 τ.2.2.2.2.2.1 τ.2.2.2.2.2.2 H
/-- both objects answer alike, and their worlds stay alike -/
def zOpW (E : zEnv) (ad am : Nat → Nat) (yc : MethodName) (wc : List Cond) (fc lc : Nat) (ym : MethodName) (wm : List Cond) (fm lm : Nat) (As : List Value) (τ : zT) : Prop :=
  ∃ (r : Int32) (τ' : zT), zInv τ' ∧ zWR E yc wc fc lc (.ref (ad 287) :: As) (fun H => zCWt E ad τ H) (some (.int r)) (fun H => zCWt E ad τ' H) (zAC ad) ∧ zWR E ym wm fm lm (.ref (am 0) :: As) (fun H => zMWt E am τ H) (some (.int r)) (fun H => zMWt E am τ' H) (zAM am)
def zOpR (E : zEnv) (ad am : Nat → Nat) (yc : MethodName) (wc : List Cond) (fc lc : Nat) (ym : MethodName) (wm : List Cond) (fm lm : Nat) (As : List Value) (τ : zT) : Prop :=
  ∃ r : Int32, zRO E yc wc fc lc (.ref (ad 287) :: As) (fun H => zCWt E ad τ H) (some (.int r)) ∧ zRO E ym wm fm lm (.ref (am 0) :: As) (fun H => zMWt E am τ H) (some (.int r))

theorem op_fill (E : zEnv) {ad am : Nat → Nat} {nw sv : zS} {an : Bool} {hs : Nat → zS} {ct ln : Nat} {cd : Nat → Int32} (hi : zInj ad) (hm : zInM am) (hv : zInv (nw, sv, an, hs, ct, ln, cd)) (x : Int32) (y : Int32) : zOpW E ad am yX5_fill wsX5_fill 5 145 yX6_fill wsX6_fill 2 42 [.int x, .int y] (nw, sv, an, hs, ct, ln, cd) := by
  obtain ⟨hok, hsv, hhs, hct, hln, hcd⟩ := id hv
  have hok : zOk nw := hok
  have hct : ct ≤ 5 := hct
  have hln : ln ≤ 60 := hln
  rcases zin_ca x (lo := 1) (hi := 5) (by omega) (by omega) with h_x | ⟨j, j1, j2, rfl⟩
  · exact ⟨_, _, hv, c_X5_fill_0 E hok hi hct h_x, c_X6_fill_0 E hok hm hct h_x⟩
  · rcases zin_ca y (lo := 0) (hi := 99) (by omega) (by omega) with h_y | ⟨k, k1, k2, rfl⟩
    · exact ⟨_, _, hv, c_X5_fill_1 E hok hi hct ⟨j1, j2⟩ h_y, c_X6_fill_1 E hok hm hct ⟨j1, j2⟩ h_y⟩
    · exact ⟨_, _, zInv_r hv (zOk_bx1 hok k2), c_X5_fill_2 E hok hi hct ⟨j1, j2⟩ ⟨k1, k2⟩, c_X6_fill_2 E hok hm hct ⟨j1, j2⟩ ⟨k1, k2⟩⟩
theorem op_weigh (E : zEnv) {ad am : Nat → Nat} {nw sv : zS} {an : Bool} {hs : Nat → zS} {ct ln : Nat} {cd : Nat → Int32} (hi : zInj ad) (hm : zInM am) (hv : zInv (nw, sv, an, hs, ct, ln, cd)) (x : Int32) (y : Int32) : zOpW E ad am yX5_weigh wsX5_weigh 5 145 yX6_weigh wsX6_weigh 2 42 [.int x, .int y] (nw, sv, an, hs, ct, ln, cd) := by
  obtain ⟨hok, hsv, hhs, hct, hln, hcd⟩ := id hv
  have hok : zOk nw := hok
  have hct : ct ≤ 5 := hct
  have hln : ln ≤ 60 := hln
  rcases zin_ca x (lo := 1) (hi := 5) (by omega) (by omega) with h_x | ⟨j, j1, j2, rfl⟩
  · exact ⟨_, _, hv, c_X5_weigh_0 E hok hi hct h_x, c_X6_weigh_0 E hok hm hct h_x⟩
  · rcases zin_ca y (lo := 1) (hi := 50) (by omega) (by omega) with h_y | ⟨k, k1, k2, rfl⟩
    · exact ⟨_, _, hv, c_X5_weigh_1 E hok hi hct ⟨j1, j2⟩ h_y, c_X6_weigh_1 E hok hm hct ⟨j1, j2⟩ h_y⟩
    · exact ⟨_, _, zInv_r hv (zOk_wt hok), c_X5_weigh_2 E hok hi hct ⟨j1, j2⟩ ⟨k1, k2⟩, c_X6_weigh_2 E hok hm hct ⟨j1, j2⟩ ⟨k1, k2⟩⟩
theorem op_make (E : zEnv) {ad am : Nat → Nat} {nw sv : zS} {an : Bool} {hs : Nat → zS} {ct ln : Nat} {cd : Nat → Int32} (hi : zInj ad) (hm : zInM am) (hv : zInv (nw, sv, an, hs, ct, ln, cd)) (x : Int32) : zOpW E ad am yX5_make wsX5_make 6 167 yX6_make wsX6_make 2 43 [.int x] (nw, sv, an, hs, ct, ln, cd) := by
  obtain ⟨hok, hsv, hhs, hct, hln, hcd⟩ := id hv
  have hok : zOk nw := hok
  have hct : ct ≤ 5 := hct
  have hln : ln ≤ 60 := hln
  rcases zsz_ca x with h_x | ⟨k, hk, rfl⟩
  · exact ⟨_, _, hv, c_X5_make_0 E hok hi hct h_x, c_X6_make_0 E hok hm hct h_x⟩
  · rcases zfd_ca (zSz nw) with hf | hf
    · exact ⟨_, _, hv, c_X5_make_1 E hok hi hct hk hf, c_X6_make_1 E hok hm hct hk hf⟩
    · exact ⟨_, _, zInv_r hv (zOk_rg hok hf (Or.inr hk) (fun s _ => ⟨0, by decide, rfl⟩)), c_X5_make_2 E hok hi hct hk hf, c_X6_make_2 E hok hm hct hk hf⟩
theorem op_copy (E : zEnv) {ad am : Nat → Nat} {nw sv : zS} {an : Bool} {hs : Nat → zS} {ct ln : Nat} {cd : Nat → Int32} (hi : zInj ad) (hm : zInM am) (hv : zInv (nw, sv, an, hs, ct, ln, cd)) (x : Int32) : zOpW E ad am yX5_copy wsX5_copy 6 167 yX6_copy wsX6_copy 3 67 [.int x] (nw, sv, an, hs, ct, ln, cd) := by
  obtain ⟨hok, hsv, hhs, hct, hln, hcd⟩ := id hv
  have hok : zOk nw := hok
  have hct : ct ≤ 5 := hct
  have hln : ln ≤ 60 := hln
  rcases zfnd_ca (v := nw) x with h_x | ⟨r, hr, hr0, rfl⟩
  · exact ⟨_, _, hv, c_X5_copy_0 E hok hi hct h_x, c_X6_copy_0 E hok hm hct h_x⟩
  · rcases zbo_ca (zall (fun t => decide (nI (zcn (zKd nw r) (nI (t + 1)) (zSz nw r)) ≤ zBx nw (t + 1))) 5) with hb | hb
    · exact ⟨_, _, hv, c_X5_copy_1 E hok hi hct hr hr0 hb, c_X6_copy_1 E hok hm hct hr hr0 hb⟩
    · rcases zfd_ca (zSz nw) with hf | hf
      · exact ⟨_, _, hv, c_X5_copy_2 E hok hi hct hr hr0 hb hf, c_X6_copy_2 E hok hm hct hr hr0 hb hf⟩
      · exact ⟨_, _, zInv_r hv (zOk_rg (zOk_bx hok (zto_k hok hb (hok.h16 r hr))) hf (hok.1 r hr) (hok.2.1 r hr)), c_X5_copy_3 E hok hi hct hr hr0 hb hf, c_X6_copy_3 E hok hm hct hr hr0 hb hf⟩
theorem op_remove (E : zEnv) {ad am : Nat → Nat} {nw sv : zS} {an : Bool} {hs : Nat → zS} {ct ln : Nat} {cd : Nat → Int32} (hi : zInj ad) (hm : zInM am) (hv : zInv (nw, sv, an, hs, ct, ln, cd)) (x : Int32) : zOpW E ad am yX5_remove wsX5_remove 5 145 yX6_remove wsX6_remove 4 88 [.int x] (nw, sv, an, hs, ct, ln, cd) := by
  obtain ⟨hok, hsv, hhs, hct, hln, hcd⟩ := id hv
  have hok : zOk nw := hok
  have hct : ct ≤ 5 := hct
  have hln : ln ≤ 60 := hln
  rcases zfnd_ca (v := nw) x with h_x | ⟨r, hr, hr0, rfl⟩
  · exact ⟨_, _, hv, c_X5_remove_0 E hok hi hct h_x, c_X6_remove_0 E hok hm hct h_x⟩
  · rcases zbo_ca (zall (fun t => decide (zBx nw (t + 1) + nI (zcn (zKd nw r) (nI (t + 1)) (zSz nw r)) ≤ nI 99)) 5) with hb | hb
    · exact ⟨_, _, hv, c_X5_remove_1 E hok hi hct hr hr0 hb, c_X6_remove_1 E hok hm hct hr hr0 hb⟩
    · exact ⟨_, _, zInv_r hv (zOk_rg (zOk_bx hok (zti_k hok hb (hok.h16 r hr))) hr (Or.inl rfl) (fun s h => absurd h (Nat.not_lt_zero s))), c_X5_remove_2 E hok hi hct hr hr0 hb, c_X6_remove_2 E hok hm hct hr hr0 hb⟩
theorem op_hang (E : zEnv) {ad am : Nat → Nat} {nw sv : zS} {an : Bool} {hs : Nat → zS} {ct ln : Nat} {cd : Nat → Int32} (hi : zInj ad) (hm : zInM am) (hv : zInv (nw, sv, an, hs, ct, ln, cd)) (x : Int32) (y : Int32) (w : Int32) : zOpW E ad am yX5_hang wsX5_hang 5 145 yX6_hang wsX6_hang 3 65 [.int x, .int y, .int w] (nw, sv, an, hs, ct, ln, cd) := by
  obtain ⟨hok, hsv, hhs, hct, hln, hcd⟩ := id hv
  have hok : zOk nw := hok
  have hct : ct ≤ 5 := hct
  have hln : ln ≤ 60 := hln
  rcases zfnd_ca (v := nw) x with h_x | ⟨r, hr, hr0, rfl⟩
  · exact ⟨_, _, hv, c_X5_hang_0 E hok hi hct h_x, c_X6_hang_0 E hok hm hct h_x⟩
  · have hn := hok.sz hr hr0
    rcases zin_ca y (lo := 0) (hi := zSz nw r - 1) (by omega) (by omega) with h_y | ⟨j, -, j9, rfl⟩
    · exact ⟨_, _, hv, c_X5_hang_1 E hok hi hct hr hr0 h_y, c_X6_hang_1 E hok hm hct hr hr0 h_y⟩
    · have jh : j < zSz nw r := by omega
      rcases zin_ca w (lo := 1) (hi := 5) (by omega) (by omega) with h_w | ⟨k, k1, k2, rfl⟩
      · exact ⟨_, _, hv, c_X5_hang_2 E hok hi hct hr hr0 jh h_w, c_X6_hang_2 E hok hm hct hr hr0 jh h_w⟩
      · rcases Classical.em (zKd nw r j = 0) with he | he
        · obtain ⟨u, hu, eu⟩ := hok.2.2.1 k k1 k2
          rcases u with _ | u
          · exact ⟨_, _, hv, c_X5_hang_4 E hok hi hct hr hr0 jh ⟨k1, k2⟩ he eu, c_X6_hang_4 E hok hm hct hr hr0 jh ⟨k1, k2⟩ he eu⟩
          · exact ⟨_, _, zInv_r hv (zOk_bx1 (v := zsRg nw r (zSz nw r) (upd (zKd nw r) j (nI k))) (zOk_rg hok hr (hok.1 r hr) (zup_k k2 (hok.2.1 r hr))) (by omega)), c_X5_hang_5 E hok hi hct hr hr0 jh ⟨k1, k2⟩ he ⟨eu, by omega⟩, c_X6_hang_5 E hok hm hct hr hr0 jh ⟨k1, k2⟩ he ⟨eu, by omega⟩⟩
        · exact ⟨_, _, hv, c_X5_hang_3 E hok hi hct hr hr0 jh ⟨k1, k2⟩ he, c_X6_hang_3 E hok hm hct hr hr0 jh ⟨k1, k2⟩ he⟩
theorem op_takeOff (E : zEnv) {ad am : Nat → Nat} {nw sv : zS} {an : Bool} {hs : Nat → zS} {ct ln : Nat} {cd : Nat → Int32} (hi : zInj ad) (hm : zInM am) (hv : zInv (nw, sv, an, hs, ct, ln, cd)) (x : Int32) (y : Int32) : zOpW E ad am yX5_takeOff wsX5_takeOff 5 145 yX6_takeOff wsX6_takeOff 3 65 [.int x, .int y] (nw, sv, an, hs, ct, ln, cd) := by
  obtain ⟨hok, hsv, hhs, hct, hln, hcd⟩ := id hv
  have hok : zOk nw := hok
  have hct : ct ≤ 5 := hct
  have hln : ln ≤ 60 := hln
  rcases zfnd_ca (v := nw) x with h_x | ⟨r, hr, hr0, rfl⟩
  · exact ⟨_, _, hv, c_X5_takeOff_0 E hok hi hct h_x, c_X6_takeOff_0 E hok hm hct h_x⟩
  · have hn := hok.sz hr hr0
    rcases zin_ca y (lo := 0) (hi := zSz nw r - 1) (by omega) (by omega) with h_y | ⟨j, -, j9, rfl⟩
    · exact ⟨_, _, hv, c_X5_takeOff_1 E hok hi hct hr hr0 h_y, c_X6_takeOff_1 E hok hm hct hr hr0 h_y⟩
    · have jh : j < zSz nw r := by omega
      obtain ⟨k, k2, he⟩ := hok.2.1 r hr j jh
      rcases Nat.eq_zero_or_pos k with k0 | k1
      · subst k0
        exact ⟨_, _, hv, c_X5_takeOff_2 E hok hi hct hr hr0 jh he, c_X6_takeOff_2 E hok hm hct hr hr0 jh he⟩
      · obtain ⟨u, hu, eu⟩ := hok.2.2.1 k k1 k2
        rcases Nat.lt_or_ge u 99 with u9 | u9
        · exact ⟨_, _, zInv_r hv (zOk_bx1 (v := zsRg nw r (zSz nw r) (upd (zKd nw r) j (nI 0))) (zOk_rg hok hr (hok.1 r hr) (zup_k (Nat.zero_le _) (hok.2.1 r hr))) (by omega)), c_X5_takeOff_4 E hok hi hct hr hr0 jh ⟨k1, k2⟩ he ⟨eu, u9⟩, c_X6_takeOff_4 E hok hm hct hr hr0 jh ⟨k1, k2⟩ he ⟨eu, u9⟩⟩
        · obtain rfl : u = 99 := by omega
          exact ⟨_, _, hv, c_X5_takeOff_3 E hok hi hct hr hr0 jh ⟨k1, k2⟩ he eu, c_X6_takeOff_3 E hok hm hct hr hr0 jh ⟨k1, k2⟩ he eu⟩
theorem op_swap (E : zEnv) {ad am : Nat → Nat} {nw sv : zS} {an : Bool} {hs : Nat → zS} {ct ln : Nat} {cd : Nat → Int32} (hi : zInj ad) (hm : zInM am) (hv : zInv (nw, sv, an, hs, ct, ln, cd)) (x : Int32) (y : Int32) (w : Int32) : zOpW E ad am yX5_swap wsX5_swap 5 145 yX6_swap wsX6_swap 4 89 [.int x, .int y, .int w] (nw, sv, an, hs, ct, ln, cd) := by
  obtain ⟨hok, hsv, hhs, hct, hln, hcd⟩ := id hv
  have hok : zOk nw := hok
  have hct : ct ≤ 5 := hct
  have hln : ln ≤ 60 := hln
  rcases zfnd_ca (v := nw) x with h_x | ⟨r, hr, hr0, rfl⟩
  · exact ⟨_, _, hv, c_X5_swap_0 E hok hi hct h_x, c_X6_swap_0 E hok hm hct h_x⟩
  · have hn := hok.sz hr hr0
    rcases zin_ca y (lo := 0) (hi := zSz nw r - 1) (by omega) (by omega) with h_y | ⟨j, -, j9, rfl⟩
    · exact ⟨_, _, hv, c_X5_swap_1 E hok hi hct hr hr0 h_y, c_X6_swap_1 E hok hm hct hr hr0 h_y⟩
    · have jh : j < zSz nw r := by omega
      rcases zin_ca w (lo := 0) (hi := zSz nw r - 1) (by omega) (by omega) with h_w | ⟨k, -, k9, rfl⟩
      · exact ⟨_, _, hv, c_X5_swap_2 E hok hi hct hr hr0 jh h_w, c_X6_swap_2 E hok hm hct hr hr0 jh h_w⟩
      · have kh : k < zSz nw r := by omega
        exact ⟨_, _, zInv_r hv (zOk_rg hok hr (hok.1 r hr) (fun s hs => zxc_k (hok.2.1 r hr) jh kh hs)), c_X5_swap_3 E hok hi hct hr hr0 jh kh (fun s hs => zxc_k (hok.2.1 r hr) jh kh hs), c_X6_swap_3 E hok hm hct hr hr0 jh kh⟩
theorem op_roll (E : zEnv) {ad am : Nat → Nat} {nw sv : zS} {an : Bool} {hs : Nat → zS} {ct ln : Nat} {cd : Nat → Int32} (hi : zInj ad) (hm : zInM am) (hv : zInv (nw, sv, an, hs, ct, ln, cd)) (x : Int32) (y : Int32) : zOpW E ad am yX5_roll wsX5_roll 6 169 yX6_roll wsX6_roll 4 95 [.int x, .int y] (nw, sv, an, hs, ct, ln, cd) := by
  obtain ⟨hok, hsv, hhs, hct, hln, hcd⟩ := id hv
  have hok : zOk nw := hok
  have hct : ct ≤ 5 := hct
  have hln : ln ≤ 60 := hln
  rcases zfnd_ca (v := nw) x with h_x | ⟨r, hr, hr0, rfl⟩
  · exact ⟨_, _, hv, c_X5_roll_0 E hok hi hct h_x, c_X6_roll_0 E hok hm hct h_x⟩
  · have hn := hok.sz hr hr0
    rcases zin_ca y (lo := 0) (hi := zSz nw r - 1) (by omega) (by omega) with h_y | ⟨j, -, j9, rfl⟩
    · exact ⟨_, _, hv, c_X5_roll_1 E hok hi hct hr hr0 h_y, c_X6_roll_1 E hok hm hct hr hr0 h_y⟩
    · have jh : j < zSz nw r := by omega
      exact ⟨_, _, zInv_r hv (zOk_rg hok hr (hok.1 r hr) (zpm_k (fun s => zimg_kk hn.1 (hok.2.1 r hr)))), c_X5_roll_2 E hok hi hct hr hr0 jh, c_X6_roll_2 E hok hm hct hr hr0 jh⟩
theorem op_turn (E : zEnv) {ad am : Nat → Nat} {nw sv : zS} {an : Bool} {hs : Nat → zS} {ct ln : Nat} {cd : Nat → Int32} (hi : zInj ad) (hm : zInM am) (hv : zInv (nw, sv, an, hs, ct, ln, cd)) (x : Int32) (y : Int32) : zOpW E ad am yX5_turn wsX5_turn 6 169 yX6_turn wsX6_turn 4 95 [.int x, .int y] (nw, sv, an, hs, ct, ln, cd) := by
  obtain ⟨hok, hsv, hhs, hct, hln, hcd⟩ := id hv
  have hok : zOk nw := hok
  have hct : ct ≤ 5 := hct
  have hln : ln ≤ 60 := hln
  rcases zfnd_ca (v := nw) x with h_x | ⟨r, hr, hr0, rfl⟩
  · exact ⟨_, _, hv, c_X5_turn_0 E hok hi hct h_x, c_X6_turn_0 E hok hm hct h_x⟩
  · have hn := hok.sz hr hr0
    rcases zin_ca y (lo := 0) (hi := 3) (by omega) (by omega) with h_y | ⟨j, j1, j2, rfl⟩
    · exact ⟨_, _, hv, c_X5_turn_1 E hok hi hct hr hr0 h_y, c_X6_turn_1 E hok hm hct hr hr0 h_y⟩
    · exact ⟨_, _, zInv_r hv (zOk_rg hok hr (hok.1 r hr) (zpm_k (fun s => zimg_kk hn.1 (hok.2.1 r hr)))), c_X5_turn_2 E hok hi hct hr hr0 (show j < 4 by omega), c_X6_turn_2 E hok hm hct hr hr0 (show j < 4 by omega)⟩
theorem op_mirror (E : zEnv) {ad am : Nat → Nat} {nw sv : zS} {an : Bool} {hs : Nat → zS} {ct ln : Nat} {cd : Nat → Int32} (hi : zInj ad) (hm : zInM am) (hv : zInv (nw, sv, an, hs, ct, ln, cd)) (x : Int32) : zOpW E ad am yX5_mirror wsX5_mirror 6 169 yX6_mirror wsX6_mirror 4 95 [.int x] (nw, sv, an, hs, ct, ln, cd) := by
  obtain ⟨hok, hsv, hhs, hct, hln, hcd⟩ := id hv
  have hok : zOk nw := hok
  have hct : ct ≤ 5 := hct
  have hln : ln ≤ 60 := hln
  rcases zfnd_ca (v := nw) x with h_x | ⟨r, hr, hr0, rfl⟩
  · exact ⟨_, _, hv, c_X5_mirror_0 E hok hi hct h_x, c_X6_mirror_0 E hok hm hct h_x⟩
  · have hn := hok.sz hr hr0
    exact ⟨_, _, zInv_r hv (zOk_rg hok hr (hok.1 r hr) (zpm_k (fun s => zimg_kk hn.1 (hok.2.1 r hr)))), c_X5_mirror_1 E hok hi hct hr hr0, c_X6_mirror_1 E hok hm hct hr hr0⟩
