theorem zin_c1 {x : Int32} {lo hi : Nat} (hf : zin x lo hi = false) (h1 : ¬ x < nI lo) (h2 : x ≤ nI hi) : False := by
  rw [zin_t h1 (Int32.not_lt.mpr h2)] at hf; cases hf
theorem zin_c2 {x : Int32} {n : Nat} (hf : zin x 0 (n - 1) = false) (hn : 0 < n ∧ n ≤ 16) (h1 : ¬ x < 0) (h2 : x < nI n) : False := by
  rw [zix_t hn.1 (by omega) h1 (Int32.not_le.mpr h2)] at hf; cases hf
theorem zin_out {x : Int32} {hi : Nat} (hh : hi < 2 ^ 31) (h : zin x 0 hi = false) : x.toInt < 0 ∨ (hi : Int) < x.toInt := by
  rcases Int.lt_or_le x.toInt 0 with q | q
  · exact Or.inl q
  · rcases Int.lt_or_le (hi : Int) x.toInt with w | w
    · exact Or.inr w
    · exfalso
      rw [zin_t (fun z => by have := Int32.lt_iff_toInt_lt.mp z; rw [nI_toInt (by decide)] at this; omega) (fun z => by have := Int32.lt_iff_toInt_lt.mp z; rw [nI_toInt hh] at this; omega)] at h
      cases h
theorem zsc {E : zEnv} {ad : Nat → Nat} {nw sv : zS} {an : Bool} {hs : Nat → zS} {ct ln : Nat} {cd : Nat → Int32} {π : Nat → Nat} {tn tt nb : Nat} {tf : Nat → Int32} {H : Heap} (hp : zPi π) (h : zCX E ad nw sv an hs ct ln cd π tn tt nb tf H) : zCW E ad nw sv an hs ct ln cd H := ⟨π, tn, tt, nb, tf, hp, h⟩
theorem zk_ne {x : Int32} (h : zk x) (h0 : ¬ x = 0) : ∃ j : Nat, 1 ≤ j ∧ j ≤ 5 ∧ x = nI j := by
  obtain ⟨j, hj, e⟩ := h
  exact ⟨j, by rcases Nat.eq_zero_or_pos j with q | q; exact absurd (by rw [e, q]; rfl) h0; exact q, hj, e⟩
theorem zsz4_b {w : Nat} (h : zsz4 w) : zsz (nI w) = true := by rcases h with rfl | rfl | rfl | rfl <;> decide
theorem zsz_4 {x : Int32} (h : zsz x = true) : ∃ w : Nat, zsz4 w ∧ x = nI w := by
  rcases of_decide_eq_true h with rfl | rfl | rfl | rfl
  · exact ⟨4, Or.inl rfl, rfl⟩
  · exact ⟨8, Or.inr (Or.inl rfl), rfl⟩
  · exact ⟨12, Or.inr (Or.inr (Or.inl rfl)), rfl⟩
  · exact ⟨16, Or.inr (Or.inr (Or.inr rfl)), rfl⟩
theorem zcn_z (t n : Nat) (ht : 1 ≤ t) (h5 : t < 2 ^ 31) : zcn (fun _ => 0) (nI t) n = 0 := by
  induction n with
  | zero => rfl
  | succ n ih =>
    show zcn (fun _ => 0) (nI t) n + _ = 0
    rw [ih, if_neg]
    simp only [decide_eq_true_eq]
    exact fun e => absurd e.symm (nI_ne0 (by omega) h5)
theorem zbx0 {bx : Nat → Int32} {t j n : Nat} (e : bx (t + 1) = nI j) (hj : j ≤ 99 := by assumption) (ht : t < 5 := by assumption) : nI (zcn (fun _ => 0) (nI (t + 1)) n) ≤ bx (t + 1) := by
  rw [zcn_z _ _ (by omega) (by omega), e]; exact nI_le (Nat.zero_le _) (by omega)
theorem zto_z {bx : Nat → Int32} {n : Nat} {v : zS} : zsBx v (zto bx (fun t => zcn (fun _ => 0) (nI t) n) 5) = zsBx v bx := by
  congr 1
  funext t
  unfold zto
  split
  · rename_i h
    show bx t - nI (zcn (fun _ => 0) (nI t) n) = bx t
    rw [zcn_z _ _ h.1 (by omega)]
    show bx t - 0 = bx t
    exact Int32.sub_zero _
  · rfl
theorem zup_s {f : Nat → Int32} {j : Nat} {x : Int32} : upd f j x j = x := if_pos rfl
