theorem zmo_ge {v ml : Nat} (h : ml ≤ v) (hv : v < 2 ^ 31) : ml = 0 ∨ zin (nI v) 0 (ml - 1) = false := by
  rcases Nat.eq_zero_or_pos ml with q | q
  · exact Or.inl q
  · exact Or.inr (zin_n (Or.inr (by omega)) hv (by omega) (by omega))
theorem zfnd_no {sz : Nat → Nat} {i : Nat} (h : i < 6) (h0 : sz i = 0) : zfnd sz (nI i) = none := by
  unfold zfnd
  rw [nI_clamp (by omega), if_neg (fun q => q.2 h0)]
theorem zup_kk {n j : Nat} {x : Int32} {f : Nat → Int32} (h : ∀ s, s < n → zk (f s)) (hx : zk x) : ∀ s, s < n → zk (upd f j x s) := fun s hs => by
  unfold upd; split
  · exact hx
  · exact h s hs
