/-- what doesn't touch an object's cells leaves its world -/
theorem zCWt_kept {E : zEnv} {ad : Nat → Nat} {τ : zT} {H H1 : Heap} (h : zCWt E ad τ H) (e : ∀ q, zAC ad q → H1[q]? = H[q]?) : zCWt E ad τ H1 := by
  obtain ⟨π, tn, tt, nb, tf, hp, a1, a2, a3, a4, a5, a6, a7, a8, a9⟩ := h
  have e9 : ∀ k, k < 293 → H1[ad k]? = H[ad k]? := fun k hk => e _ ⟨k, hk, rfl⟩
  exact ⟨π, tn, tt, nb, tf, hp, zSt_keep a1 fun o ho => e9 _ (by omega), zSt_keep a2 fun o ho => e9 _ (by omega), fun i hi => zSt_keep (a3 i hi) fun o ho => e9 _ (by have := hp.1 i hi; omega), va_at.kept a4 (e9 287 (by decide)), va_at.kept a5 (e9 288 (by decide)), va_at.kept a6 (e9 289 (by decide)), va_at.kept a7 (e9 290 (by decide)), va_at.kept a8 (e9 291 (by decide)), va_at.kept a9 (e9 292 (by decide))⟩
theorem zMWt_kept {E : zEnv} {am : Nat → Nat} {τ : zT} {H H1 : Heap} (h : zMWt E am τ H) (e : ∀ q, zAM am q → H1[q]? = H[q]?) : zMWt E am τ H1 := by
  obtain ⟨z, past, kept, buf, rg, td, tm, nb, ⟨h0, h1, h2, h3, h4, h5, h6⟩, hr⟩ := h
  have e9 : ∀ k, k < 7 → H1[am k]? = H[am k]? := fun k hk => e _ ⟨k, hk, rfl⟩
  exact ⟨z, past, kept, buf, rg, td, tm, nb, ⟨va_at.kept h0 (e9 0 (by decide)), va_at.kept h1 (e9 1 (by decide)), va_at.kept h2 (e9 2 (by decide)), va_at.kept h3 (e9 3 (by decide)), va_at.kept h4 (e9 4 (by decide)), va_at.kept h5 (e9 5 (by decide)), va_at.kept h6 (e9 6 (by decide))⟩, hr⟩
