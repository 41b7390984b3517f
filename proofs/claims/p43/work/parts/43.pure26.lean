def zCWt (E : zEnv) (ad : Nat → Nat) (τ : zT) (H : Heap) : Prop := zCW E ad τ.1 τ.2.1 τ.2.2.1 τ.2.2.2.1 τ.2.2.2.2.1 τ.2.2.2.2.2.1 τ.2.2.2.2.2.2 H
/-- what doesn't touch an object's cells leaves its world -/
theorem zCWt_kept {E : zEnv} {ad : Nat → Nat} {τ : zT} {H H1 : Heap} (h : zCWt E ad τ H) (e : ∀ q, zAC ad q → H1[q]? = H[q]?) : zCWt E ad τ H1 := by
  obtain ⟨π, tn, tt, nb, tf, hp, a1, a2, a3, a4, a5, a6, a7, a8, a9⟩ := h
  have e9 : ∀ k, k < 293 → H1[ad k]? = H[ad k]? := fun k hk => e _ ⟨k, hk, rfl⟩
  exact ⟨π, tn, tt, nb, tf, hp, zSt_keep a1 fun o ho => e9 _ (by omega), zSt_keep a2 fun o ho => e9 _ (by omega), fun i hi => zSt_keep (a3 i hi) fun o ho => e9 _ (by have := hp.1 i hi; omega), va_at.kept a4 (e9 287 (by decide)), va_at.kept a5 (e9 288 (by decide)), va_at.kept a6 (e9 289 (by decide)), va_at.kept a7 (e9 290 (by decide)), va_at.kept a8 (e9 291 (by decide)), va_at.kept a9 (e9 292 (by decide))⟩