/-! cells whose contents agree where they are -/
theorem zat_cong {E : zEnv} {cA : ClassId} {a n : Nat} {f g : Nat → Int32} {H : Heap} (h : zat E a (.inl (cA, n, .inl f)) H) (e : ∀ j, j < n → f j = g j) : zat E a (.inl (cA, n, .inl g)) H := by
  have h1 : H[a]? = some (vp_cell cA (n, .inl f)) := h
  show H[a]? = some (vp_cell cA (n, .inl g))
  rw [h1, vp_cell_i, vp_cell_i]
  congr 1
  unfold arrV
  congr 1
  congr 1
  funext j
  show Value.int (f j.val) = .int (g j.val)
  rw [e j.val j.isLt]
theorem zat_congR {E : zEnv} {cA : ClassId} {a n : Nat} {f g : Nat → Option Nat} {H : Heap} (h : zat E a (.inl (cA, n, .inr (.inr (.inr (.inr f))))) H) (e : ∀ j, j < n → f j = g j) : zat E a (.inl (cA, n, .inr (.inr (.inr (.inr g))))) H := by
  have h1 : H[a]? = some (vp_cell cA (n, .inr (.inr (.inr (.inr f))))) := h
  show H[a]? = some (vp_cell cA (n, .inr (.inr (.inr (.inr g)))))
  rw [h1, vp_cell_q, vp_cell_q]
  congr 1
  unfold arrV
  congr 1
  congr 1
  funext j
  show va_rf (f j.val) = va_rf (g j.val)
  rw [e j.val j.isLt]
def zfil (f : Nat → Int32) (i : Nat) : Nat → Int32 := fun j => if j < i then 0 else f j
theorem zfil_0 (f : Nat → Int32) : zfil f 0 = f := by funext j; simp [zfil]
theorem zfil_s (f : Nat → Int32) (i : Nat) : upd (zfil f i) i (nI 0) = zfil f (i + 1) := by
  funext j
  unfold upd zfil
  by_cases h : j = i
  · subst h; simp; rfl
  · rw [if_neg h]
    by_cases h2 : j < i
    · rw [if_pos h2, if_pos (by omega)]
    · rw [if_neg h2, if_neg (by omega)]
theorem zfil_e {f : Nat → Int32} {i j : Nat} (h : j < i) : zfil f i j = 0 := if_pos h
theorem zcpy_e {f g : Nat → Int32} {n j : Nat} (h : j < n) : va_cpy f g 0 0 n j = f j := by
  unfold va_cpy
  rw [if_pos ⟨Nat.zero_le _, by omega⟩]
  congr 1; omega
