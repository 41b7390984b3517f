/-! what a new object holds -/
def zAQ (b d i : Nat) : Nat → Option Nat := fun j => if j < i then some (b + d * j) else none
theorem zAQ_0 (b d : Nat) : zAQ b d 0 = fun _ => none := by funext j; simp [zAQ]
theorem zAQ_s (b d i : Nat) : va_up (zAQ b d i) i (some (b + d * i)) = zAQ b d (i + 1) := by
  funext j
  unfold va_up zAQ
  by_cases h : j = i
  · subst h; rw [if_pos rfl, if_pos (by omega)]
  · rw [if_neg h]
    by_cases h2 : j < i
    · rw [if_pos h2, if_pos (by omega)]
    · rw [if_neg h2, if_neg (by omega)]
def zb0 (i : Nat) : Nat → Int32 := fun j => if 1 ≤ j ∧ j < i then nI 12 else 0
def zw0 (i : Nat) : Nat → Int32 := fun j => if 1 ≤ j ∧ j < i then nI (2 * j) else 0
theorem zb0_0 : zb0 1 = fun _ => 0 := by funext j; unfold zb0; rw [if_neg (by omega)]
theorem zw0_0 : zw0 1 = fun _ => 0 := by funext j; unfold zw0; rw [if_neg (by omega)]
theorem zb0_s {i : Nat} (h0 : 1 ≤ i) : upd (zb0 i) i (nI 12) = zb0 (i + 1) := by
  funext j
  unfold upd zb0
  by_cases h : j = i
  · subst h; rw [if_pos rfl, if_pos (by omega)]
  · rw [if_neg h]
    by_cases h2 : 1 ≤ j ∧ j < i
    · rw [if_pos h2, if_pos (by omega)]
    · rw [if_neg h2, if_neg (by omega)]
theorem zw0_s {i : Nat} (h0 : 1 ≤ i) : upd (zw0 i) i (nI (2 * i)) = zw0 (i + 1) := by
  funext j
  unfold upd zw0
  by_cases h : j = i
  · subst h; rw [if_pos rfl, if_pos (by omega)]
  · rw [if_neg h]
    by_cases h2 : 1 ≤ j ∧ j < i
    · rw [if_pos h2, if_pos (by omega)]
    · rw [if_neg h2, if_neg (by omega)]
/-- the model's row of numbers, as its constructor fills it -/
def zm0 (i : Nat) : Nat → Int32 := fun j => if j + 1 < i then nI 12 else if 5 ≤ j ∧ j < i + 4 then nI (2 * (j - 4)) else 0
theorem zm0_0 : zm0 1 = fun _ => 0 := by funext j; unfold zm0; rw [if_neg (by omega), if_neg (by omega)]
theorem zm0_s {i : Nat} (h0 : 1 ≤ i) (h5 : i ≤ 5) : upd (upd (zm0 i) (0 + i - 1) (nI 12)) (5 + i - 1) (nI (2 * i)) = zm0 (i + 1) := by
  funext j
  unfold upd zm0
  by_cases h : j = 5 + i - 1
  · rw [if_pos h, if_neg (by omega), if_pos (by omega), show j - 4 = i by omega]
  · rw [if_neg h]
    by_cases h2 : j = 0 + i - 1
    · rw [if_pos h2, if_pos (by omega)]
    · rw [if_neg h2]
      by_cases h3 : j + 1 < i
      · rw [if_pos h3, if_pos (by omega)]
      · rw [if_neg h3, if_neg (show ¬ (j + 1 < i + 1) by omega)]
        by_cases h4 : 5 ≤ j ∧ j < i + 4
        · rw [if_pos h4, if_pos (by omega)]
        · rw [if_neg h4, if_neg (by omega)]
def zv0 : zS := (zb0 6, zw0 6, fun _ => 0, fun _ _ => 0, 0, fun _ => 0, 0, fun _ => 0)
def zt0 : zT := (zv0, zv0, false, fun _ => zv0, 0, 0, fun _ => 0)
theorem zOk_0 : zOk zv0 := by
  refine ⟨fun t _ => Or.inl rfl, fun t _ s9 h => absurd h (Nat.not_lt_zero s9), fun k a b => ⟨12, by decide, ?_⟩, Nat.zero_le _, Nat.zero_le _, fun e9 h => absurd h (Nat.not_lt_zero e9)⟩
  show zb0 6 k = nI 12
  unfold zb0
  rw [if_pos ⟨a, by omega⟩]
theorem zInv_0 : zInv zt0 := ⟨zOk_0, (fun h => by cases h), fun i h => absurd h (Nat.not_lt_zero i), Nat.zero_le _, Nat.zero_le _, fun j h => absurd h (Nat.not_lt_zero j)⟩
/-- where a state's cells lie behind it, and the object's behind its own -/
def zof (o : Nat) : Nat := if o < 9 then o else if o < 21 then o + 20 else o - 12
def zgf (k : Nat) : Nat := if k < 41 then 1 + zof k else if k < 82 then 42 + zof (k - 41) else if k < 287 then 88 + 41 * ((k - 82) / 41) + zof ((k - 82) % 41) else if k = 287 then 0 else if k = 288 then 83 else if k = 289 then 84 else if k = 290 then 85 else if k = 291 then 86 else 87
theorem zgf_inj : ∀ i, i < 293 → ∀ j, j < 293 → zgf i = zgf j → i = j := by decide +kernel
theorem zgf_inj2 (A : Nat) : zInj (fun k => A + zgf k) := fun i j hi hj h => zgf_inj i hi j hj (by have h : A + zgf i = A + zgf j := h; omega)
theorem zgf_st {i o : Nat} (ho : o < 41) : zgf (41 * (2 + i) + o) = if i < 5 then 88 + 41 * i + zof o else zgf (41 * (2 + i) + o) := by
  by_cases h : i < 5
  · rw [if_pos h]
    unfold zgf
    rw [if_neg (by omega), if_neg (by omega), if_pos (by omega), show (41 * (2 + i) + o - 82) / 41 = i by omega, show (41 * (2 + i) + o - 82) % 41 = o by omega]
  · rw [if_neg h]
theorem arrV_cg {cA : ClassId} {n : Nat} {f g : Nat → Value} (h : ∀ j, j < n → f j = g j) : arrV cA n f = arrV cA n g := by
  unfold arrV
  have e : (fun j : Fin n => f j.val) = fun j : Fin n => g j.val := funext fun j => h j.val j.isLt
  rw [e]
theorem zat_cg {E : zEnv} {x n : Nat} {cA : ClassId} {f g : Nat → Option Nat} {H : Heap} (h : zat E x (.inl (cA, n, .inr (.inr (.inr (.inr f))))) H) (e : ∀ j, j < n → f j = g j) : zat E x (.inl (cA, n, .inr (.inr (.inr (.inr g))))) H := by
  show H[x]? = some (vp_cell _ _)
  have h : H[x]? = some (vp_cell _ _) := h
  rw [vp_cell_q] at h ⊢
  rw [h, arrV_cg fun j hj => congrArg va_rf (e j hj)]
theorem zSt_ad {E : zEnv} {ad ad' : Nat → Nat} {b b' : Nat} {v : zS} {H : Heap} (e : ∀ o, o < 41 → ad (b + o) = ad' (b' + o)) (h : zStA E ad b v H) : zStA E ad' b' v H := by
  obtain ⟨h0, h1, h2, h3, ⟨h4, h5⟩, h6, h7, h8, hR⟩ := h
  have e0 : ad b = ad' b' := e 0 (by decide)
  have e1 := e 1 (by decide)
  have e2 := e 2 (by decide)
  have e3 := e 3 (by decide)
  have e4 := e 4 (by decide)
  have e5 := e 5 (by decide)
  have e6 := e 6 (by decide)
  have e7 := e 7 (by decide)
  have e8 := e 8 (by decide)
  rw [e0, e1, e2, e3, e4, e6] at h0
  rw [e1] at h1
  rw [e2] at h2
  rw [e3] at h3
  rw [e4, e5] at h4
  rw [e5] at h5
  rw [e6, e7, e8] at h6
  rw [e7] at h7
  rw [e8] at h8
  refine ⟨h0, h1, h2, zat_cg h3 fun j hj => ?_, ⟨h4, h5⟩, h6, zat_cg h7 fun j hj => ?_, h8, fun r hr => ?_⟩
  · show some (ad (b + 9 + 2 * j)) = some (ad' (b' + 9 + 2 * j))
    rw [show b + 9 + 2 * j = b + (9 + 2 * j) by omega, show b' + 9 + 2 * j = b' + (9 + 2 * j) by omega, e _ (by omega)]
  · show some (ad (b + 21 + 2 * j)) = some (ad' (b' + 21 + 2 * j))
    rw [show b + 21 + 2 * j = b + (21 + 2 * j) by omega, show b' + 21 + 2 * j = b' + (21 + 2 * j) by omega, e _ (by omega)]
  · have hr9 := hR r hr
    rw [show b + 9 + 2 * r = b + (9 + 2 * r) by omega, show b + 10 + 2 * r = b + (10 + 2 * r) by omega, e _ (by omega), e _ (by omega)] at hr9
    rw [show b' + 9 + 2 * r = b' + (9 + 2 * r) by omega, show b' + 10 + 2 * r = b' + (10 + 2 * r) by omega]
    exact hr9
/-- a new list, by its own address -/
def zNL0 (E : zEnv) (a : Nat) (H : Heap) : Prop := zat E a (.inr (1, [.int (nI 0), .ref (a + 1), .ref (a + 2)])) H ∧ zat E (a + 1) (.inl (zRg E, 10, .inr (.inr (.inr (.inr (zAQ (a + 3) 2 10)))))) H ∧ zat E (a + 2) (.inl (zI E, 10, .inl (fun _ => 0))) H ∧ ∀ t, t < 10 → zRing E (a + 3 + 2 * t) (a + 3 + 2 * t + 1) 0 (fun _ => 0) H
def zSt0 (E : zEnv) (a : Nat) (H : Heap) : Prop := zStA E (fun k => a + zof k) 0 zv0 H
theorem zSt0_of {E : zEnv} {a : Nat} {H : Heap} (h0 : zat E a (.inr (3, [.ref (a + 1), .ref (a + 2), .ref (a + 3), .ref (a + 4), .ref (a + 6)])) H) (h1 : zat E (a + 1) (.inl (zI E, 6, .inl (zb0 6))) H) (h2 : zat E (a + 2) (.inl (zI E, 6, .inl (zw0 6))) H) (h3 : zat E (a + 3) (.inl (zRg E, 6, .inr (.inr (.inr (.inr (zAQ (a + 29) 2 6)))))) H) (h4 : zMo E (a + 4) (a + 5) 0 (fun _ => 0) H) (h5 : zNL0 E (a + 6) H) (h6 : ∀ t, t < 6 → zRing E (a + 29 + 2 * t) (a + 29 + 2 * t + 1) 0 (fun _ => 0) H) : zSt0 E a H := by
  obtain ⟨h5, h7, h8, h9⟩ := h5
  refine ⟨h0, h1, h2, zat_cg h3 fun j hj => ?_, h4, h5, zat_cg h7 fun j hj => ?_, h8, fun r hr => ?_⟩
  · show zAQ (a + 29) 2 6 j = some (a + zof (0 + 9 + 2 * j))
    unfold zAQ zof
    rw [if_pos hj, if_neg (by omega), if_pos (by omega)]
    exact congrArg some (by omega)
  · show zAQ (a + 6 + 3) 2 10 j = some (a + zof (0 + 21 + 2 * j))
    unfold zAQ zof
    rw [if_pos hj, if_neg (by omega), if_neg (by omega)]
    exact congrArg some (by omega)
  · show zRing E (a + zof (0 + 9 + 2 * r)) (a + zof (0 + 10 + 2 * r)) 0 (fun _ => 0) H
    by_cases q : r < 6
    · have h := h6 r q
      rw [show zof (0 + 9 + 2 * r) = 29 + 2 * r by unfold zof; rw [if_neg (by omega), if_pos (by omega)]; omega, show zof (0 + 10 + 2 * r) = 30 + 2 * r by unfold zof; rw [if_neg (by omega), if_pos (by omega)]; omega]
      rw [show a + 29 + 2 * r + 1 = a + (30 + 2 * r) by omega, show a + 29 + 2 * r = a + (29 + 2 * r) by omega] at h
      exact h
    · have h := h9 (r - 6) (by omega)
      rw [show zof (0 + 9 + 2 * r) = 2 * r - 3 by unfold zof; rw [if_neg (by omega), if_neg (by omega)]; omega, show zof (0 + 10 + 2 * r) = 2 * r - 2 by unfold zof; rw [if_neg (by omega), if_neg (by omega)]; omega]
      rw [show a + 6 + 3 + 2 * (r - 6) + 1 = a + (2 * r - 2) by omega, show a + 6 + 3 + 2 * (r - 6) = a + (2 * r - 3) by omega] at h
      exact h
theorem zSt0_keep {E : zEnv} {a : Nat} {H H1 : Heap} (h : zSt0 E a H) (e : ∀ q, a ≤ q → q < a + 41 → H1[q]? = H[q]?) : zSt0 E a H1 := zSt_keep h fun o ho => by
  show H1[a + zof (0 + o)]? = H[a + zof (0 + o)]?
  have : zof (0 + o) < 41 := by unfold zof; split; omega; split <;> omega
  exact e _ (by omega) (by omega)
theorem zNL0_keep {E : zEnv} {a : Nat} {H H1 : Heap} (h : zNL0 E a H) (e : ∀ q, a ≤ q → q < a + 23 → H1[q]? = H[q]?) : zNL0 E a H1 := by
  obtain ⟨h5, h7, h8, h9⟩ := h
  exact ⟨va_at.kept h5 (e a (by omega) (by omega)), va_at.kept h7 (e (a + 1) (by omega) (by omega)), va_at.kept h8 (e (a + 2) (by omega) (by omega)), fun t ht => zR_keep (h9 t ht) (e _ (by omega) (by omega)) (e _ (by omega) (by omega))⟩
theorem zCWt_of {E : zEnv} {a : Nat} {H : Heap} (h0 : zat E a (.inr (5, [.ref (a + 1), .ref (a + 42), .ref (a + 83), .ref (a + 84), .ref (a + 86), .int (nI 0), .int (nI 0)])) H) (h1 : zSt0 E (a + 1) H) (h2 : zSt0 E (a + 42) H) (h3 : zat E (a + 83) (.inl (zSt E, 5, .inr (.inr (.inr (.inr (zAQ (a + 88) 41 5)))))) H) (h4 : zTxt E (a + 84) (a + 85) 0 (fun _ => 0) 0 0 H) (h5 : zRing E (a + 86) (a + 87) 0 (fun _ => 0) H) (h6 : ∀ t, t < 5 → zSt0 E (a + 88 + 41 * t) H) : zCWt E (fun k => a + zgf k) zt0 H := by
  refine ⟨fun i => i, 0, 0, 0, fun _ => 0, ⟨fun i h => h, fun i j _ _ h => h⟩, ?_, ?_, fun i hi => ?_, h0, zat_cg h3 fun j hj => ?_, h4.1, h4.2, h5⟩
  · refine zSt_ad (fun o ho => ?_) h1
    show a + 1 + zof (0 + o) = a + zgf (0 + o)
    unfold zgf
    rw [if_pos (by omega)]; omega
  · refine zSt_ad (fun o ho => ?_) h2
    show a + 42 + zof (0 + o) = a + zgf (41 + o)
    unfold zgf
    rw [if_neg (by omega), if_pos (by omega), show 41 + o - 41 = 0 + o by omega]; omega
  · refine zSt_ad (fun o ho => ?_) (h6 i hi)
    show a + 88 + 41 * i + zof (0 + o) = a + zgf (41 * (2 + i) + o)
    rw [zgf_st ho, if_pos hi, show 0 + o = o by omega]; omega
  · show zAQ (a + 88) 41 5 j = some (a + zgf (41 * (2 + j)))
    have h := zgf_st (i := j) (o := 0) (by decide)
    rw [if_pos hj] at h
    have h : zgf (41 * (2 + j)) = 88 + 41 * j + 0 := h
    unfold zAQ
    rw [if_pos hj, h]
    exact congrArg some (by omega)
theorem zRep_0 : zRep (zm0 6) zv0 := by
  refine ⟨fun t a b => ?_, fun t a b => ?_, fun r hr => ⟨?_, fun s9 h => absurd h (Nat.not_lt_zero s9)⟩, ?_, fun t h => absurd h (Nat.not_lt_zero t), ?_, fun t h => absurd h (Nat.not_lt_zero t)⟩
  · show zm0 6 (0 + t - 1) = zb0 6 t
    unfold zm0 zb0
    rw [if_pos (by omega), if_pos (by omega)]
  · show zm0 6 (5 + t - 1) = zw0 6 t
    unfold zm0 zw0
    rw [if_neg (by omega), if_pos (by omega), if_pos (by omega), show 5 + t - 1 - 4 = t by omega]
  · show zm0 6 (10 + 17 * r) = 0
    unfold zm0
    rw [if_neg (by omega), if_neg (by omega)]
  · show zm0 6 112 = 0
    unfold zm0
    rw [if_neg (by omega), if_neg (by omega)]
  · show zm0 6 119 = 0
    unfold zm0
    rw [if_neg (by omega), if_neg (by omega)]
theorem zadM_inj (a : Nat) : zInM (fun k => a + k) := fun i j _ _ h => by have h : a + i = a + j := h; omega
