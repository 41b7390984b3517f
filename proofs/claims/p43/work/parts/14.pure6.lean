/-! the class's state changes in one place -/
def zInj (ad : Nat → Nat) : Prop := ∀ i j, i < 293 → j < 293 → ad i = ad j → i = j
theorem zInj.ne {ad : Nat → Nat} (h : zInj ad) {i j : Nat} (hi : i < 293) (hj : j < 293) (hij : i ≠ j) : ad i ≠ ad j := fun e => hij (h i j hi hj e)
def zsBx (v : zS) (f : Nat → Int32) : zS := (f, v.2)
def zsWt (v : zS) (f : Nat → Int32) : zS := (v.1, f, v.2.2)
def zsRg (v : zS) (r n : Nat) (f : Nat → Int32) : zS := (v.1, v.2.1, (fun t => if t = r then n else zSz v t), (fun t => if t = r then f else zKd v t), v.2.2.2.2)
def zsMo (v : zS) (ml : Nat) (sg : Nat → Int32) : zS := (v.1, v.2.1, v.2.2.1, v.2.2.2.1, ml, sg, v.2.2.2.2.2.2)
def zsNl (v : zS) (nl : Nat) : zS := (v.1, v.2.1, v.2.2.1, v.2.2.2.1, v.2.2.2.2.1, v.2.2.2.2.2.1, nl, v.2.2.2.2.2.2.2)
def zsTm (v : zS) (tm : Nat → Int32) : zS := (v.1, v.2.1, v.2.2.1, v.2.2.2.1, v.2.2.2.2.1, v.2.2.2.2.2.1, v.2.2.2.2.2.2.1, tm)
section ZSU
variable {E : zEnv} {ad : Nat → Nat} {b : Nat} {v : zS} {H H1 : Heap}
theorem zR_keep {a k n : Nat} {f : Nat → Int32} (h : zRing E a k n f H) (e1 : H1[a]? = H[a]?) (e2 : H1[k]? = H[k]?) : zRing E a k n f H1 := ⟨va_at.kept h.1 e1, va_at.kept h.2 e2⟩
theorem zM_keep {a k n : Nat} {f : Nat → Int32} (h : zMo E a k n f H) (e1 : H1[a]? = H[a]?) (e2 : H1[k]? = H[k]?) : zMo E a k n f H1 := ⟨va_at.kept h.1 e1, va_at.kept h.2 e2⟩
theorem zSt_keep (h : zStA E ad b v H) (e : ∀ o, o < 41 → H1[ad (b + o)]? = H[ad (b + o)]?) : zStA E ad b v H1 := by
  obtain ⟨h0, h1, h2, h3, h4, h5, h6, h7, hR⟩ := h
  exact ⟨va_at.kept h0 (e 0 (by decide)), va_at.kept h1 (e 1 (by decide)), va_at.kept h2 (e 2 (by decide)), va_at.kept h3 (e 3 (by decide)), zM_keep h4 (e 4 (by decide)) (e 5 (by decide)), va_at.kept h5 (e 6 (by decide)), va_at.kept h6 (e 7 (by decide)), va_at.kept h7 (e 8 (by decide)), fun r hr => zR_keep (hR r hr) (by rw [show b + 9 + 2 * r = b + (9 + 2 * r) by omega]; exact e _ (by omega)) (by rw [show b + 10 + 2 * r = b + (10 + 2 * r) by omega]; exact e _ (by omega))⟩
/-- one cell of the state's own has changed, at offset o -/
theorem zSt_off {o : Nat} (hi : zInj ad) (hb : b + 41 ≤ 293) (ho : o < 41) (e : ∀ q, q ≠ ad (b + o) → H1[q]? = H[q]?) {o2 : Nat} (ho2 : o2 < 41) (hne : o2 ≠ o) : H1[ad (b + o2)]? = H[ad (b + o2)]? := e _ (hi.ne (by omega) (by omega) (by omega))
theorem zSt_bx {f : Nat → Int32} (h : zStA E ad b v H) (hi : zInj ad) (hb : b + 41 ≤ 293) (e : ∀ q, q ≠ ad (b + 1) → H1[q]? = H[q]?) (hn : zat E (ad (b + 1)) (.inl (zI E, 6, .inl f)) H1) : zStA E ad b (zsBx v f) H1 := by
  have k := fun (o2 : Nat) (ho2 : o2 < 41) (hne : o2 ≠ 1) => zSt_off hi hb (by decide) e ho2 hne
  obtain ⟨h0, h1, h2, h3, h4, h5, h6, h7, hR⟩ := h
  exact ⟨va_at.kept h0 (k 0 (by decide) (by decide)), hn, va_at.kept h2 (k 2 (by decide) (by decide)), va_at.kept h3 (k 3 (by decide) (by decide)), zM_keep h4 (k 4 (by decide) (by decide)) (k 5 (by decide) (by decide)), va_at.kept h5 (k 6 (by decide) (by decide)), va_at.kept h6 (k 7 (by decide) (by decide)), va_at.kept h7 (k 8 (by decide) (by decide)), fun r hr => zR_keep (hR r hr) (by rw [show b + 9 + 2 * r = b + (9 + 2 * r) by omega]; exact k _ (by omega) (by omega)) (by rw [show b + 10 + 2 * r = b + (10 + 2 * r) by omega]; exact k _ (by omega) (by omega))⟩
theorem zSt_wt {f : Nat → Int32} (h : zStA E ad b v H) (hi : zInj ad) (hb : b + 41 ≤ 293) (e : ∀ q, q ≠ ad (b + 2) → H1[q]? = H[q]?) (hn : zat E (ad (b + 2)) (.inl (zI E, 6, .inl f)) H1) : zStA E ad b (zsWt v f) H1 := by
  have k := fun (o2 : Nat) (ho2 : o2 < 41) (hne : o2 ≠ 2) => zSt_off hi hb (by decide) e ho2 hne
  obtain ⟨h0, h1, h2, h3, h4, h5, h6, h7, hR⟩ := h
  exact ⟨va_at.kept h0 (k 0 (by decide) (by decide)), va_at.kept h1 (k 1 (by decide) (by decide)), hn, va_at.kept h3 (k 3 (by decide) (by decide)), zM_keep h4 (k 4 (by decide) (by decide)) (k 5 (by decide) (by decide)), va_at.kept h5 (k 6 (by decide) (by decide)), va_at.kept h6 (k 7 (by decide) (by decide)), va_at.kept h7 (k 8 (by decide) (by decide)), fun r hr => zR_keep (hR r hr) (by rw [show b + 9 + 2 * r = b + (9 + 2 * r) by omega]; exact k _ (by omega) (by omega)) (by rw [show b + 10 + 2 * r = b + (10 + 2 * r) by omega]; exact k _ (by omega) (by omega))⟩
theorem zSt_nl {nl : Nat} (h : zStA E ad b v H) (hi : zInj ad) (hb : b + 41 ≤ 293) (e : ∀ q, q ≠ ad (b + 6) → H1[q]? = H[q]?) (hn : zat E (ad (b + 6)) (.inr (1, [.int (nI nl), .ref (ad (b + 7)), .ref (ad (b + 8))])) H1) : zStA E ad b (zsNl v nl) H1 := by
  have k := fun (o2 : Nat) (ho2 : o2 < 41) (hne : o2 ≠ 6) => zSt_off hi hb (by decide) e ho2 hne
  obtain ⟨h0, h1, h2, h3, h4, h5, h6, h7, hR⟩ := h
  exact ⟨va_at.kept h0 (k 0 (by decide) (by decide)), va_at.kept h1 (k 1 (by decide) (by decide)), va_at.kept h2 (k 2 (by decide) (by decide)), va_at.kept h3 (k 3 (by decide) (by decide)), zM_keep h4 (k 4 (by decide) (by decide)) (k 5 (by decide) (by decide)), hn, va_at.kept h6 (k 7 (by decide) (by decide)), va_at.kept h7 (k 8 (by decide) (by decide)), fun r hr => zR_keep (hR r hr) (by rw [show b + 9 + 2 * r = b + (9 + 2 * r) by omega]; exact k _ (by omega) (by omega)) (by rw [show b + 10 + 2 * r = b + (10 + 2 * r) by omega]; exact k _ (by omega) (by omega))⟩
theorem zSt_tm {f : Nat → Int32} (h : zStA E ad b v H) (hi : zInj ad) (hb : b + 41 ≤ 293) (e : ∀ q, q ≠ ad (b + 8) → H1[q]? = H[q]?) (hn : zat E (ad (b + 8)) (.inl (zI E, 10, .inl f)) H1) : zStA E ad b (zsTm v f) H1 := by
  have k := fun (o2 : Nat) (ho2 : o2 < 41) (hne : o2 ≠ 8) => zSt_off hi hb (by decide) e ho2 hne
  obtain ⟨h0, h1, h2, h3, h4, h5, h6, h7, hR⟩ := h
  exact ⟨va_at.kept h0 (k 0 (by decide) (by decide)), va_at.kept h1 (k 1 (by decide) (by decide)), va_at.kept h2 (k 2 (by decide) (by decide)), va_at.kept h3 (k 3 (by decide) (by decide)), zM_keep h4 (k 4 (by decide) (by decide)) (k 5 (by decide) (by decide)), va_at.kept h5 (k 6 (by decide) (by decide)), va_at.kept h6 (k 7 (by decide) (by decide)), hn, fun r hr => zR_keep (hR r hr) (by rw [show b + 9 + 2 * r = b + (9 + 2 * r) by omega]; exact k _ (by omega) (by omega)) (by rw [show b + 10 + 2 * r = b + (10 + 2 * r) by omega]; exact k _ (by omega) (by omega))⟩
theorem zSt_mo {ml : Nat} {sg : Nat → Int32} (h : zStA E ad b v H) (hi : zInj ad) (hb : b + 41 ≤ 293) (e : ∀ q, ¬ (q = ad (b + 4) ∨ q = ad (b + 5)) → H1[q]? = H[q]?) (hn : zMo E (ad (b + 4)) (ad (b + 5)) ml sg H1) : zStA E ad b (zsMo v ml sg) H1 := by
  have k := fun (o2 : Nat) (ho2 : o2 < 41) (hne : o2 ≠ 4 ∧ o2 ≠ 5) => e (ad (b + o2)) (fun q => q.elim (hi.ne (by omega) (by omega) (by omega)) (hi.ne (by omega) (by omega) (by omega)))
  obtain ⟨h0, h1, h2, h3, h4, h5, h6, h7, hR⟩ := h
  exact ⟨va_at.kept h0 (k 0 (by decide) (by decide)), va_at.kept h1 (k 1 (by decide) (by decide)), va_at.kept h2 (k 2 (by decide) (by decide)), va_at.kept h3 (k 3 (by decide) (by decide)), hn, va_at.kept h5 (k 6 (by decide) (by decide)), va_at.kept h6 (k 7 (by decide) (by decide)), va_at.kept h7 (k 8 (by decide) (by decide)), fun r hr => zR_keep (hR r hr) (by rw [show b + 9 + 2 * r = b + (9 + 2 * r) by omega]; exact k _ (by omega) (by omega)) (by rw [show b + 10 + 2 * r = b + (10 + 2 * r) by omega]; exact k _ (by omega) (by omega))⟩
theorem zSt_rg {r n : Nat} {f : Nat → Int32} (h : zStA E ad b v H) (hi : zInj ad) (hb : b + 41 ≤ 293) (hr : r < 16) (e : ∀ q, ¬ (q = ad (b + 9 + 2 * r) ∨ q = ad (b + 10 + 2 * r)) → H1[q]? = H[q]?) (hn : zRing E (ad (b + 9 + 2 * r)) (ad (b + 10 + 2 * r)) n f H1) : zStA E ad b (zsRg v r n f) H1 := by
  have k := fun (o2 : Nat) (ho2 : o2 < 41) (hne : o2 ≠ 9 + 2 * r ∧ o2 ≠ 10 + 2 * r) => e (ad (b + o2)) (fun q => q.elim (hi.ne (by omega) (by omega) (by omega)) (hi.ne (by omega) (by omega) (by omega)))
  obtain ⟨h0, h1, h2, h3, h4, h5, h6, h7, hR⟩ := h
  refine ⟨va_at.kept h0 (k 0 (by decide) (by omega)), va_at.kept h1 (k 1 (by decide) (by omega)), va_at.kept h2 (k 2 (by decide) (by omega)), va_at.kept h3 (k 3 (by decide) (by omega)), zM_keep h4 (k 4 (by decide) (by omega)) (k 5 (by decide) (by omega)), va_at.kept h5 (k 6 (by decide) (by omega)), va_at.kept h6 (k 7 (by decide) (by omega)), va_at.kept h7 (k 8 (by decide) (by omega)), fun t ht => ?_⟩
  show zRing E _ _ (if t = r then n else zSz v t) (if t = r then f else zKd v t) H1
  by_cases q : t = r
  · subst q; rw [if_pos rfl, if_pos rfl]; exact hn
  · rw [if_neg q, if_neg q]
    exact zR_keep (hR t ht) (by rw [show b + 9 + 2 * t = b + (9 + 2 * t) by omega]; exact k _ (by omega) (by omega)) (by rw [show b + 10 + 2 * t = b + (10 + 2 * t) by omega]; exact k _ (by omega) (by omega))
/-- a state is known by what is in it -/
theorem zSt_cong {w : zS} (h : zStA E ad b v H) (e1 : ∀ j, j < 6 → zBx v j = zBx w j) (e2 : ∀ j, j < 6 → zWt v j = zWt w j) (e3 : ∀ r, r < 16 → zSz v r = zSz w r ∧ zKd v r = zKd w r) (e4 : zMl v = zMl w) (e5 : ∀ j, j < 6 → zSg v j = zSg w j) (e6 : zNl v = zNl w) (e7 : ∀ j, j < 10 → zTm v j = zTm w j) : zStA E ad b w H := by
  obtain ⟨h0, h1, h2, h3, h4, h5, h6, h7, hR⟩ := h
  refine ⟨h0, zat_cong h1 e1, zat_cong h2 e2, h3, ⟨by rw [← e4]; exact h4.1, zat_cong h4.2 e5⟩, by rw [← e6]; exact h5, h6, zat_cong h7 e7, fun r hr => ?_⟩
  have h9 := hR r hr
  rw [(e3 r hr).1, (e3 r hr).2] at h9
  exact h9
end ZSU
/-- the box, when the charms of the kinds 1 to i have gone out (or come in) -/
def zto (bx : Nat → Int32) (c : Nat → Nat) (i : Nat) : Nat → Int32 := fun t => if 1 ≤ t ∧ t < i + 1 then bx t - nI (c t) else bx t
def zti (bx : Nat → Int32) (c : Nat → Nat) (i : Nat) : Nat → Int32 := fun t => if 1 ≤ t ∧ t < i + 1 then bx t + nI (c t) else bx t
theorem zto_0 (bx : Nat → Int32) (c : Nat → Nat) : zto bx c 0 = bx := by funext t; unfold zto; rw [if_neg (by omega)]
theorem zti_0 (bx : Nat → Int32) (c : Nat → Nat) : zti bx c 0 = bx := by funext t; unfold zti; rw [if_neg (by omega)]
theorem zto_n {bx : Nat → Int32} {c : Nat → Nat} {i : Nat} : zto bx c i (i + 1) = bx (i + 1) := if_neg (by omega)
theorem zti_n {bx : Nat → Int32} {c : Nat → Nat} {i : Nat} : zti bx c i (i + 1) = bx (i + 1) := if_neg (by omega)
theorem zto_s (bx : Nat → Int32) (c : Nat → Nat) (i : Nat) : upd (zto bx c i) (i + 1) (bx (i + 1) - nI (c (i + 1))) = zto bx c (i + 1) := by
  funext t
  unfold upd zto
  by_cases h : t = i + 1
  · subst h; rw [if_pos rfl, if_pos (by omega)]
  · rw [if_neg h]
    by_cases h2 : 1 ≤ t ∧ t < i + 1
    · rw [if_pos h2, if_pos (by omega)]
    · rw [if_neg h2, if_neg (by omega)]
theorem zti_s (bx : Nat → Int32) (c : Nat → Nat) (i : Nat) : upd (zti bx c i) (i + 1) (bx (i + 1) + nI (c (i + 1))) = zti bx c (i + 1) := by
  funext t
  unfold upd zti
  by_cases h : t = i + 1
  · subst h; rw [if_pos rfl, if_pos (by omega)]
  · rw [if_neg h]
    by_cases h2 : 1 ≤ t ∧ t < i + 1
    · rw [if_pos h2, if_pos (by omega)]
    · rw [if_neg h2, if_neg (by omega)]
/-- the first i rings (or firsts) are those of another state -/
def zcR (v w : zS) (lo i : Nat) : zS := (v.1, v.2.1, (fun t => if lo ≤ t ∧ t < lo + i then zSz w t else zSz v t), (fun t => if lo ≤ t ∧ t < lo + i then zKd w t else zKd v t), v.2.2.2.2)
theorem zcR_0 (v w : zS) (lo : Nat) : zcR v w lo 0 = v := by
  unfold zcR
  have e1 : (fun t => if lo ≤ t ∧ t < lo + 0 then zSz w t else zSz v t) = zSz v := by funext t; rw [if_neg (by omega)]
  have e2 : (fun t => if lo ≤ t ∧ t < lo + 0 then zKd w t else zKd v t) = zKd v := by funext t; rw [if_neg (by omega)]
  rw [e1, e2]
theorem zcR_s (v w : zS) (lo i : Nat) : zsRg (zcR v w lo i) (lo + i) (zSz w (lo + i)) (zKd w (lo + i)) = zcR v w lo (i + 1) := by
  unfold zsRg zcR
  refine Prod.ext rfl (Prod.ext rfl (Prod.ext ?_ (Prod.ext ?_ rfl)))
  · funext t
    show (if t = lo + i then zSz w (lo + i) else if lo ≤ t ∧ t < lo + i then zSz w t else zSz v t) = if lo ≤ t ∧ t < lo + (i + 1) then zSz w t else zSz v t
    by_cases h : t = lo + i
    · subst h; rw [if_pos rfl, if_pos (by omega)]
    · rw [if_neg h]
      by_cases h2 : lo ≤ t ∧ t < lo + i
      · rw [if_pos h2, if_pos (by omega)]
      · rw [if_neg h2, if_neg (by omega)]
  · funext t
    show (if t = lo + i then zKd w (lo + i) else if lo ≤ t ∧ t < lo + i then zKd w t else zKd v t) = if lo ≤ t ∧ t < lo + (i + 1) then zKd w t else zKd v t
    by_cases h : t = lo + i
    · subst h; rw [if_pos rfl, if_pos (by omega)]
    · rw [if_neg h]
      by_cases h2 : lo ≤ t ∧ t < lo + i
      · rw [if_pos h2, if_pos (by omega)]
      · rw [if_neg h2, if_neg (by omega)]
