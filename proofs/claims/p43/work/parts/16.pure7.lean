/-! the whole object: its states, its history, its buffer, the spare ring -/
def zPi (π : Nat → Nat) : Prop := (∀ i, i < 5 → π i < 5) ∧ ∀ i j, i < 5 → j < 5 → π i = π j → i = j
def zHA (ad π : Nat → Nat) : Nat → Option Nat := fun i => some (ad (41 * (2 + π i)))
def zCX (E : zEnv) (ad : Nat → Nat) (nw sv : zS) (an : Bool) (hs : Nat → zS) (ct ln : Nat) (cd : Nat → Int32) (π : Nat → Nat) (tn tt nb : Nat) (tf : Nat → Int32) (H : Heap) : Prop :=
  zStA E ad 0 nw H ∧ zStA E ad 41 sv H ∧ (∀ i, i < 5 → zStA E ad (41 * (2 + π i)) (hs i) H) ∧
  zat E (ad 287) (.inr (5, [.ref (ad 0), .ref (ad 41), .ref (ad 288), .ref (ad 289), .ref (ad 291), .int (zb an), .int (nI ct)])) H ∧
  zat E (ad 288) (.inl (zSt E, 5, .inr (.inr (.inr (.inr (zHA ad π)))))) H ∧
  zat E (ad 289) (.inr (4, [.int (nI ln), .ref (ad 290), .int (nI tt), .int (nI nb)])) H ∧
  zat E (ad 290) (.inl (zI E, 60, .inl cd)) H ∧ zRing E (ad 291) (ad 292) tn tf H
/-- the cells of the class's object -/
def zAC (ad : Nat → Nat) : Nat → Prop := fun q => ∃ k, k < 293 ∧ q = ad k
section ZXU
variable {E : zEnv} {ad : Nat → Nat} {nw sv : zS} {an : Bool} {hs : Nat → zS} {ct ln : Nat} {cd : Nat → Int32} {π : Nat → Nat} {tn tt nb : Nat} {tf : Nat → Int32} {H H1 : Heap}
/-- what changes at keys K alone leaves a state whose keys are others -/
theorem zK_st {b : Nat} {v : zS} {K : Nat → Prop} (hi : zInj ad) (hb : b + 41 ≤ 293) (hK : ∀ k, K k → k < 293) (e : ∀ q, (∀ k, K k → q ≠ ad k) → H1[q]? = H[q]?) (hn : ∀ o, o < 41 → ¬ K (b + o)) (h : zStA E ad b v H) : zStA E ad b v H1 :=
  zSt_keep h fun o ho => e _ fun k hk => hi.ne (by omega) (hK k hk) (fun w => hn o ho (by rw [w]; exact hk))
theorem zK_at {x : Nat} {c : va_E} {K : Nat → Prop} (hi : zInj ad) (hx : x < 293) (hK : ∀ k, K k → k < 293) (e : ∀ q, (∀ k, K k → q ≠ ad k) → H1[q]? = H[q]?) (hn : ¬ K x) (h : zat E (ad x) c H) : zat E (ad x) c H1 :=
  va_at.kept h (e _ fun k hk => hi.ne hx (hK k hk) (fun w => hn (by rw [w]; exact hk)))
theorem zX_now {nw' : zS} (hi : zInj ad) (hp : zPi π) (h : zCX E ad nw sv an hs ct ln cd π tn tt nb tf H) (e : ∀ q, (∀ k, k < 41 → q ≠ ad k) → H1[q]? = H[q]?) (hn : zStA E ad 0 nw' H1) : zCX E ad nw' sv an hs ct ln cd π tn tt nb tf H1 := by
  obtain ⟨a1, a2, a3, a4, a5, a6, a7, a8, a9⟩ := h
  have hK : ∀ k, k < 41 → k < 293 := fun k h => by omega
  exact ⟨hn, zK_st hi (by decide) hK e (fun o _ => by omega) a2, fun i h => zK_st hi (by have := hp.1 i h; omega) hK e (fun o _ => by omega) (a3 i h), zK_at hi (by decide) hK e (by decide) a4, zK_at hi (by decide) hK e (by decide) a5, zK_at hi (by decide) hK e (by decide) a6, zK_at hi (by decide) hK e (by decide) a7, zK_at hi (by decide) hK e (by decide) a8, zK_at hi (by decide) hK e (by decide) a9⟩
theorem zX_sv {sv' : zS} (hi : zInj ad) (hp : zPi π) (h : zCX E ad nw sv an hs ct ln cd π tn tt nb tf H) (e : ∀ q, (∀ k, (41 ≤ k ∧ k < 82) → q ≠ ad k) → H1[q]? = H[q]?) (hn : zStA E ad 41 sv' H1) : zCX E ad nw sv' an hs ct ln cd π tn tt nb tf H1 := by
  obtain ⟨a1, a2, a3, a4, a5, a6, a7, a8, a9⟩ := h
  have hK : ∀ k, (41 ≤ k ∧ k < 82) → k < 293 := fun k h => by omega
  exact ⟨zK_st hi (by decide) hK e (fun o _ => by omega) a1, hn, fun i h => zK_st hi (by have := hp.1 i h; omega) hK e (fun o _ => by omega) (a3 i h), zK_at hi (by decide) hK e (by decide) a4, zK_at hi (by decide) hK e (by decide) a5, zK_at hi (by decide) hK e (by decide) a6, zK_at hi (by decide) hK e (by decide) a7, zK_at hi (by decide) hK e (by decide) a8, zK_at hi (by decide) hK e (by decide) a9⟩
theorem zX_hs {j : Nat} {w : zS} (hj : j < 5) (hi : zInj ad) (hp : zPi π) (h : zCX E ad nw sv an hs ct ln cd π tn tt nb tf H) (e : ∀ q, (∀ k, (41 * (2 + π j) ≤ k ∧ k < 41 * (2 + π j) + 41) → q ≠ ad k) → H1[q]? = H[q]?) (hn : zStA E ad (41 * (2 + π j)) w H1) : zCX E ad nw sv an (fun i => if i = j then w else hs i) ct ln cd π tn tt nb tf H1 := by
  obtain ⟨a1, a2, a3, a4, a5, a6, a7, a8, a9⟩ := h
  have hj5 := hp.1 j hj
  have hK : ∀ k, (41 * (2 + π j) ≤ k ∧ k < 41 * (2 + π j) + 41) → k < 293 := fun k h => by omega
  refine ⟨zK_st hi (by decide) hK e (fun o _ => by omega) a1, zK_st hi (by decide) hK e (fun o _ => by omega) a2, fun i hi5 => ?_, zK_at hi (by decide) hK e (by omega) a4, zK_at hi (by decide) hK e (by omega) a5, zK_at hi (by decide) hK e (by omega) a6, zK_at hi (by decide) hK e (by omega) a7, zK_at hi (by decide) hK e (by omega) a8, zK_at hi (by decide) hK e (by omega) a9⟩
  show zStA E ad (41 * (2 + π i)) (if i = j then w else hs i) H1
  by_cases q : i = j
  · subst q; rw [if_pos rfl]; exact hn
  · rw [if_neg q]
    have hne : π i ≠ π j := fun z => q (hp.2 i j hi5 hj z)
    have hi5' := hp.1 i hi5
    exact zK_st hi (by omega) hK e (fun o _ => by omega) (a3 i hi5)
theorem zX_top {an' : Bool} {ct' : Nat} (hi : zInj ad) (hp : zPi π) (h : zCX E ad nw sv an hs ct ln cd π tn tt nb tf H) (e : ∀ q, q ≠ ad 287 → H1[q]? = H[q]?) (hn : zat E (ad 287) (.inr (5, [.ref (ad 0), .ref (ad 41), .ref (ad 288), .ref (ad 289), .ref (ad 291), .int (zb an'), .int (nI ct')])) H1) : zCX E ad nw sv an' hs ct' ln cd π tn tt nb tf H1 := by
  obtain ⟨a1, a2, a3, a4, a5, a6, a7, a8, a9⟩ := h
  have e : ∀ q, (∀ k, k = 287 → q ≠ ad k) → H1[q]? = H[q]? := fun q hq => e q (hq 287 rfl)
  have hK : ∀ k, k = 287 → k < 293 := fun k h => by omega
  exact ⟨zK_st hi (by decide) hK e (fun o _ => by omega) a1, zK_st hi (by decide) hK e (fun o _ => by omega) a2, fun i h => zK_st hi (by have := hp.1 i h; omega) hK e (fun o _ => by have := hp.1 i h; omega) (a3 i h), hn, zK_at hi (by decide) hK e (by decide) a5, zK_at hi (by decide) hK e (by decide) a6, zK_at hi (by decide) hK e (by decide) a7, zK_at hi (by decide) hK e (by decide) a8, zK_at hi (by decide) hK e (by decide) a9⟩
theorem zX_ha {hs' : Nat → zS} {π' : Nat → Nat} (hi : zInj ad) (hp : zPi π) (hp' : zPi π') (h : zCX E ad nw sv an hs ct ln cd π tn tt nb tf H) (e : ∀ q, q ≠ ad 288 → H1[q]? = H[q]?) (hn : zat E (ad 288) (.inl (zSt E, 5, .inr (.inr (.inr (.inr (zHA ad π')))))) H1) (hh : ∀ i, i < 5 → ∃ j, j < 5 ∧ π' i = π j ∧ hs' i = hs j) : zCX E ad nw sv an hs' ct ln cd π' tn tt nb tf H1 := by
  obtain ⟨a1, a2, a3, a4, a5, a6, a7, a8, a9⟩ := h
  have e : ∀ q, (∀ k, k = 288 → q ≠ ad k) → H1[q]? = H[q]? := fun q hq => e q (hq 288 rfl)
  have hK : ∀ k, k = 288 → k < 293 := fun k h => by omega
  exact ⟨zK_st hi (by decide) hK e (fun o _ => by omega) a1, zK_st hi (by decide) hK e (fun o _ => by omega) a2, fun i h => by
    obtain ⟨j, hj, e1, e2⟩ := hh i h
    rw [e1, e2]
    exact zK_st hi (by have := hp.1 j hj; omega) hK e (fun o _ => by have := hp.1 j hj; omega) (a3 j hj), zK_at hi (by decide) hK e (by decide) a4, hn, zK_at hi (by decide) hK e (by decide) a6, zK_at hi (by decide) hK e (by decide) a7, zK_at hi (by decide) hK e (by decide) a8, zK_at hi (by decide) hK e (by decide) a9⟩
theorem zX_tx {ln' tt' nb' : Nat} (hi : zInj ad) (hp : zPi π) (h : zCX E ad nw sv an hs ct ln cd π tn tt nb tf H) (e : ∀ q, q ≠ ad 289 → H1[q]? = H[q]?) (hn : zat E (ad 289) (.inr (4, [.int (nI ln'), .ref (ad 290), .int (nI tt'), .int (nI nb')])) H1) : zCX E ad nw sv an hs ct ln' cd π tn tt' nb' tf H1 := by
  obtain ⟨a1, a2, a3, a4, a5, a6, a7, a8, a9⟩ := h
  have e : ∀ q, (∀ k, k = 289 → q ≠ ad k) → H1[q]? = H[q]? := fun q hq => e q (hq 289 rfl)
  have hK : ∀ k, k = 289 → k < 293 := fun k h => by omega
  exact ⟨zK_st hi (by decide) hK e (fun o _ => by omega) a1, zK_st hi (by decide) hK e (fun o _ => by omega) a2, fun i h => zK_st hi (by have := hp.1 i h; omega) hK e (fun o _ => by have := hp.1 i h; omega) (a3 i h), zK_at hi (by decide) hK e (by decide) a4, zK_at hi (by decide) hK e (by decide) a5, hn, zK_at hi (by decide) hK e (by decide) a7, zK_at hi (by decide) hK e (by decide) a8, zK_at hi (by decide) hK e (by decide) a9⟩
theorem zX_cd {cd' : Nat → Int32} (hi : zInj ad) (hp : zPi π) (h : zCX E ad nw sv an hs ct ln cd π tn tt nb tf H) (e : ∀ q, q ≠ ad 290 → H1[q]? = H[q]?) (hn : zat E (ad 290) (.inl (zI E, 60, .inl cd')) H1) : zCX E ad nw sv an hs ct ln cd' π tn tt nb tf H1 := by
  obtain ⟨a1, a2, a3, a4, a5, a6, a7, a8, a9⟩ := h
  have e : ∀ q, (∀ k, k = 290 → q ≠ ad k) → H1[q]? = H[q]? := fun q hq => e q (hq 290 rfl)
  have hK : ∀ k, k = 290 → k < 293 := fun k h => by omega
  exact ⟨zK_st hi (by decide) hK e (fun o _ => by omega) a1, zK_st hi (by decide) hK e (fun o _ => by omega) a2, fun i h => zK_st hi (by have := hp.1 i h; omega) hK e (fun o _ => by have := hp.1 i h; omega) (a3 i h), zK_at hi (by decide) hK e (by decide) a4, zK_at hi (by decide) hK e (by decide) a5, zK_at hi (by decide) hK e (by decide) a6, hn, zK_at hi (by decide) hK e (by decide) a8, zK_at hi (by decide) hK e (by decide) a9⟩
theorem zX_tr {n' : Nat} {f' : Nat → Int32} (hi : zInj ad) (hp : zPi π) (h : zCX E ad nw sv an hs ct ln cd π tn tt nb tf H) (e : ∀ q, ¬ (q = ad 291 ∨ q = ad 292) → H1[q]? = H[q]?) (hn : zRing E (ad 291) (ad 292) n' f' H1) : zCX E ad nw sv an hs ct ln cd π n' tt nb f' H1 := by
  obtain ⟨a1, a2, a3, a4, a5, a6, a7, -, -⟩ := h
  have e : ∀ q, (∀ k, (k = 291 ∨ k = 292) → q ≠ ad k) → H1[q]? = H[q]? := fun q hq => e q (fun z => z.elim (hq 291 (Or.inl rfl)) (hq 292 (Or.inr rfl)))
  have hK : ∀ k, (k = 291 ∨ k = 292) → k < 293 := fun k h => by omega
  exact ⟨zK_st hi (by decide) hK e (fun o _ => by omega) a1, zK_st hi (by decide) hK e (fun o _ => by omega) a2, fun i h => zK_st hi (by have := hp.1 i h; omega) hK e (fun o _ => by have := hp.1 i h; omega) (a3 i h), zK_at hi (by decide) hK e (by decide) a4, zK_at hi (by decide) hK e (by decide) a5, zK_at hi (by decide) hK e (by decide) a6, zK_at hi (by decide) hK e (by decide) a7, hn.1, hn.2⟩
end ZXU
/-- what recording does to the history -/
def zrC (ct : Nat) : Nat := if ct < 5 then ct + 1 else 5
def zrH (hs : Nat → zS) (ct : Nat) (nw : zS) : Nat → zS := fun i => if ct < 5 then (if i = ct then nw else hs i) else if i < 4 then hs (i + 1) else nw
def zrot (π : Nat → Nat) (i : Nat) : Nat → Nat := fun j => if j + 1 < i then π (j + 1) else π j
def zroF (π : Nat → Nat) : Nat → Nat := fun j => if j < 4 then π (j + 1) else π 0
theorem zroF_pi {π : Nat → Nat} (h : zPi π) : zPi (zroF π) := by
  refine ⟨fun i hi => ?_, fun i j hi hj e => ?_⟩
  · unfold zroF; split
    · exact h.1 _ (by omega)
    · exact h.1 _ (by decide)
  · unfold zroF at e
    split at e <;> split at e
    · have := h.2 _ _ (by omega) (by omega) e; omega
    · have := h.2 _ _ (by omega) (by omega) e; omega
    · have := h.2 _ _ (by omega) (by omega) e; omega
    · omega
