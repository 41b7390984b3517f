/-! what holds of every state -/
def zsz4 (n : Nat) : Prop := n = 4 ∨ n = 8 ∨ n = 12 ∨ n = 16
def zOk (v : zS) : Prop := (∀ t, t < 6 → zSz v t = 0 ∨ zsz4 (zSz v t)) ∧ (∀ t, t < 6 → ∀ s, s < zSz v t → zk (zKd v t s)) ∧ (∀ k, 1 ≤ k → k ≤ 5 → ∃ j : Nat, j ≤ 99 ∧ zBx v k = nI j) ∧ zMl v ≤ 6 ∧ zNl v ≤ 10 ∧ ∀ e, e < zNl v → zsz4 (zSz v (6 + e)) ∧ ∀ s, s < zSz v (6 + e) → zk (zKd v (6 + e) s)
theorem zsz4.b {n : Nat} (h : zsz4 n) : 0 < n ∧ n ≤ 16 ∧ n % 4 = 0 := by rcases h with rfl | rfl | rfl | rfl <;> decide
theorem zOk.h16 {v : zS} (h : zOk v) : ∀ t, t < 6 → zSz v t ≤ 16 := fun t ht => (h.1 t ht).elim (fun e => by omega) (fun e => e.b.2.1)
theorem zOk.sz {v : zS} (h : zOk v) {t : Nat} (ht : t < 6) (h0 : zSz v t ≠ 0) : 0 < zSz v t ∧ zSz v t ≤ 16 := (h.1 t ht).elim (fun e => absurd e h0) (fun e => ⟨e.b.1, e.b.2.1⟩)
theorem zOk.m4 {v : zS} (h : zOk v) {t : Nat} (ht : t < 6) : zSz v t % 4 = 0 := (h.1 t ht).elim (fun e => by rw [e]) (fun e => e.b.2.2)
/-- the object as its callers know it -/
def zCW (E : zEnv) (ad : Nat → Nat) (nw sv : zS) (an : Bool) (hs : Nat → zS) (ct ln : Nat) (cd : Nat → Int32) (H : Heap) : Prop :=
  ∃ (π : Nat → Nat) (tn tt nb : Nat) (tf : Nat → Int32), zPi π ∧ zCX E ad nw sv an hs ct ln cd π tn tt nb tf H
def zpm (g f : Nat → Int32) (i : Nat) : Nat → Int32 := fun j => if j < i then g j else f j
theorem zpm_0 (g f : Nat → Int32) : zpm g f 0 = f := by funext j; simp [zpm]
theorem zpm_s (g f : Nat → Int32) (i : Nat) : upd (zpm g f i) i (g i) = zpm g f (i + 1) := by
  funext j
  unfold upd zpm
  by_cases h : j = i
  · subst h; rw [if_pos rfl, if_pos (by omega)]
  · rw [if_neg h]
    by_cases h2 : j < i
    · rw [if_pos h2, if_pos (by omega)]
    · rw [if_neg h2, if_neg (by omega)]
theorem zsRg_2 (v : zS) (r n m : Nat) (f g : Nat → Int32) : zsRg (zsRg v r n f) r m g = zsRg v r m g := by
  unfold zsRg
  refine Prod.ext rfl (Prod.ext rfl (Prod.ext ?_ (Prod.ext ?_ rfl)))
  · funext t; show (if t = r then m else if t = r then n else zSz v t) = if t = r then m else zSz v t; split <;> rfl
  · funext t; show (if t = r then g else if t = r then f else zKd v t) = if t = r then g else zKd v t; split <;> rfl
theorem zsRg_id (v : zS) (r : Nat) : zsRg v r (zSz v r) (zKd v r) = v := by
  unfold zsRg
  refine Prod.ext rfl (Prod.ext rfl (Prod.ext ?_ (Prod.ext ?_ rfl)))
  · funext t; show (if t = r then zSz v r else zSz v t) = zSz v t; split <;> simp_all
  · funext t; show (if t = r then zKd v r else zKd v t) = zKd v t; split <;> simp_all
def zxc (f : Nat → Int32) (i j : Nat) : Nat → Int32 := upd (upd f i (f j)) j (f i)
theorem zxc_2 (f : Nat → Int32) (i j : Nat) : zxc (zxc f i j) i j = f := by
  funext t
  unfold zxc upd
  by_cases h1 : t = j <;> by_cases h2 : t = i <;> by_cases h3 : i = j <;> simp_all
theorem zrot_1 (π : Nat → Nat) : zrot π 1 = π := by funext j; unfold zrot; rw [if_neg (by omega)]
theorem zrot_s {ad : Nat → Nat} {π : Nat → Nat} {i : Nat} (hi : 1 ≤ i) : va_up (zHA ad (zrot π i)) (i - 1) (some (ad (41 * (2 + π i)))) = zHA ad (zrot π (i + 1)) := by
  funext j
  unfold va_up zHA zrot
  by_cases h : j = i - 1
  · subst h; rw [if_pos rfl, if_pos (by omega), show i - 1 + 1 = i by omega]
  · rw [if_neg h]
    by_cases h2 : j + 1 < i
    · rw [if_pos h2, if_pos (by omega)]
    · rw [if_neg h2, if_neg (by omega)]
theorem zrot_5 {ad : Nat → Nat} {π : Nat → Nat} {j : Nat} (hj : j < 5) : va_up (zHA ad (zrot π 5)) 4 (some (ad (41 * (2 + π 0)))) j = zHA ad (zroF π) j := by
  unfold va_up zHA zrot zroF
  by_cases h : j = 4
  · subst h; rfl
  · rw [if_neg h, if_pos (by omega), if_pos (by omega)]
theorem zX_dis {E : zEnv} {ad : Nat → Nat} {nw sv : zS} {an : Bool} {hs : Nat → zS} {ct ln : Nat} {cd : Nat → Int32} {π : Nat → Nat} {tn tt nb : Nat} {tf : Nat → Int32} {H H1 : Heap} (hi : zInj ad) (hp : zPi π) (h : zCX E ad nw sv an hs ct ln cd π tn tt nb tf H) (e : ∀ q, ¬ (q = ad 287 ∨ q = ad 288) → H1[q]? = H[q]?) (h5 : zat E (ad 287) (.inr (5, [.ref (ad 0), .ref (ad 41), .ref (ad 288), .ref (ad 289), .ref (ad 291), .int (zb an), .int (nI 4)])) H1) (h8 : zat E (ad 288) (.inl (zSt E, 5, .inr (.inr (.inr (.inr (zHA ad (zroF π))))))) H1) : ∃ hs2, (∀ i, i < 4 → hs2 i = hs (i + 1)) ∧ hs2 4 = hs 0 ∧ zCX E ad nw sv an hs2 4 ln cd (zroF π) tn tt nb tf H1 := by
  obtain ⟨a1, a2, a3, -, -, a6, a7, a8, a9⟩ := h
  have e : ∀ q, (∀ k, (k = 287 ∨ k = 288) → q ≠ ad k) → H1[q]? = H[q]? := fun q hq => e q (fun z => z.elim (hq 287 (Or.inl rfl)) (hq 288 (Or.inr rfl)))
  have hK : ∀ k, (k = 287 ∨ k = 288) → k < 293 := fun k h => by omega
  have hst : ∀ j, j < 5 → zStA E ad (41 * (2 + π j)) (hs j) H1 := fun j hj => zK_st hi (by have := hp.1 j hj; omega) hK e (fun o _ => by have := hp.1 j hj; omega) (a3 j hj)
  refine ⟨fun i => if i < 4 then hs (i + 1) else hs 0, fun i h => if_pos h, rfl, zK_st hi (by decide) hK e (fun o _ => by omega) a1, zK_st hi (by decide) hK e (fun o _ => by omega) a2, fun i h => ?_, h5, h8, zK_at hi (by decide) hK e (by decide) a6, zK_at hi (by decide) hK e (by decide) a7, zK_at hi (by decide) hK e (by decide) a8, zK_at hi (by decide) hK e (by decide) a9⟩
  show zStA E ad (41 * (2 + (if i < 4 then π (i + 1) else π 0))) (if i < 4 then hs (i + 1) else hs 0) H1
  by_cases q : i < 4
  · rw [if_pos q, if_pos q]; exact hst (i + 1) (by omega)
  · rw [if_neg q, if_neg q]; exact hst 0 (by decide)
theorem zX_hc {E : zEnv} {ad : Nat → Nat} {nw sv : zS} {an : Bool} {hs hs' : Nat → zS} {ct ln : Nat} {cd : Nat → Int32} {π : Nat → Nat} {tn tt nb : Nat} {tf : Nat → Int32} {H : Heap} (h : zCX E ad nw sv an hs ct ln cd π tn tt nb tf H) (e : ∀ i, i < 5 → hs i = hs' i) : zCX E ad nw sv an hs' ct ln cd π tn tt nb tf H := by
  obtain ⟨a1, a2, a3, a4⟩ := h
  exact ⟨a1, a2, fun i hi => by rw [← e i hi]; exact a3 i hi, a4⟩
theorem zrH_lt {hs : Nat → zS} {ct : Nat} {nw : zS} (h : ct < 5) : zrH hs ct nw = fun i => if i = ct then nw else hs i := by funext i; unfold zrH; rw [if_pos h]
theorem zrH_ge {hs hs2 : Nat → zS} {ct : Nat} {nw : zS} (h : ¬ ct < 5) (e1 : ∀ i, i < 4 → hs2 i = hs (i + 1)) {i : Nat} (hi : i < 5) : (if i = 4 then nw else hs2 i) = zrH hs ct nw i := by
  unfold zrH
  rw [if_neg h]
  by_cases q : i = 4
  · rw [if_pos q, if_neg (by omega)]
  · rw [if_neg q, if_pos (by omega), e1 i (by omega)]
theorem zsRg_at {E : zEnv} {a k r n : Nat} {f : Nat → Int32} {v : zS} {H : Heap} (h : zRing E a k (zSz (zsRg v r n f) r) (zKd (zsRg v r n f) r) H) : zRing E a k n f H := by
  have e1 : zSz (zsRg v r n f) r = n := if_pos rfl
  have e2 : zKd (zsRg v r n f) r = f := if_pos rfl
  rw [e1, e2] at h; exact h
