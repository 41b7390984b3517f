/-! the model's object -/
def zInM (am : Nat → Nat) : Prop := ∀ i j, i < 7 → j < 7 → am i = am j → i = j
theorem zInM.ne {am : Nat → Nat} (h : zInM am) {i j : Nat} (hi : i < 7) (hj : j < 7) (d : i ≠ j) : am i ≠ am j := fun e => d (h i j hi hj e)
def zMX (E : zEnv) (am : Nat → Nat) (z past : Nat → Int32) (pm : Nat) (kept : Nat → Int32) (ik : Bool) (buf : Nat → Int32) (ty : Nat) (rg td : Nat → Int32) (tm nb : Nat) (H : Heap) : Prop :=
  zat E (am 0) (.inr (6, [.ref (am 1), .ref (am 2), .int (nI pm), .ref (am 3), .int (zb ik), .ref (am 4), .int (nI ty), .ref (am 5), .ref (am 6), .int (nI tm), .int (nI nb)])) H ∧
  zat E (am 1) (.inl (zI E, 300, .inl z)) H ∧ zat E (am 2) (.inl (zI E, 1500, .inl past)) H ∧ zat E (am 3) (.inl (zI E, 300, .inl kept)) H ∧
  zat E (am 4) (.inl (zC E, 60, .inl buf)) H ∧ zat E (am 5) (.inl (zI E, 16, .inl rg)) H ∧ zat E (am 6) (.inl (zI E, 16, .inl td)) H
def zAM (am : Nat → Nat) : Nat → Prop := fun q => ∃ k, k < 7 ∧ q = am k
/-- the model's array holds a state -/
def zRep (z : Nat → Int32) (v : zS) : Prop :=
  (∀ t, 1 ≤ t → t ≤ 5 → z (0 + t - 1) = zBx v t) ∧ (∀ t, 1 ≤ t → t ≤ 5 → z (5 + t - 1) = zWt v t) ∧ (∀ r, r < 6 → zmr z r (zSz v r) (zKd v r)) ∧
  z 112 = nI (zMl v) ∧ (∀ t, t < zMl v → z (113 + t) = zSg v t) ∧ z 119 = nI (zNl v) ∧
  ∀ t, t < zNl v → z (120 + 18 * t) = nI (zSz v (6 + t)) ∧ (∀ s, s < zSz v (6 + t) → z (120 + 18 * t + 1 + s) = zimg (zSz v (6 + t)) (zKd v (6 + t)) (zls (zSz v (6 + t)) (zKd v (6 + t)) 1) s) ∧ z (120 + 18 * t + 17) = zTm v t
/-- the bounds of a state -/
def zOkB (v : zS) : Prop := (∀ t, t < 6 → zSz v t ≤ 16) ∧ zMl v ≤ 6 ∧ zNl v ≤ 10 ∧ ∀ t, t < zNl v → zSz v (6 + t) ≤ 16
theorem zOk.B {v : zS} (h : zOk v) : zOkB v := ⟨h.h16, h.2.2.2.1, h.2.2.2.2.1, fun t ht => (h.2.2.2.2.2 t ht).1.b.2.1⟩
theorem zOkB_rg {v : zS} {r n : Nat} {f : Nat → Int32} (h : zOkB v) (hr : r < 6) (hn : n ≤ 16) : zOkB (zsRg v r n f) := by
  refine ⟨fun t ht => ?_, h.2.1, h.2.2.1, fun t ht => ?_⟩
  · show (if t = r then n else zSz v t) ≤ 16
    split
    · exact hn
    · exact h.1 t ht
  · show (if 6 + t = r then n else zSz v (6 + t)) ≤ 16
    rw [if_neg (by omega)]; exact h.2.2.2 t ht
theorem zRep_c {z z' : Nat → Int32} {v : zS} (hok : zOkB v) (e : ∀ j, j < 300 → z' j = z j) (h : zRep z v) : zRep z' v := by
  obtain ⟨h1, h2, h3, h4, h5, h6, h7⟩ := h
  have hml := hok.2.1
  have hnl := hok.2.2.1
  refine ⟨fun t a b => by rw [e _ (by omega)]; exact h1 t a b, fun t a b => by rw [e _ (by omega)]; exact h2 t a b, fun r hr => ?_, by rw [e _ (by omega)]; exact h4, fun t ht => by rw [e _ (by omega)]; exact h5 t ht, by rw [e _ (by omega)]; exact h6, fun t ht => ?_⟩
  · have h16 := hok.1 r hr
    exact ⟨by rw [e _ (by omega)]; exact (h3 r hr).1, fun s hs => by rw [e _ (by omega)]; exact (h3 r hr).2 s hs⟩
  · have h16 := hok.2.2.2 t ht
    obtain ⟨a, b, c⟩ := h7 t ht
    exact ⟨by rw [e _ (by omega)]; exact a, fun s hs => by rw [e _ (by omega)]; exact b s hs, by rw [e _ (by omega)]; exact c⟩
def zPast (past : Nat → Int32) (ct : Nat) (hs : Nat → zS) : Prop := ∀ i, i < ct → zOk (hs i) ∧ zRep (fun j => past (i * 300 + j)) (hs i)
def zsh (past : Nat → Int32) (i : Nat) : Nat → Int32 := fun j => if j < i then past (j + 300) else past j
def zpb (past z : Nat → Int32) (b i : Nat) : Nat → Int32 := fun j => if b ≤ j ∧ j < b + i then z (j - b) else past j
theorem zsh_0 (past : Nat → Int32) : zsh past 0 = past := by funext j; unfold zsh; rw [if_neg (by omega)]
theorem zsh_s (past : Nat → Int32) (i : Nat) : upd (zsh past i) i (zsh past i (i + 300)) = zsh past (i + 1) := by
  funext j
  unfold upd zsh
  rw [if_neg (show ¬ i + 300 < i by omega)]
  by_cases h : j = i
  · subst h; rw [if_pos rfl, if_pos (by omega)]
  · rw [if_neg h]
    by_cases h2 : j < i
    · rw [if_pos h2, if_pos (by omega)]
    · rw [if_neg h2, if_neg (by omega)]
theorem zpb_0 (past z : Nat → Int32) (b : Nat) : zpb past z b 0 = past := by funext j; unfold zpb; rw [if_neg (by omega)]
theorem zpb_s (past z : Nat → Int32) (b i : Nat) : upd (zpb past z b i) (b + i) (z i) = zpb past z b (i + 1) := by
  funext j
  unfold upd zpb
  by_cases h : j = b + i
  · subst h; rw [if_pos rfl, if_pos (by omega)]; congr 1; omega
  · rw [if_neg h]
    by_cases h2 : b ≤ j ∧ j < b + i
    · rw [if_pos h2, if_pos (by omega)]
    · rw [if_neg h2, if_neg (by omega)]
theorem zPast_a {past z : Nat → Int32} {ct : Nat} {hs : Nat → zS} {nw : zS} (hct : ct < 5) (hok : zOk nw) (hr : zRep z nw) (h : zPast past ct hs) : zPast (zpb past z (ct * 300) 300) (zrC ct) (zrH hs ct nw) := by
  intro i hi
  have e : zrC ct = ct + 1 := if_pos hct
  rw [e] at hi
  rw [zrH_lt hct]
  dsimp only
  by_cases q : i = ct
  · subst q
    rw [if_pos rfl]
    exact ⟨hok, zRep_c hok.B (fun j hj => by unfold zpb; rw [if_pos (by omega)]; exact congrArg z (by omega)) hr⟩
  · rw [if_neg q]
    obtain ⟨a, b⟩ := h i (by omega)
    exact ⟨a, zRep_c a.B (fun j hj => by
      have : (i + 1) * 300 ≤ ct * 300 := Nat.mul_le_mul_right 300 (by omega)
      unfold zpb; rw [if_neg (by omega)]) b⟩
theorem zPast_b {past z : Nat → Int32} {hs : Nat → zS} {nw : zS} (hok : zOk nw) (hr : zRep z nw) (h : zPast past 5 hs) : zPast (zpb (zsh past 1200) z (4 * 300) 300) (zrC 5) (zrH hs 5 nw) := by
  intro i hi
  have hi : i < 5 := hi
  unfold zrH
  rw [if_neg (by decide)]
  by_cases q : i < 4
  · rw [if_pos q]
    obtain ⟨a, b⟩ := h (i + 1) (by omega)
    exact ⟨a, zRep_c a.B (fun j hj => by
      unfold zpb zsh; rw [if_neg (by omega), if_pos (by omega)]; exact congrArg past (by omega)) b⟩
  · rw [if_neg q]
    exact ⟨hok, zRep_c hok.B (fun j hj => by
      unfold zpb; rw [if_pos (by omega)]; exact congrArg z (by omega)) hr⟩
/-- the model's object as its callers know it -/
def zMW (E : zEnv) (am : Nat → Nat) (nw sv : zS) (an : Bool) (hs : Nat → zS) (ct ln : Nat) (cd : Nat → Int32) (H : Heap) : Prop :=
  ∃ (z past kept buf rg td : Nat → Int32) (tm nb : Nat), zMX E am z past ct kept an buf ln rg td tm nb H ∧ zRep z nw ∧ zPast past ct hs ∧ (an = true → zRep kept sv) ∧ (∀ j, j < ln → buf j = cd j)
/-! states in the array, changed -/
theorem zRep_bx {z z' : Nat → Int32} {v : zS} {bx : Nat → Int32} (hok : zOkB v) (e : ∀ j, 5 ≤ j → j < 300 → z' j = z j) (e2 : ∀ t, 1 ≤ t → t ≤ 5 → z' (0 + t - 1) = bx t) (h : zRep z v) : zRep z' (zsBx v bx) := by
  obtain ⟨h1, h2, h3, h4, h5, h6, h7⟩ := h
  have hml := hok.2.1
  have hnl := hok.2.2.1
  refine ⟨e2, fun t a b => by rw [e _ (by omega) (by omega)]; exact h2 t a b, fun r hr => ?_, by rw [e _ (by omega) (by omega)]; exact h4, fun t ht => by have ht : t < zMl v := ht; rw [e _ (by omega) (by omega)]; exact h5 t ht, by rw [e _ (by omega) (by omega)]; exact h6, fun t ht => ?_⟩
  · have h16 := hok.1 r hr
    exact ⟨by rw [e _ (by omega) (by omega)]; exact (h3 r hr).1, fun s hs => by have hs : s < zSz v r := hs; rw [e _ (by omega) (by omega)]; exact (h3 r hr).2 s hs⟩
  · have ht : t < zNl v := ht
    have h16 := hok.2.2.2 t ht
    obtain ⟨a, b, c⟩ := h7 t ht
    exact ⟨by rw [e _ (by omega) (by omega)]; exact a, fun s hs => by have hs : s < zSz v (6 + t) := hs; rw [e _ (by omega) (by omega)]; exact b s hs, by rw [e _ (by omega) (by omega)]; exact c⟩
theorem zRep_wt {z z' : Nat → Int32} {v : zS} {wt : Nat → Int32} (hok : zOkB v) (e : ∀ j, (j < 5 ∨ 10 ≤ j) → j < 300 → z' j = z j) (e2 : ∀ t, 1 ≤ t → t ≤ 5 → z' (5 + t - 1) = wt t) (h : zRep z v) : zRep z' (zsWt v wt) := by
  obtain ⟨h1, h2, h3, h4, h5, h6, h7⟩ := h
  have hml := hok.2.1
  have hnl := hok.2.2.1
  refine ⟨fun t a b => by rw [e _ (by omega) (by omega)]; exact h1 t a b, e2, fun r hr => ?_, by rw [e _ (by omega) (by omega)]; exact h4, fun t ht => by have ht : t < zMl v := ht; rw [e _ (by omega) (by omega)]; exact h5 t ht, by rw [e _ (by omega) (by omega)]; exact h6, fun t ht => ?_⟩
  · have h16 := hok.1 r hr
    exact ⟨by rw [e _ (by omega) (by omega)]; exact (h3 r hr).1, fun s hs => by have hs : s < zSz v r := hs; rw [e _ (by omega) (by omega)]; exact (h3 r hr).2 s hs⟩
  · have ht : t < zNl v := ht
    have h16 := hok.2.2.2 t ht
    obtain ⟨a, b, c⟩ := h7 t ht
    exact ⟨by rw [e _ (by omega) (by omega)]; exact a, fun s hs => by have hs : s < zSz v (6 + t) := hs; rw [e _ (by omega) (by omega)]; exact b s hs, by rw [e _ (by omega) (by omega)]; exact c⟩
/-- a ring is another now -/
theorem zRep_rg {z z' : Nat → Int32} {v : zS} {r n : Nat} {f : Nat → Int32} (hok : zOkB v) (hr : r < 6) (e : ∀ j, (j < 10 + 17 * r ∨ 10 + 17 * r + 17 ≤ j) → j < 300 → z' j = z j) (e2 : zmr z' r n f) (h : zRep z v) : zRep z' (zsRg v r n f) := by
  obtain ⟨h1, h2, h3, h4, h5, h6, h7⟩ := h
  have hml := hok.2.1
  have hnl := hok.2.2.1
  refine ⟨fun t a b => by rw [e _ (by omega) (by omega)]; exact h1 t a b, fun t a b => by rw [e _ (by omega) (by omega)]; exact h2 t a b, fun q hq => ?_, by rw [e _ (by omega) (by omega)]; exact h4, fun t ht => by have ht : t < zMl v := ht; rw [e _ (by omega) (by omega)]; exact h5 t ht, by rw [e _ (by omega) (by omega)]; exact h6, fun t ht => ?_⟩
  · show zmr z' q (if q = r then n else zSz v q) (if q = r then f else zKd v q)
    by_cases w : q = r
    · subst w; rw [if_pos rfl, if_pos rfl]; exact e2
    · rw [if_neg w, if_neg w]
      have h16 := hok.1 q hq
      exact ⟨by rw [e _ (by omega) (by omega)]; exact (h3 q hq).1, fun s hs => by rw [e _ (by omega) (by omega)]; exact (h3 q hq).2 s hs⟩
  · have ht : t < zNl v := ht
    have h16 := hok.2.2.2 t ht
    obtain ⟨a, b, c⟩ := h7 t ht
    have n1 : zSz (zsRg v r n f) (6 + t) = zSz v (6 + t) := if_neg (by omega)
    have n2 : zKd (zsRg v r n f) (6 + t) = zKd v (6 + t) := if_neg (by omega)
    rw [n1, n2]
    exact ⟨by rw [e _ (by omega) (by omega)]; exact a, fun s hs => by rw [e _ (by omega) (by omega)]; exact b s hs, by rw [e _ (by omega) (by omega)]; exact c⟩
theorem zRep_mo {z z' : Nat → Int32} {v : zS} {ml : Nat} {sg : Nat → Int32} (hok : zOkB v) (e : ∀ j, (j < 112 ∨ 119 ≤ j) → j < 300 → z' j = z j) (e2 : z' 112 = nI ml) (e3 : ∀ t, t < ml → z' (113 + t) = sg t) (h : zRep z v) : zRep z' (zsMo v ml sg) := by
  obtain ⟨h1, h2, h3, h4, h5, h6, h7⟩ := h
  have hnl := hok.2.2.1
  refine ⟨fun t a b => by rw [e _ (by omega) (by omega)]; exact h1 t a b, fun t a b => by rw [e _ (by omega) (by omega)]; exact h2 t a b, fun r hr => ?_, e2, e3, by rw [e _ (by omega) (by omega)]; exact h6, fun t ht => ?_⟩
  · have h16 := hok.1 r hr
    exact ⟨by rw [e _ (by omega) (by omega)]; exact (h3 r hr).1, fun s hs => by have hs : s < zSz v r := hs; rw [e _ (by omega) (by omega)]; exact (h3 r hr).2 s hs⟩
  · have ht : t < zNl v := ht
    have h16 := hok.2.2.2 t ht
    obtain ⟨a, b, c⟩ := h7 t ht
    exact ⟨by rw [e _ (by omega) (by omega)]; exact a, fun s hs => by have hs : s < zSz v (6 + t) := hs; rw [e _ (by omega) (by omega)]; exact b s hs, by rw [e _ (by omega) (by omega)]; exact c⟩
theorem zRep_tm {z z' : Nat → Int32} {v : zS} {i : Nat} {x : Int32} (hok : zOkB v) (hi : i < 10) (e : ∀ j, j ≠ 120 + 18 * i + 17 → j < 300 → z' j = z j) (e2 : z' (120 + 18 * i + 17) = x) (h : zRep z v) : zRep z' (zsTm v (upd (zTm v) i x)) := by
  obtain ⟨h1, h2, h3, h4, h5, h6, h7⟩ := h
  have hml := hok.2.1
  have hnl := hok.2.2.1
  refine ⟨fun t a b => by rw [e _ (by omega) (by omega)]; exact h1 t a b, fun t a b => by rw [e _ (by omega) (by omega)]; exact h2 t a b, fun r hr => ?_, by rw [e _ (by omega) (by omega)]; exact h4, fun t ht => by have ht : t < zMl v := ht; rw [e _ (by omega) (by omega)]; exact h5 t ht, by rw [e _ (by omega) (by omega)]; exact h6, fun t ht => ?_⟩
  · have h16 := hok.1 r hr
    exact ⟨by rw [e _ (by omega) (by omega)]; exact (h3 r hr).1, fun s hs => by have hs : s < zSz v r := hs; rw [e _ (by omega) (by omega)]; exact (h3 r hr).2 s hs⟩
  · have ht : t < zNl v := ht
    have h16 := hok.2.2.2 t ht
    obtain ⟨a, b, c⟩ := h7 t ht
    refine ⟨by rw [e _ (by omega) (by omega)]; exact a, fun s hs => by have hs : s < zSz v (6 + t) := hs; rw [e _ (by omega) (by omega)]; exact b s hs, ?_⟩
    show z' (120 + 18 * t + 17) = (if t = i then x else zTm v t)
    by_cases w : t = i
    · subst w; rw [if_pos rfl]; exact e2
    · rw [if_neg w, e _ (by omega) (by omega)]; exact c
/-- one entry more -/
theorem zRep_nl {z z' : Nat → Int32} {v : zS} {n : Nat} {f : Nat → Int32} {x : Int32} (hok : zOkB v) (hl : zNl v < 10) (hn : n ≤ 16) (e : ∀ j, (j < 119 ∨ j = 119 ∧ False ∨ 120 ≤ j ∧ (j < 120 + 18 * zNl v ∨ 120 + 18 * zNl v + 18 ≤ j)) → j < 300 → z' j = z j) (e1 : z' 119 = nI (zNl v + 1)) (e2 : z' (120 + 18 * zNl v) = nI n) (e3 : ∀ s, s < n → z' (120 + 18 * zNl v + 1 + s) = zimg n f (zls n f 1) s) (e4 : z' (120 + 18 * zNl v + 17) = x) (h : zRep z v) :
    zRep z' (zsTm (zsNl (zsRg v (6 + zNl v) n f) (zNl v + 1)) (upd (zTm v) (zNl v) x)) := by
  obtain ⟨h1, h2, h3, h4, h5, h6, h7⟩ := h
  have hml := hok.2.1
  refine ⟨fun t a b => by rw [e _ (by omega) (by omega)]; exact h1 t a b, fun t a b => by rw [e _ (by omega) (by omega)]; exact h2 t a b, fun r hr => ?_, by rw [e _ (by omega) (by omega)]; exact h4, fun t ht => by have ht : t < zMl v := ht; rw [e _ (by omega) (by omega)]; exact h5 t ht, e1, fun t ht => ?_⟩
  · show zmr z' r (if r = 6 + zNl v then n else zSz v r) (if r = 6 + zNl v then f else zKd v r)
    rw [if_neg (by omega), if_neg (by omega)]
    have h16 := hok.1 r hr
    exact ⟨by rw [e _ (by omega) (by omega)]; exact (h3 r hr).1, fun s hs => by rw [e _ (by omega) (by omega)]; exact (h3 r hr).2 s hs⟩
  · have ht : t < zNl v + 1 := ht
    show z' (120 + 18 * t) = nI (if 6 + t = 6 + zNl v then n else zSz v (6 + t)) ∧ (∀ s, s < (if 6 + t = 6 + zNl v then n else zSz v (6 + t)) → z' (120 + 18 * t + 1 + s) = zimg (if 6 + t = 6 + zNl v then n else zSz v (6 + t)) (if 6 + t = 6 + zNl v then f else zKd v (6 + t)) (zls (if 6 + t = 6 + zNl v then n else zSz v (6 + t)) (if 6 + t = 6 + zNl v then f else zKd v (6 + t)) 1) s) ∧ z' (120 + 18 * t + 17) = (if t = zNl v then x else zTm v t)
    by_cases w : t = zNl v
    · subst w
      rw [if_pos rfl, if_pos rfl, if_pos rfl]
      exact ⟨e2, e3, e4⟩
    · have h16 := hok.2.2.2 t (by omega)
      obtain ⟨a, b, c⟩ := h7 t (by omega)
      rw [if_neg (by omega), if_neg (by omega), if_neg w]
      exact ⟨by rw [e _ (by omega) (by omega)]; exact a, fun s hs => by rw [e _ (by omega) (by omega)]; exact b s hs, by rw [e _ (by omega) (by omega)]; exact c⟩
