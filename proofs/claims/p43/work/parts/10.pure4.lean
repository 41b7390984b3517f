/-! the class's state: its cells, by an injective row of addresses -/
abbrev zS : Type := (Nat → Int32) × (Nat → Int32) × (Nat → Nat) × (Nat → Nat → Int32) × Nat × (Nat → Int32) × Nat × (Nat → Int32)
abbrev zBx (v : zS) : Nat → Int32 := v.1
abbrev zWt (v : zS) : Nat → Int32 := v.2.1
abbrev zSz (v : zS) : Nat → Nat := v.2.2.1
abbrev zKd (v : zS) : Nat → Nat → Int32 := v.2.2.2.1
abbrev zMl (v : zS) : Nat := v.2.2.2.2.1
abbrev zSg (v : zS) : Nat → Int32 := v.2.2.2.2.2.1
abbrev zNl (v : zS) : Nat := v.2.2.2.2.2.2.1
abbrev zTm (v : zS) : Nat → Int32 := v.2.2.2.2.2.2.2
def zRA (b : Nat) (ad : Nat → Nat) : Nat → Option Nat := fun i => some (ad (b + 9 + 2 * i))
def zFA (b : Nat) (ad : Nat → Nat) : Nat → Option Nat := fun i => some (ad (b + 21 + 2 * i))
def zMo (E : zEnv) (a k ml : Nat) (sg : Nat → Int32) (H : Heap) : Prop := zat E a (.inr (0, [.int (nI ml), .ref k])) H ∧ zat E k (.inl (zI E, 6, .inl sg)) H
def zStA (E : zEnv) (ad : Nat → Nat) (b : Nat) (v : zS) (H : Heap) : Prop :=
  zat E (ad b) (.inr (3, [.ref (ad (b + 1)), .ref (ad (b + 2)), .ref (ad (b + 3)), .ref (ad (b + 4)), .ref (ad (b + 6))])) H ∧
  zat E (ad (b + 1)) (.inl (zI E, 6, .inl (zBx v))) H ∧
  zat E (ad (b + 2)) (.inl (zI E, 6, .inl (zWt v))) H ∧
  zat E (ad (b + 3)) (.inl (zRg E, 6, .inr (.inr (.inr (.inr (zRA b ad)))))) H ∧
  zMo E (ad (b + 4)) (ad (b + 5)) (zMl v) (zSg v) H ∧
  zat E (ad (b + 6)) (.inr (1, [.int (nI (zNl v)), .ref (ad (b + 7)), .ref (ad (b + 8))])) H ∧
  zat E (ad (b + 7)) (.inl (zRg E, 10, .inr (.inr (.inr (.inr (zFA b ad)))))) H ∧
  zat E (ad (b + 8)) (.inl (zI E, 10, .inl (zTm v))) H ∧
  ∀ r, r < 16 → zRing E (ad (b + 9 + 2 * r)) (ad (b + 10 + 2 * r)) (zSz v r) (zKd v r) H
/-- the first index with p, the end if there is none -/
def zff (p : Nat → Bool) : Nat → Nat
  | 0 => 0
  | i + 1 => if zff p i < i then zff p i else if p i then i else i + 1
theorem zff_le (p : Nat → Bool) : ∀ n, zff p n ≤ n
  | 0 => Nat.le_refl _
  | n + 1 => by have h := zff_le p n; unfold zff; split; omega; split <;> omega
theorem zff_no {p : Nat → Bool} : ∀ {n : Nat}, (∀ t, t < n → p t = false) → zff p n = n
  | 0, _ => rfl
  | n + 1, h => by
    have e := zff_no (n := n) (fun t ht => h t (by omega))
    simp [zff, e, h n (by omega)]
theorem zff_is {p : Nat → Bool} {i : Nat} : ∀ {n : Nat}, i < n → (∀ t, t < i → p t = false) → p i = true → zff p n = i
  | 0, h, _, _ => absurd h (Nat.not_lt_zero i)
  | n + 1, h, h1, h2 => by
    rcases Nat.lt_or_ge i n with q | q
    · have e := zff_is q h1 h2
      simp [zff, e, q]
    · have e : i = n := by omega
      subst e
      simp [zff, zff_no h1, h2]
theorem zff_cong {p q : Nat → Bool} : ∀ {n : Nat}, (∀ i, i < n → p i = q i) → zff p n = zff q n
  | 0, _ => rfl
  | n + 1, h => by simp only [zff]; rw [zff_cong (fun i hi => h i (by omega)), h n (by omega)]
/-- alike at a level: same size, and some change -/
def zal (n : Nat) (f : Nat → Int32) (m : Nat) (g : Nat → Int32) (lv : Nat) : Bool := decide (n = m) && zan n f g lv (znc lv n)
def zns (p : Nat → Nat) : Nat → Nat
  | 0 => 0
  | i + 1 => zns p i + p i
theorem zns_le {p : Nat → Nat} {c : Nat} : ∀ {n : Nat}, (∀ i, i < n → p i ≤ c) → zns p n ≤ n * c
  | 0, _ => by simp [zns]
  | n + 1, h => by
    have h1 := zns_le (n := n) (fun i hi => h i (by omega))
    have h2 := h n (by omega)
    show zns p n + p n ≤ (n + 1) * c
    rw [Nat.succ_mul]; omega
theorem zal_0 {m lv : Nat} {f g : Nat → Int32} (h : 0 < m) : zal 0 f m g lv = false := by unfold zal; rw [decide_eq_false (by omega)]; rfl
theorem zft {p : Nat → Bool} {i : Nat} (h : ∀ t, t < i → p t = false) (h2 : p i = false) : ∀ t, t < i + 1 → p t = false := fun t ht => by
  rcases Nat.lt_or_ge t i with q | q
  · exact h t q
  · rw [show t = i by omega]; exact h2
theorem zfr {E : zEnv} {ad : Nat → Nat} {b t n : Nat} {f : Nat → Int32} {H : Heap} (h : zRing E (ad (b + 9 + 2 * (6 + t))) (ad (b + 10 + 2 * (6 + t))) n f H) : zRing E (ad (b + 21 + 2 * t)) (ad (b + 22 + 2 * t)) n f H := by
  rw [show b + 21 + 2 * t = b + 9 + 2 * (6 + t) by omega, show b + 22 + 2 * t = b + 10 + 2 * (6 + t) by omega]; exact h
theorem zfr_1 {E : zEnv} {ad : Nat → Nat} {b t n : Nat} {f : Nat → Int32} {H : Heap} (h : zRing E (ad (b + 9 + 2 * (6 + t))) (ad (b + 10 + 2 * (6 + t))) n f H) : zat E (ad (b + 21 + 2 * t)) (.inr (2, [.int (nI n), .ref (ad (b + 22 + 2 * t))])) H := (zfr h).1
