/-! numbers of classes -/
def zgd (a b : Nat) : Nat → Nat
  | 0 => 1
  | d + 1 => if d = 0 then 1 else if a % (d + 1) = 0 ∧ b % (d + 1) = 0 then d + 1 else zgd a b d
theorem zgd_1 {a b d : Nat} (h : d ≤ 1) : zgd a b d = 1 := by
  rcases (show d = 0 ∨ d = 1 by omega) with rfl | rfl <;> rfl
theorem zgd_y {a b d : Nat} (h : 1 < d) (h1 : a % d = 0) (h2 : b % d = 0) : zgd a b d = d := by
  obtain ⟨k, rfl⟩ : ∃ k, d = k + 1 := ⟨d - 1, by omega⟩
  show (if k = 0 then 1 else if _ then _ else _) = _
  rw [if_neg (by omega), if_pos ⟨h1, h2⟩]
theorem zgd_n {a b d : Nat} (h : 1 < d) (h1 : ¬ (a % d = 0 ∧ b % d = 0)) : zgd a b (d - 1) = zgd a b d := by
  obtain ⟨k, rfl⟩ : ∃ k, d = k + 1 := ⟨d - 1, by omega⟩
  show _ = (if k = 0 then 1 else if _ then _ else _)
  rw [if_neg (by omega), if_neg h1]; rfl
def zcy (ch n : Nat) : Nat := if ch < n then zgd n ch n else if (ch - n) % 2 = 0 then n / 2 + 1 else n / 2
def zpw (kd : Nat) : Nat → Int64
  | 0 => 1
  | i + 1 => zpw kd i * (nI kd).toInt64
def zlf (kd n lv : Nat) : Nat → Int64
  | 0 => 0
  | i + 1 => zlf kd n lv i + zpw kd (zcy (zchg lv i n) n)
def zlcR (kd n lv : Nat) : Int64 := zlf kd n lv (znc lv n) / (nI (znc lv n)).toInt64
def zst (lv n : Nat) : Nat := if lv = 0 then n / 4 else 1
def znk (lv n : Nat) : Nat := if lv = 0 then 4 else n
def zlm (kd n st : Nat) : Nat → Int64
  | 0 => 0
  | j + 1 => zlm kd n st j + zpw kd (Nat.gcd n (st * j))
def zlmR (kd n lv : Nat) : Int64 := (if lv = 2 then zlm kd n (zst lv n) (znk lv n) + (nI (n / 2)).toInt64 * (zpw kd (n / 2 + 1) + zpw kd (n / 2)) else zlm kd n (zst lv n) (znk lv n)) / (nI (znc lv n)).toInt64
theorem zst_e {n : Nat} (h : zsz4 n) (lv : Nat) : n = zst lv n * znk lv n ∧ 0 < zst lv n := by
  have h4 := h.b
  unfold zst znk; split
  · omega
  · omega
theorem zst_ge {lv n j : Nat} (h : zsz4 n) (h2 : n ≤ zst lv n * j) : znk lv n ≤ j := by
  have e := zst_e h lv
  rw [e.1] at h2
  have e2 : zst lv (zst lv n * znk lv n) = zst lv n := by rw [← e.1]
  rw [e2] at h2
  exact Nat.le_of_mul_le_mul_left h2 e.2
theorem zst_lt {lv n j : Nat} (h : zsz4 n) (h2 : zst lv n * j < n) : j < znk lv n := by
  have e := zst_e h lv
  exact Nat.lt_of_not_le fun q => absurd (Nat.mul_le_mul_left (zst lv n) q) (by rw [← e.1]; omega)
theorem zst_le {lv n j : Nat} (h : zsz4 n) (h2 : j ≤ znk lv n) : zst lv n * j ≤ n := by
  have e := zst_e h lv
  have := Nat.mul_le_mul_left (zst lv n) h2
  omega
theorem z_l32 {m : Nat} (h : 0 < m) (h2 : m ≤ 32) : ¬ (nI m).toInt64 = 0 := (by decide : ∀ m : Nat, m < 33 → 0 < m → ¬ (nI m).toInt64 = 0) m (by omega) h
theorem zcl_e {kd n lv : Nat} (hn : zsz4 n) (hk : kd ≤ 5) (hl : lv ≤ 2) : zlcR kd n lv = zlmR kd n lv := by
  have h : ∀ k : Nat, k < 6 → ∀ l : Nat, l < 3 → zlcR k 4 l = zlmR k 4 l ∧ zlcR k 8 l = zlmR k 8 l ∧ zlcR k 12 l = zlmR k 12 l ∧ zlcR k 16 l = zlmR k 16 l := by decide +kernel
  have h9 := h kd (by omega) lv (by omega)
  rcases hn with rfl | rfl | rfl | rfl
  · exact h9.1
  · exact h9.2.1
  · exact h9.2.2.1
  · exact h9.2.2.2
theorem zgd_le (a b : Nat) : ∀ d, zgd a b d ≤ d + 1
  | 0 => Nat.le_refl _
  | d + 1 => by
    have h := zgd_le a b d
    unfold zgd; split
    · omega
    · split <;> omega
theorem zcy_le {ch n : Nat} (hn : n ≤ 16) : zcy ch n ≤ 32 := by
  have h := zgd_le n ch n
  unfold zcy; split
  · omega
  · split <;> omega
theorem z_decd {d : Nat} (h : 0 < d) : nI d + Int32.ofInt (-1) = nI (d - 1) := by
  obtain ⟨k, rfl⟩ : ∃ k, d = k + 1 := ⟨d - 1, by omega⟩
  exact z_dec1 k
