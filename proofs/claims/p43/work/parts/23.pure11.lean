theorem zlc_lt' {n : Nat} {f : Nat → Int32} {lv : Nat} (hn : 0 < n) : zli n f lv (znc lv n) < znc lv n := zlc_lt (znc_pos hn)
theorem zls_lt {n lv : Nat} {f : Nat → Int32} (hn : 0 < n) (hl : lv ≤ 2) : zls n f lv < 2 * n := zchg_lt hl hn (zlc_lt' hn)
theorem zin_c3 {x : Int32} {M : Nat} (hy : M = 0 ∨ zin x 0 (M - 1) = false) (hM : M ≤ 10) (h1 : ¬ x < 0) (h2 : x < nI M) : False := by
  rcases Nat.eq_zero_or_pos M with q | q
  · rw [q] at h2; exact h1 h2
  · exact zin_c2 (hy.resolve_left (by omega)) ⟨q, by omega⟩ h1 h2
theorem zin_c4 {w : Int32} {n : Nat} (hw : zin w 1 (min 6 n) = false) (hn : 0 < n ∧ n ≤ 16) (h1 : ¬ w < nI 1) (h2 : ¬ nI 6 < w) (h3 : w ≤ nI n) : False := by
  have e : zin w 1 (min 6 n) = true := zin_t h1 (by
    rcases Nat.le_total 6 n with q | q
    · rw [Nat.min_eq_left q]; exact h2
    · rw [Nat.min_eq_right q]; exact Int32.not_lt.mpr h3)
  rw [e] at hw; cases hw
theorem zin_c5 {x : Int32} {ml : Nat} (hx : zin x 0 (min ml 5) = false) (hml : ml ≤ 6) (h1 : ¬ x < 0) (h2 : ¬ nI ml < x) (h3 : x < nI 6) : False := by
  have e : zin x 0 (min ml 5) = true := zin_t h1 (by
    rcases Nat.le_total ml 5 with q | q
    · rw [Nat.min_eq_left q]; exact h2
    · rw [Nat.min_eq_right q]
      intro z
      have a := Int32.lt_iff_toInt_lt.mp z
      have b := Int32.lt_iff_toInt_lt.mp h3
      rw [nI_toInt (by decide)] at a b
      omega)
  rw [e] at hx; cases hx
/-- slots at which a plan stays under the quarter turns -/
def zst3 (S : Int32) (n : Nat) : Nat → Int32
  | 0 => S
  | q + 1 => zst3 S n q &&& zset (fun s => decide (¬ (S >>> (nI ((s + (q + 1) * n / 4) % n) &&& 31)) &&& 1 = 0)) n
theorem zst3_s {S : Int32} {n q : Nat} (h : 1 ≤ q) : zst3 S n (q - 1) &&& zset (fun s => decide (¬ (S >>> (nI ((s + q * n / 4) % n) &&& 31)) &&& 1 = 0)) n = zst3 S n (q + 1 - 1) := by
  obtain ⟨p, rfl⟩ : ∃ p, q = p + 1 := ⟨q - 1, by omega⟩
  rfl
theorem zxc_k {n i j s : Nat} {f : Nat → Int32} (h : ∀ s, s < n → zk (f s)) (hi : i < n) (hj : j < n) (hs : s < n) : zk (zxc f i j s) := by
  unfold zxc upd
  split
  · exact h _ hi
  · split
    · exact h _ hj
    · exact h _ hs
/-- bestSwap: (best, least) over the second slots -/
def zbsB (wt : Nat → Int32) (n : Nat) (f : Nat → Int32) (i : Nat) (acc : Int32 × Int32) : Nat → Int32 × Int32
  | 0 => acc
  | j + 1 => if i < j ∧ zlean wt n (zxc f i j) < (zbsB wt n f i acc j).2 then (nI (100 * i + j), zlean wt n (zxc f i j)) else zbsB wt n f i acc j
def zbsA (wt : Nat → Int32) (n : Nat) (f : Nat → Int32) : Nat → Int32 × Int32
  | 0 => (-6, zlean wt n f)
  | i + 1 => zbsB wt n f i (zbsA wt n f i) n
theorem zbsB_l (wt : Nat → Int32) (n : Nat) (f : Nat → Int32) (i : Nat) (acc : Int32 × Int32) : ∀ k, k ≤ i + 1 → zbsB wt n f i acc k = acc
  | 0, _ => rfl
  | k + 1, h => by
    show (if i < k ∧ _ then _ else _) = _
    rw [if_neg (fun q => by omega)]
    exact zbsB_l wt n f i acc k (by omega)
theorem zbsB_i (wt : Nat → Int32) (n : Nat) (f : Nat → Int32) (i : Nat) (acc : Int32 × Int32) : zbsB wt n f i acc (i + 1) = acc := zbsB_l wt n f i acc (i + 1) (Nat.le_refl _)
theorem zbsB_n {wt : Nat → Int32} {n : Nat} {f : Nat → Int32} {i j : Nat} {acc : Int32 × Int32} (_ : i + 1 ≤ j) (h : (zbsB wt n f i acc j).2 ≤ zlean wt n (zxc f i j)) : zbsB wt n f i acc (j + 1) = zbsB wt n f i acc j := by
  show (if i < j ∧ _ then _ else _) = _
  rw [if_neg (fun q => absurd q.2 (Int32.not_lt.mpr h))]
theorem zbsB_y {wt : Nat → Int32} {n : Nat} {f : Nat → Int32} {i j : Nat} {acc : Int32 × Int32} (hj : i + 1 ≤ j) (h : zlean wt n (zxc f i j) < (zbsB wt n f i acc j).2) : zbsB wt n f i acc (j + 1) = (nI (100 * i + j), zlean wt n (zxc f i j)) := by
  show (if i < j ∧ _ then _ else _) = _
  rw [if_pos ⟨hj, h⟩]
