/-! the model's array under its writers -/
def zlz (z : Nat → Int32) (i n j : Nat) : Nat → Int32 := fun k => if k = 10 + 17 * i then nI n else if 10 + 17 * i + 1 ≤ k ∧ k < 10 + 17 * i + 1 + j then 0 else z k
theorem zlz_0 (z : Nat → Int32) (i n : Nat) : upd z (10 + 17 * i) (nI n) = zlz z i n 0 := by
  funext k
  unfold upd zlz
  by_cases h : k = 10 + 17 * i
  · rw [if_pos h, if_pos h]
  · rw [if_neg h, if_neg h, if_neg (by omega)]
theorem zlz_s (z : Nat → Int32) (i n j : Nat) : upd (zlz z i n j) (10 + 17 * i + 1 + j) (nI 0) = zlz z i n (j + 1) := by
  funext k
  unfold upd zlz
  by_cases h : k = 10 + 17 * i + 1 + j
  · rw [if_pos h, if_neg (by omega), if_pos (by omega)]; rfl
  · rw [if_neg h]
    by_cases h1 : k = 10 + 17 * i
    · rw [if_pos h1, if_pos h1]
    · rw [if_neg h1, if_neg h1]
      by_cases h2 : 10 + 17 * i + 1 ≤ k ∧ k < 10 + 17 * i + 1 + j
      · rw [if_pos h2, if_pos (by omega)]
      · rw [if_neg h2, if_neg (by omega)]
theorem zlz_r {z : Nat → Int32} {i n : Nat} (hn : n ≤ 16) : zmr (zlz z i n 16) i n (fun _ => 0) := ⟨if_pos rfl, fun s hs => by unfold zlz; rw [if_neg (by omega), if_pos (by omega)]⟩
theorem zlz_o {z : Nat → Int32} {i n k : Nat} (h : k < 10 + 17 * i ∨ 10 + 17 * i + 17 ≤ k) : zlz z i n 16 k = z k := by unfold zlz; rw [if_neg (by omega), if_neg (by omega)]
def zwr (z : Nat → Int32) (i : Nat) (g : Nat → Int32) (j : Nat) : Nat → Int32 := fun k => if 10 + 17 * i + 1 ≤ k ∧ k < 10 + 17 * i + 1 + j then g (k - (10 + 17 * i + 1)) else z k
theorem zwr_0 (z : Nat → Int32) (i : Nat) (g : Nat → Int32) : zwr z i g 0 = z := by funext k; unfold zwr; rw [if_neg (by omega)]
theorem zwr_s (z : Nat → Int32) (i : Nat) (g : Nat → Int32) (j : Nat) : upd (zwr z i g j) (10 + 17 * i + 1 + j) (g j) = zwr z i g (j + 1) := by
  funext k
  unfold upd zwr
  by_cases h : k = 10 + 17 * i + 1 + j
  · subst h; rw [if_pos rfl, if_pos (by omega)]; congr 1; omega
  · rw [if_neg h]
    by_cases h2 : 10 + 17 * i + 1 ≤ k ∧ k < 10 + 17 * i + 1 + j
    · rw [if_pos h2, if_pos (by omega)]
    · rw [if_neg h2, if_neg (by omega)]
theorem zwr_h {z : Nat → Int32} {i n j : Nat} {g : Nat → Int32} (h : z (10 + 17 * i) = nI n) : zwr z i g j (10 + 17 * i) = nI n := by unfold zwr; rw [if_neg (by omega)]; exact h
theorem zwr_r {z : Nat → Int32} {i n : Nat} {g : Nat → Int32} (h : z (10 + 17 * i) = nI n) : zmr (zwr z i g n) i n g := ⟨zwr_h h, fun s hs => by unfold zwr; rw [if_pos (by omega)]; congr 1; omega⟩
theorem zwr_o {z : Nat → Int32} {i j k : Nat} {g : Nat → Int32} (hj : j ≤ 16) (h : k < 10 + 17 * i ∨ 10 + 17 * i + 17 ≤ k) : zwr z i g j k = z k := by unfold zwr; rw [if_neg (by omega)]
/-- charms move between a ring and the box -/
def zmv (z f : Nat → Int32) (d : Int32) : Nat → Nat → Int32
  | 0 => z
  | s + 1 => if f s = 0 then zmv z f d s else upd (zmv z f d s) ((f s).toNatClampNeg - 1) (zmv z f d s ((f s).toNatClampNeg - 1) + d)
theorem zmv_f {z f : Nat → Int32} {d : Int32} {s kk : Nat} (e : f s = nI kk) (h : kk = 0) : zmv z f d s = zmv z f d (s + 1) := by
  show _ = (if f s = 0 then _ else _)
  rw [if_pos (by rw [e, h]; rfl)]
theorem zmv_t {z f : Nat → Int32} {d : Int32} {s kk : Nat} (e : f s = nI kk) (h : 0 < kk) (h5 : kk ≤ 5) : upd (zmv z f d s) (0 + kk - 1) (zmv z f d s (0 + kk - 1) + d) = zmv z f d (s + 1) := by
  show _ = (if f s = 0 then _ else _)
  rw [if_neg (by rw [e]; exact nI_ne0 h (by omega)), e, nI_clamp (by omega), Nat.zero_add]
theorem zmv_o {z f : Nat → Int32} {d : Int32} : ∀ {s : Nat}, (∀ t, t < s → zk (f t)) → ∀ {k : Nat}, 5 ≤ k → zmv z f d s k = z k
  | 0, _, _, _ => rfl
  | s + 1, hk, k, h => by
    show (if f s = 0 then _ else _ : Nat → Int32) k = _
    have ih := zmv_o (z := z) (f := f) (d := d) (s := s) (fun t ht => hk t (by omega)) h
    by_cases q : f s = 0
    · rw [if_pos q]; exact ih
    · rw [if_neg q]
      obtain ⟨kk, h5, e⟩ := hk s (by omega)
      unfold upd
      rw [e, nI_clamp (by omega), if_neg (by omega)]; exact ih
theorem zmv_b {z f : Nat → Int32} {d : Int32} : ∀ {s : Nat}, (∀ t, t < s → zk (f t)) → ∀ {t : Nat}, 1 ≤ t → t ≤ 5 → zmv z f d s (0 + t - 1) = z (0 + t - 1) + d * nI (zcn f (nI t) s)
  | 0, _, t, _, _ => by
    show z _ = z _ + d * 0
    rw [Int32.mul_zero, Int32.add_zero]
  | s + 1, hk, t, h1, h5 => by
    show (if f s = 0 then _ else _ : Nat → Int32) _ = _
    have ih := zmv_b (z := z) (f := f) (d := d) (s := s) (fun t ht => hk t (by omega)) h1 h5
    obtain ⟨kk, hk5, e⟩ := hk s (by omega)
    have hz : zcn f (nI t) (s + 1) = zcn f (nI t) s + (if kk = t then 1 else 0) := by
      show zcn f (nI t) s + _ = _
      congr 1
      by_cases q : kk = t
      · rw [if_pos q, if_pos (decide_eq_true (by rw [e, q]))]
      · rw [if_neg q, if_neg (by rw [decide_eq_true_eq, e]; exact fun w => q ((nI_eq (by omega) (by omega)).mp w))]
    rw [hz]
    by_cases q : f s = 0
    · have hk0 : kk = 0 := by
        rcases Nat.eq_zero_or_pos kk with w | w
        · exact w
        · exact absurd (e ▸ q) (nI_ne0 w (by omega))
      rw [if_pos q, ih, if_neg (by omega)]; rfl
    · rw [if_neg q]
      unfold upd
      rw [e, nI_clamp (by omega)]
      have hk0 : kk ≠ 0 := fun w => q (by rw [e, w]; rfl)
      by_cases w : kk = t
      · subst w
        rw [if_pos (by omega), if_pos rfl, Nat.zero_add, show kk - 1 = 0 + kk - 1 by omega, ih, Int32.add_assoc]
        congr 1
        rw [← nI_1, Int32.mul_add]
        congr 1
        exact (Int32.mul_one d).symm
      · rw [if_neg (by omega), if_neg w]; exact ih
