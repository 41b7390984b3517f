/-! what the law's small methods answer -/
def zla (v : Int32) : Nat := (v &&& 2147483647).toNatClampNeg
theorem zla_e (v : Int32) : v &&& 2147483647 = nI (zla v) ∧ zla v < 2 ^ 31 := by
  obtain ⟨j, hj, h⟩ := pk_andE v (m := 2147483647) 31 (by decide)
  unfold zla
  rw [h, nI_clamp hj]
  exact ⟨rfl, hj⟩
/-- the law's choice below n -/
def zlw (v : Int32) (n : Nat) : Nat := zla v % n
theorem zlw_lt (v : Int32) {n : Nat} (h : 0 < n) : zlw v n < n := Nat.mod_lt _ h
theorem zmp_z {ml n j t : Nat} {sg f : Nat → Int32} (h : zmp ml sg n f j t = false) : zmp ml sg n f j (t + 1) = false := by
  unfold zmp at *
  cases q : decide (0 < ml ∧ ml ≤ n) with
  | false => rw [Bool.and_false]
  | true =>
    rw [q, Bool.and_true] at h
    rw [Bool.and_true]
    exact zall_s h
theorem zmp_0 {ml n j : Nat} {sg f : Nat → Int32} (h : 0 < ml ∧ ml ≤ n) : zmp ml sg n f j 0 = true := by
  unfold zmp
  rw [decide_eq_true h]; rfl
theorem zset_0 {p : Nat → Bool} (h : ∀ i, p i = false) : ∀ n, zset p n = 0
  | 0 => rfl
  | n + 1 => by rw [← zset_f (h n)]; exact zset_0 h n
theorem zset_00 {p : Nat → Bool} (h : ∀ i, p i = false) (a b : Nat) : zset p a = zset p b := by rw [zset_0 h, zset_0 h]
/-- images of images -/
theorem zimg_c1 {n k s : Nat} {f : Nat → Int32} (hk : k + 1 < n) (hs : s < n) : zimg n (zimg n f k) 1 s = zimg n f (k + 1) s := by
  have e1 : zimg n (zimg n f k) 1 s = zimg n f k ((s + n - 1) % n) := by unfold zimg; rw [if_pos (show 1 < n by omega)]
  rw [e1, zimg_r (by omega), zimg_r (by omega)]
  congr 1
  rcases Nat.eq_zero_or_pos s with q | q
  · subst q
    rw [Nat.mod_eq_of_lt (show 0 + n - 1 < n by omega), Nat.mod_eq_of_lt (show 0 + n - (k + 1) < n by omega), show 0 + n - 1 + n - k = n + (n - (k + 1)) by omega, Nat.add_mod_left, Nat.mod_eq_of_lt (by omega)]
    omega
  · rw [show s + n - 1 = (s - 1) + n by omega, Nat.add_mod_right, Nat.mod_eq_of_lt (show s - 1 < n by omega)]
    congr 1; omega
theorem zimg_m0 {n : Nat} {f : Nat → Int32} (hn : 0 < n) : zimg n f n 0 = f 0 := by rw [zimg_ma (Nat.le_refl _) (by omega) (by omega)]; congr 1; omega
theorem zimg_ms {n s : Nat} {f : Nat → Int32} (h0 : 0 < s) (hs : s < n) : zimg n f n s = f (n - s) := zimg_mb (Nat.le_refl _) (by omega) hs
/-- mirrored, then rolled -/
theorem zimg_mr {n c s : Nat} {f : Nat → Int32} (hc : n ≤ c) (hc2 : c < 2 * n) (hs : s < n) : zimg n (zimg n f n) (c % n) s = zimg n f c s := by
  obtain ⟨k, rfl⟩ : ∃ k, c = n + k := ⟨c - n, by omega⟩
  have hk : k < n := by omega
  rw [Nat.add_mod_left, Nat.mod_eq_of_lt hk, zimg_r hk, zimg_m]
  have e : ∀ t : Nat, zimg n f n t = f ((n - t) % n) := fun t => by unfold zimg; rw [if_neg (by omega)]
  rw [e]
  congr 1
  rcases Nat.lt_or_ge s k with q | q
  · rw [Nat.mod_eq_of_lt (show s + n - k < n by omega), show n + k - s = n + (k - s) by omega, Nat.add_mod_left]
    congr 1; omega
  · rw [show s + n - k = (s - k) + n by omega, Nat.add_mod_right, Nat.mod_eq_of_lt (show s - k < n by omega)]
    congr 1; omega
theorem zLn_k {f : Nat → Int32} {n c : Nat} (hn : 0 < n) (h : ∀ s, s < n → zk (f s)) : ∀ s, s < n → zk (zimg n f c s) := fun _ _ => zimg_k hn h
theorem zL_1 {f : Nat → Int32} {n k : Nat} (hk : k + 1 < n) : zLn (zimg n (zimg n f k) 1) n = zLn (zimg n f (k + 1)) n := zLn_cong fun s hs => zimg_c1 hk hs
theorem zL_0 {f : Nat → Int32} {n : Nat} : zLn f n = zLn (zimg n f 0) n := zLn_cong fun s hs => (zimg_0 hs).symm
theorem zL_mr {f : Nat → Int32} {n c : Nat} (hc : n ≤ c) (hc2 : c < 2 * n) : zLn (zimg n (zimg n f n) (c % n)) n = zLn (zimg n f c) n := zLn_cong fun s hs => zimg_mr hc hc2 hs
theorem zpm_k2 {n s : Nat} {g f : Nat → Int32} (hg : ∀ t, t < n → zk (g t)) (hf : ∀ t, t < n → zk (f t)) : ∀ t, t < n → zk (zpm g f s t) := fun t ht => by
  unfold zpm; split
  · exact hg t ht
  · exact hf t ht
theorem zL_pe {n : Nat} {g f : Nat → Int32} : zLn (zpm g f n) n = zLn g n := zLn_cong fun s hs => if_pos hs
theorem zL_p1 {n : Nat} {f : Nat → Int32} (hn : 0 < n) : zLn f n = zLn (zpm (zimg n f n) f 1) n := zLn_cong fun s hs => by
  unfold zpm
  by_cases q : s < 1
  · rw [if_pos q, show s = 0 by omega, zimg_m0 hn]
  · rw [if_neg q]
theorem zdf_0 {n : Nat} {f : Nat → Int32} {c : Nat} (hn : 0 < n) (h : ∀ s, s < n → zk (f s)) : zLn (zimg n f c) n = zLn f n ↔ zdf n f c f = 0 := by
  rw [zLn_inj (zLn_k hn h) h, zdf_i]
/-- the number of a ring's least form -/
def zLe (lv n : Nat) (f : Nat → Int32) : Nat := zLn (zimg n f (zls n f lv)) n
theorem zlt_L {n : Nat} {f : Nat → Int32} {c d : Nat} (hn : 0 < n) (h : ∀ s, s < n → zk (f s)) : zLn (zimg n f c) n < zLn (zimg n f d) n ↔ zlt n f c d = true := by
  rw [(zLn_cmp (zLn_k hn h) (zLn_k hn h)).1]
  exact ⟨fun q => decide_eq_true q, fun q => of_decide_eq_true q⟩
theorem zli_0 {n : Nat} {f : Nat → Int32} {lv : Nat} : zchg lv (zli n f lv 0) n = 0 := by
  show zchg lv 0 n = 0
  unfold zchg; split <;> simp
theorem zL_li {n i lv : Nat} {f : Nat → Int32} (h : zlt n f (zchg lv i n) (zchg lv (zli n f lv i) n) = true) : zLn (zimg n f (zchg lv i n)) n = zLn (zimg n f (zchg lv (zli n f lv (i + 1)) n)) n := by rw [zli_t h]
theorem zL_lf {n i lv : Nat} {f : Nat → Int32} (h : zlt n f (zchg lv i n) (zchg lv (zli n f lv i) n) = false) : zLn (zimg n f (zchg lv (zli n f lv i) n)) n = zLn (zimg n f (zchg lv (zli n f lv (i + 1)) n)) n := by rw [zli_f h]
theorem zchg_0 {lv i n : Nat} (h : lv = 0) : zchg lv i n = i * n / 4 := if_pos h
theorem zchg_1 {lv i n : Nat} (h : ¬ lv = 0) : zchg lv i n = i := if_neg h
theorem znc_0 {lv n : Nat} (h : lv = 0) : 4 = znc lv n := by unfold znc; rw [if_pos h]
theorem znc_1 {lv n : Nat} (h : lv = 1) : n = znc lv n := by unfold znc; rw [if_neg (by omega), if_pos h]
theorem znc_2 {lv n : Nat} (h0 : ¬ lv = 0) (h : ¬ lv = 1) : 2 * n = znc lv n := by unfold znc; rw [if_neg h0, if_neg h]
theorem zsum_1 {wt f : Nat → Int32} {a j : Nat} : zqs wt f a (j + 1) = zqs wt f a j + zw wt f (a + j) := rfl
theorem zw_0 {wt f : Nat → Int32} {s : Nat} (h : f s = 0) : zw wt f s = nI 0 := if_pos h
theorem zw_1 {wt f : Nat → Int32} {s : Nat} (h : ¬ f s = 0) : zw wt f s = wt (f s).toNatClampNeg := if_neg h
theorem zsz4.q {n : Nat} (h : zsz4 n) : 4 * (n / 4) = n ∧ 1 ≤ n / 4 ∧ n / 4 ≤ 4 := by rcases h with rfl | rfl | rfl | rfl <;> decide
theorem zabs_a {x : Int32} (h : ¬ x < 0) : zabs x = x := zabs_p (Int32.not_lt.mp h)
theorem zabs_b {x : Int32} (h : x < 0) : zabs x = -x := zabs_n (Int32.not_le.mpr h)
/-! the walk of slots, of rolled -/
theorem zL_more {f : Nat → Int32} {n i : Nat} (hi : i ≤ n) (h : 7 < zLn f (n - i)) : i + 1 ≤ n := by
  rcases Nat.lt_or_ge i n with q | q
  · exact q
  · rw [show n - i = 0 by omega] at h
    exact absurd h (Nat.lt_irrefl 7)
theorem zL_sub {f : Nat → Int32} {n i : Nat} (hn : n ≤ 16) (_ : i ≤ n) (hk : ∀ s, s < n → zk (f s)) : zLn f (n - i) < 2 ^ 51 := zLn_62 (by omega) fun s hs => hk s (by omega)
theorem zL_dec {f : Nat → Int32} {n i : Nat} (hi : i ≤ n) (h : 7 < zLn f (n - i)) (hk : ∀ s, s < n → zk (f s)) : zLn f (n - i) / 2 ^ 3 = zLn f (n - (i + 1)) := by
  have h9 := zL_more hi h
  rw [show n - i = (n - (i + 1)) + 1 by omega]
  exact zLn_8 (hk _ (by omega))
theorem zL_last {f : Nat → Int32} {n i : Nat} (hi : i ≤ n) (h : zLn f (n - i) ≤ 7) : i = n := by
  rcases Nat.lt_or_ge i n with q | q
  · exfalso
    have h1 := zLn_ge (f := f) (n - i)
    have h2 : 2 ^ 3 ≤ 2 ^ (3 * (n - i)) := Nat.pow_le_pow_right (by decide) (by omega)
    generalize 2 ^ (3 * (n - i)) = P at *
    omega
  · omega
theorem zl_p3 {n : Nat} (hn : n ≤ 16) : 1 ≤ 2 ^ (3 * n) ∧ 2 ^ (3 * n) ≤ 2 ^ 48 := ⟨Nat.pow_pos (by decide), Nat.pow_le_pow_right (by decide) (by omega)⟩
theorem zL_dig {f : Nat → Int32} {n : Nat} (hk : ∀ s, s < n → zk (f s)) : lN (zLn f n &&& (1 * 2 ^ (3 * n) - 1)) = lN (zdi f n) := by
  rw [Nat.one_mul, Nat.and_two_pow_sub_one_eq_mod, zLn_dg, Nat.add_comm, Nat.add_mul_mod_self_right, Nat.mod_eq_of_lt (zdi_lt hk)]
theorem zL_m8 (x : Nat) : lN (x &&& 7) = lN (x % 8) := by rw [show (7 : Nat) = 2 ^ 3 - 1 by decide, Nat.and_two_pow_sub_one_eq_mod]
theorem zl_o1 {f : Nat → Int32} {n : Nat} (hn : zsz4 n) (hk : ∀ s, s < n → zk (f s)) : 7 * 2 ^ (3 * n) < 2 ^ 64 ∧ zdi f n % 8 * 2 ^ (3 * (n - 1)) < 2 ^ 64 := by
  have hP := zl_p3 hn.b.2.1
  have hQ : 2 ^ (3 * (n - 1)) ≤ 2 ^ 48 := Nat.pow_le_pow_right (by decide) (by have := hn.b; omega)
  have hm : zdi f n % 8 * 2 ^ (3 * (n - 1)) ≤ 7 * 2 ^ 48 := Nat.mul_le_mul (by omega) hQ
  exact ⟨by omega, by omega⟩
theorem zl_o2 {f : Nat → Int32} {n : Nat} (hn : zsz4 n) (hk : ∀ s, s < n → zk (f s)) : (7 * 2 ^ (3 * n) ||| zdi f n % 8 * 2 ^ (3 * (n - 1))) < 2 ^ 64 ∧ zdi f n / 2 ^ 3 < 2 ^ 64 := by
  have hP := zl_p3 hn.b.2.1
  have hd := zdi_lt hk
  exact ⟨Nat.or_lt_two_pow (zl_o1 hn hk).1 (zl_o1 hn hk).2, by omega⟩
theorem zL_rolledN {f : Nat → Int32} {n : Nat} (hn : zsz4 n) (hk : ∀ s, s < n → zk (f s)) : lN (7 * 2 ^ (3 * n) ||| zdi f n % 8 * 2 ^ (3 * (n - 1)) ||| zdi f n / 2 ^ 3) = lN (zLn (zimg n f 1) n) := by
  obtain ⟨m, rfl⟩ : ∃ m, n = m + 1 := ⟨n - 1, by have := hn.b; omega⟩
  rw [Nat.add_sub_cancel, zL_rolled hk]
theorem zb01 (b : Bool) : zb b = 0 ∨ zb b = 1 := by cases b; exact Or.inl rfl; exact Or.inr rfl
theorem zpl_t {ml n i t : Nat} {sg f : Nat → Int32} (h : zmp ml sg n f i t = true) (h1 : t ≤ ml) (h2 : ml ≤ t) : zset (zmt ml sg n f) i ||| (nI 1 <<< (nI i &&& 31)) = zset (zmt ml sg n f) (i + 1) := by
  rw [show t = ml by omega] at h
  exact zset_t h
theorem zpl_f {ml n i t : Nat} {sg f : Nat → Int32} (h : zmp ml sg n f i t = false) (h1 : t ≤ ml) (h2 : ml ≤ t) : zset (zmt ml sg n f) i ||| nI 0 = zset (zmt ml sg n f) (i + 1) := by
  rw [show t = ml by omega] at h
  exact zset_o h
