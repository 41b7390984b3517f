/-! longs that are numbers: shifts, and, or, compares (the wb_ and pf_ rows are the kit's, pasted) -/
theorem wb_tb (n : Nat) : (lN n).toBitVec = BitVec.ofNat 64 n := rfl
theorem wb_inj {a b : Int64} (h : a.toBitVec = b.toBitVec) : a = b := Int64.toBitVec_inj.mp h
theorem wb_c : ∀ k, k < 64 → ((nI k).toInt64 &&& 63) = lN k := by decide +kernel
theorem wb_sm : ∀ k, k < 64 → (BitVec.ofNat 64 k).smod 64 = BitVec.ofNat 64 k := by decide +kernel
theorem wb_shl (n : Nat) {k : Nat} (hk : k < 64) : lN n <<< ((nI k).toInt64 &&& 63) = lN (n * 2 ^ k) := by
  rw [wb_c k hk]
  apply wb_inj
  rw [Int64.toBitVec_shiftLeft, wb_tb, wb_tb, wb_tb, wb_sm k hk]
  apply BitVec.eq_of_toNat_eq
  rw [BitVec.shiftLeft_eq', BitVec.toNat_shiftLeft, BitVec.toNat_ofNat, BitVec.toNat_ofNat, BitVec.toNat_ofNat, Nat.mod_eq_of_lt (show k < 2 ^ 64 by omega), Nat.shiftLeft_eq, Nat.mul_mod, Nat.mod_mod, ← Nat.mul_mod]
theorem wb_and {a b : Nat} (ha : a < 2 ^ 64) (hb : b < 2 ^ 64) : lN a &&& lN b = lN (a &&& b) := by
  apply wb_inj
  rw [Int64.toBitVec_and, wb_tb, wb_tb, wb_tb]
  apply BitVec.eq_of_toNat_eq
  rw [BitVec.toNat_and, BitVec.toNat_ofNat, BitVec.toNat_ofNat, BitVec.toNat_ofNat, Nat.mod_eq_of_lt ha, Nat.mod_eq_of_lt hb, Nat.mod_eq_of_lt (Nat.and_lt_two_pow _ hb)]
theorem wb_or {a b : Nat} (ha : a < 2 ^ 64) (hb : b < 2 ^ 64) : lN a ||| lN b = lN (a ||| b) := by
  apply wb_inj
  rw [Int64.toBitVec_or, wb_tb, wb_tb, wb_tb]
  apply BitVec.eq_of_toNat_eq
  rw [BitVec.toNat_or, BitVec.toNat_ofNat, BitVec.toNat_ofNat, BitVec.toNat_ofNat, Nat.mod_eq_of_lt ha, Nat.mod_eq_of_lt hb, Nat.mod_eq_of_lt (Nat.or_lt_two_pow ha hb)]
theorem pf_lI {a : Nat} (h : a < 2 ^ 63) : (lN a).toInt = (a : Int) := lg_ofNat_toInt h
theorem pf_shr {a d : Nat} {D : Int64} (hD : (D.toBitVec.smod 64).toNat = d) (h : a < 2 ^ 62) : lN a >>> D = lN (a / 2 ^ d) := by
  have hd : a / 2 ^ d ≤ a := Nat.div_le_self _ _
  apply Int64.toInt_inj.mp
  have e : (lN a >>> D).toInt = (lN a).toInt >>> d := by
    rw [← hD]
    exact BitVec.toInt_sshiftRight ..
  rw [e, Int.shiftRight_eq_div_pow, pf_lI (by omega), pf_lI (by omega)]
  rfl
theorem zl_shr {a k : Nat} (h : a < 2 ^ 62) (hk : k < 64) : lN a >>> ((nI k).toInt64 &&& 63) = lN (a / 2 ^ k) := by
  rw [wb_c k hk]
  refine pf_shr ?_ h
  rw [wb_tb, wb_sm k hk, BitVec.toNat_ofNat, Nat.mod_eq_of_lt (by omega)]
theorem zl_lt {a b : Nat} (ha : a < 2 ^ 63) (hb : b < 2 ^ 63) : lN a < lN b ↔ a < b := by
  rw [Int64.lt_iff_toInt_lt, pf_lI ha, pf_lI hb]; omega
theorem zl_le {a b : Nat} (ha : a < 2 ^ 63) (hb : b < 2 ^ 63) : lN a ≤ lN b ↔ a ≤ b := by
  rw [Int64.le_iff_toInt_le, pf_lI ha, pf_lI hb]; omega
theorem zl_eq {a b : Nat} (ha : a < 2 ^ 63) (hb : b < 2 ^ 63) : lN a = lN b ↔ a = b := by
  constructor
  · intro h
    have h1 := congrArg Int64.toInt h
    rw [pf_lI ha, pf_lI hb] at h1; omega
  · rintro rfl; rfl
theorem zl_bit {X k c low i : Nat} (hk : k < 8) (hl : low < 2 ^ c) : (2 ^ c * (8 * X + k) + low).testBit i = if i < c then low.testBit i else if i - c < 3 then k.testBit (i - c) else X.testBit (i - c - 3) := by
  rw [Nat.testBit_two_pow_mul_add _ hl]
  split
  · rfl
  · rw [show 8 * X + k = 2 ^ 3 * X + k by omega, Nat.testBit_two_pow_mul_add _ (show k < 2 ^ 3 by omega)]
theorem zl_7 {c i : Nat} : (7 * 2 ^ c).testBit i = (decide (c ≤ i) && decide (i - c < 3)) := by
  rw [Nat.testBit_mul_two_pow]
  congr 1
  by_cases h : i - c < 3
  · rcases (show i - c = 0 ∨ i - c = 1 ∨ i - c = 2 by omega) with q | q | q <;> rw [q] <;> rfl
  · rw [decide_eq_false h]
    exact Nat.testBit_lt_two_pow (Nat.lt_of_lt_of_le (show 7 < 2 ^ 3 by decide) (Nat.pow_le_pow_right (by decide) (by omega)))
theorem zl_lay {X k k' c low : Nat} (hk : k < 8) (hk' : k' < 8) (hl : low < 2 ^ c) : (lN (2 ^ c * (8 * X + k) + low) &&& (lN (7 * 2 ^ c) ^^^ (-1))) ||| lN (k' * 2 ^ c) = lN (2 ^ c * (8 * X + k') + low) := by
  apply wb_inj
  rw [Int64.toBitVec_or, Int64.toBitVec_and, Int64.toBitVec_xor, wb_tb, wb_tb, wb_tb, wb_tb, show (-1 : Int64).toBitVec = BitVec.allOnes 64 from by decide]
  apply BitVec.eq_of_getLsbD_eq
  intro i hi
  simp only [BitVec.getLsbD_or, BitVec.getLsbD_and, BitVec.getLsbD_xor, BitVec.getLsbD_ofNat, BitVec.getLsbD_allOnes, hi, decide_true, Bool.true_and]
  rw [zl_bit hk hl, zl_bit hk' hl, zl_7, Nat.testBit_mul_two_pow]
  by_cases h1 : i < c
  · simp [h1, show ¬ c ≤ i by omega]
  · by_cases h2 : i - c < 3
    · simp [h1, h2, show c ≤ i by omega]
    · rw [Nat.testBit_lt_two_pow (x := k') (i := i - c) (Nat.lt_of_lt_of_le (show k' < 2 ^ 3 by omega) (Nat.pow_le_pow_right (by decide) (by omega)))]
      simp [h1, h2, show c ≤ i by omega]
/-! rings as numbers of base 8 behind a leading 7 -/
def zLn (f : Nat → Int32) : Nat → Nat
  | 0 => 7
  | n + 1 => 8 * zLn f n + (f n).toNatClampNeg
theorem zk_d {x : Int32} (h : zk x) : x = nI x.toNatClampNeg ∧ x.toNatClampNeg ≤ 5 := by
  obtain ⟨j, hj, rfl⟩ := h
  rw [nI_clamp (by omega)]
  exact ⟨rfl, hj⟩
theorem zLn_lt {f : Nat → Int32} : ∀ {n : Nat}, (∀ s, s < n → zk (f s)) → zLn f n < 2 ^ (3 * n + 3)
  | 0, _ => Nat.lt_succ_self 7
  | n + 1, h => by
    have ih := zLn_lt (f := f) (n := n) (fun s hs => h s (by omega))
    have hd := (zk_d (h n (by omega))).2
    rw [show 3 * (n + 1) + 3 = (3 * n + 3) + 3 by omega, Nat.pow_add 2 (3 * n + 3) 3]
    show 8 * zLn f n + _ < _
    generalize 2 ^ (3 * n + 3) = P at ih
    omega
theorem zLn_ge {f : Nat → Int32} : ∀ n : Nat, 7 * 2 ^ (3 * n) ≤ zLn f n
  | 0 => Nat.le_refl 7
  | n + 1 => by
    have ih := zLn_ge (f := f) n
    rw [show 3 * (n + 1) = 3 * n + 3 by omega, Nat.pow_add]
    show _ ≤ 8 * zLn f n + _
    generalize 2 ^ (3 * n) = P at ih
    omega
theorem zLn_62 {f : Nat → Int32} {n : Nat} (hn : n ≤ 16) (h : ∀ s, s < n → zk (f s)) : zLn f n < 2 ^ 51 := Nat.lt_of_lt_of_le (zLn_lt h) (Nat.pow_le_pow_right (by decide) (by omega))
theorem zLn_pos {f : Nat → Int32} (n : Nat) : 7 ≤ zLn f n := by
  have h := zLn_ge (f := f) n
  have h2 : 0 < 2 ^ (3 * n) := Nat.pow_pos (by decide)
  generalize 2 ^ (3 * n) = P at h h2
  omega
theorem zLn_8 {f : Nat → Int32} {n : Nat} (h : zk (f n)) : zLn f (n + 1) / 8 = zLn f n := by
  have hd := (zk_d h).2
  show (8 * zLn f n + _) / 8 = _
  omega
theorem zLn_div {f : Nat → Int32} {n : Nat} : ∀ {k : Nat}, (∀ s, s < n + k → zk (f s)) → zLn f (n + k) / 2 ^ (3 * k) = zLn f n
  | 0, _ => by simp
  | k + 1, h => by
    rw [show 3 * (k + 1) = 3 + 3 * k by omega, Nat.pow_add, ← Nat.div_div_eq_div_mul]
    show zLn f (n + k + 1) / 8 / _ = _
    rw [zLn_8 (h _ (by omega))]
    exact zLn_div (fun s hs => h s (by omega))
theorem zl_m8 {A d P : Nat} (hd : d < 8) (hP : 0 < P) : (8 * A + d) % (8 * P) = 8 * (A % P) + d := by
  have h1 := Nat.div_add_mod A P
  have h2 := Nat.mod_lt A hP
  have e : 8 * A + d = (8 * (A % P) + d) + 8 * P * (A / P) := by
    rw [Nat.mul_assoc]; omega
  rw [e, Nat.add_mul_mod_self_left, Nat.mod_eq_of_lt (by omega)]
theorem zLn_mod {f g : Nat → Int32} {k : Nat} : ∀ {m : Nat}, (∀ t, k ≤ t → t < k + m → f t = g t) → (∀ t, k ≤ t → t < k + m → zk (f t)) → zLn f (k + m) % 2 ^ (3 * m) = zLn g (k + m) % 2 ^ (3 * m)
  | 0, _, _ => by simp [Nat.mod_one]
  | m + 1, h, hk => by
    have ih := zLn_mod (f := f) (g := g) (k := k) (m := m) (fun t h1 h2 => h t h1 (by omega)) (fun t h1 h2 => hk t h1 (by omega))
    have hd := (zk_d (hk (k + m) (by omega) (by omega))).2
    have hq := h (k + m) (by omega) (by omega)
    rw [show 3 * (m + 1) = 3 + 3 * m by omega, Nat.pow_add]
    show (8 * zLn f (k + m) + (f (k + m)).toNatClampNeg) % (8 * _) = (8 * zLn g (k + m) + (g (k + m)).toNatClampNeg) % (8 * _)
    rw [← hq, zl_m8 (by omega) (Nat.pow_pos (by decide)), zl_m8 (by omega) (Nat.pow_pos (by decide)), ih]
theorem zLn_cong {f g : Nat → Int32} : ∀ {n : Nat}, (∀ s, s < n → f s = g s) → zLn f n = zLn g n
  | 0, _ => rfl
  | n + 1, h => by
    show 8 * zLn f n + _ = 8 * zLn g n + _
    rw [zLn_cong (fun s hs => h s (by omega)), h n (by omega)]
/-- a slot's kind: its digit -/
theorem zL_kind {f : Nat → Int32} {n s : Nat} (h : ∀ s, s < n → zk (f s)) (hs : s < n) : nI (zLn f n / 2 ^ (3 * (n - 1 - s))) &&& nI 7 = f s := by
  have e : n = (s + 1) + (n - 1 - s) := by omega
  have h1 : zLn f n / 2 ^ (3 * (n - 1 - s)) = zLn f (s + 1) := by
    have := zLn_div (f := f) (n := s + 1) (k := n - 1 - s) (fun t ht => h t (by omega))
    rw [← e] at this
    exact this
  rw [h1, zand]
  have hd := zk_d (h s hs)
  have e7 : zLn f (s + 1) &&& 7 = (f s).toNatClampNeg := by
    rw [show (7 : Nat) = 2 ^ 3 - 1 by decide, Nat.and_two_pow_sub_one_eq_mod]
    show (8 * zLn f s + _) % 2 ^ 3 = _
    have := hd.2
    omega
  rw [e7]
  exact hd.1.symm
/-- another charm in a slot -/
theorem zL_lay {f : Nat → Int32} {n s : Nat} {x : Int32} (h : ∀ s, s < n → zk (f s)) (hs : s < n) (hx : zk x) : (lN (zLn f n) &&& (lN (7 * 2 ^ (3 * (n - 1 - s))) ^^^ (-1))) ||| lN (x.toNatClampNeg * 2 ^ (3 * (n - 1 - s))) = lN (zLn (upd f s x) n) := by
  have he : n = (s + 1) + (n - 1 - s) := by omega
  have hg : ∀ t, t < n → zk (upd f s x t) := fun t ht => by
    unfold upd; split
    · exact hx
    · exact h t ht
  have d1 : zLn f n / 2 ^ (3 * (n - 1 - s)) = zLn f (s + 1) := by
    have := zLn_div (f := f) (n := s + 1) (k := n - 1 - s) (fun t ht => h t (by omega))
    rw [← he] at this
    exact this
  have d2 : zLn (upd f s x) n / 2 ^ (3 * (n - 1 - s)) = zLn (upd f s x) (s + 1) := by
    have := zLn_div (f := upd f s x) (n := s + 1) (k := n - 1 - s) (fun t ht => hg t (by omega))
    rw [← he] at this
    exact this
  have m1 : zLn f n % 2 ^ (3 * (n - 1 - s)) = zLn (upd f s x) n % 2 ^ (3 * (n - 1 - s)) := by
    have := zLn_mod (f := f) (g := upd f s x) (k := s + 1) (m := n - 1 - s) (fun t h1 h2 => (if_neg (by omega)).symm) (fun t h1 h2 => h t (by omega))
    rw [← he] at this
    exact this
  have e1 : zLn f (s + 1) = 8 * zLn f s + (f s).toNatClampNeg := rfl
  have e2 : zLn (upd f s x) (s + 1) = 8 * zLn f s + x.toNatClampNeg := by
    show 8 * zLn (upd f s x) s + (upd f s x s).toNatClampNeg = _
    rw [zLn_cong (f := upd f s x) (g := f) (fun t ht => if_neg (by omega)), show upd f s x s = x from if_pos rfl]
  have f1 := Nat.div_add_mod (zLn f n) (2 ^ (3 * (n - 1 - s)))
  have f2 := Nat.div_add_mod (zLn (upd f s x) n) (2 ^ (3 * (n - 1 - s)))
  rw [d1, e1] at f1
  rw [d2, e2, ← m1] at f2
  rw [← f1, ← f2]
  have b1 := (zk_d (h s hs)).2
  have b2 := (zk_d hx).2
  rw [f1]
  exact (by
    have := zl_lay (X := zLn f s) (k := (f s).toNatClampNeg) (k' := x.toNatClampNeg) (c := 3 * (n - 1 - s)) (low := zLn f n % 2 ^ (3 * (n - 1 - s))) (by omega) (by omega) (Nat.mod_lt _ (Nat.pow_pos (by decide)))
    rw [f1] at this
    exact this)
/-- the digits without the leading 7 -/
def zdi (f : Nat → Int32) : Nat → Nat
  | 0 => 0
  | n + 1 => 8 * zdi f n + (f n).toNatClampNeg
theorem zdi_lt {f : Nat → Int32} : ∀ {n : Nat}, (∀ s, s < n → zk (f s)) → zdi f n < 2 ^ (3 * n)
  | 0, _ => Nat.lt_succ_self 0
  | n + 1, h => by
    have ih := zdi_lt (f := f) (n := n) (fun s hs => h s (by omega))
    have hd := (zk_d (h n (by omega))).2
    rw [show 3 * (n + 1) = 3 * n + 3 by omega, Nat.pow_add]
    show 8 * zdi f n + _ < _
    generalize 2 ^ (3 * n) = P at ih
    omega
theorem zLn_dg (f : Nat → Int32) : ∀ n : Nat, zLn f n = 7 * 2 ^ (3 * n) + zdi f n
  | 0 => rfl
  | n + 1 => by
    have ih := zLn_dg f n
    rw [show 3 * (n + 1) = 3 * n + 3 by omega, Nat.pow_add]
    show 8 * zLn f n + _ = _ + (8 * zdi f n + _)
    rw [ih]
    generalize 2 ^ (3 * n) = P
    omega
theorem zdi_front (g : Nat → Int32) : ∀ m : Nat, zdi g (m + 1) = (g 0).toNatClampNeg * 2 ^ (3 * m) + zdi (fun s => g (s + 1)) m
  | 0 => by simp [zdi]
  | m + 1 => by
    have ih := zdi_front g m
    show 8 * zdi g (m + 1) + (g (m + 1)).toNatClampNeg = _ + (8 * zdi (fun s => g (s + 1)) m + (g (m + 1)).toNatClampNeg)
    rw [ih, show 3 * (m + 1) = 3 * m + 3 by omega, Nat.pow_add, ← Nat.mul_assoc]
    generalize (g 0).toNatClampNeg * 2 ^ (3 * m) = P
    omega
theorem zdi_cong {f g : Nat → Int32} : ∀ {n : Nat}, (∀ s, s < n → f s = g s) → zdi f n = zdi g n
  | 0, _ => rfl
  | n + 1, h => by
    show 8 * zdi f n + _ = 8 * zdi g n + _
    rw [zdi_cong (fun s hs => h s (by omega)), h n (by omega)]
/-- rolled by one slot -/
theorem zL_rolled {f : Nat → Int32} {m : Nat} (h : ∀ s, s < m + 1 → zk (f s)) : ((7 * 2 ^ (3 * (m + 1)) ||| (zdi f (m + 1) % 8) * 2 ^ (3 * m)) ||| zdi f (m + 1) / 2 ^ 3) = zLn (zimg (m + 1) f 1) (m + 1) := by
  have hd := (zk_d (h m (by omega))).2
  have e1 : zdi f (m + 1) % 8 = (f m).toNatClampNeg := by
    show (8 * zdi f m + _) % 8 = _
    omega
  have e2 : zdi f (m + 1) / 2 ^ 3 = zdi f m := by
    show (8 * zdi f m + _) / 8 = _
    omega
  have b := zdi_lt (f := f) (n := m) (fun s hs => h s (by omega))
  have b2 : (f m).toNatClampNeg * 2 ^ (3 * m) + zdi f m < 2 ^ (3 * (m + 1)) := by
    rw [show 3 * (m + 1) = 3 + 3 * m by omega, Nat.pow_add]
    have := Nat.mul_le_mul_right (2 ^ (3 * m)) hd
    generalize 2 ^ (3 * m) = P at *
    omega
  rw [e1, e2, Nat.or_assoc, Nat.mul_comm (f m).toNatClampNeg, ← Nat.two_pow_add_eq_or_of_lt b, Nat.mul_comm 7, ← Nat.two_pow_add_eq_or_of_lt (by rw [Nat.mul_comm (2 ^ (3 * m))]; exact b2), zLn_dg, zdi_front]
  have e3 : zimg (m + 1) f 1 0 = f m := by
    unfold zimg
    split
    · rw [show (0 + (m + 1) - 1) % (m + 1) = m by rw [Nat.mod_eq_of_lt (by omega)]; omega]
    · rw [show m = 0 by omega]
  rw [e3, zdi_cong (f := fun s => zimg (m + 1) f 1 (s + 1)) (g := f) (n := m) (fun s hs => by
    rw [zimg_ra (by omega) (by omega) (by omega)]
    congr 1), Nat.mul_comm 7, Nat.mul_comm (f m).toNatClampNeg]
/-! numbers against each other -/
theorem zd_lt {x y : Int32} (hx : zk x) (hy : zk y) : x < y ↔ x.toNatClampNeg < y.toNatClampNeg := by
  obtain ⟨i, hi, rfl⟩ := hx
  obtain ⟨j, hj, rfl⟩ := hy
  rw [nI_clamp (by omega), nI_clamp (by omega), nI_ltI (by omega) (by omega)]
theorem zd_eq {x y : Int32} (hx : zk x) (hy : zk y) : x = y ↔ x.toNatClampNeg = y.toNatClampNeg := by
  obtain ⟨i, hi, rfl⟩ := hx
  obtain ⟨j, hj, rfl⟩ := hy
  rw [nI_clamp (by omega), nI_clamp (by omega), nI_eq (by omega) (by omega)]
theorem zLn_cmp {f g : Nat → Int32} : ∀ {n : Nat}, (∀ s, s < n → zk (f s)) → (∀ s, s < n → zk (g s)) → (zLn f n < zLn g n ↔ zlx f g n = 1) ∧ (zLn f n = zLn g n ↔ zlx f g n = 0)
  | 0, _, _ => ⟨⟨fun h => absurd h (Nat.lt_irrefl _), fun h => by cases h⟩, ⟨fun _ => rfl, fun _ => rfl⟩⟩
  | n + 1, hf, hg => by
    have ih := zLn_cmp (f := f) (g := g) (n := n) (fun s hs => hf s (by omega)) (fun s hs => hg s (by omega))
    have a1 := (zk_d (hf n (by omega))).2
    have a2 := (zk_d (hg n (by omega))).2
    have c1 := zd_lt (hf n (by omega)) (hg n (by omega))
    have c2 := zd_eq (hf n (by omega)) (hg n (by omega))
    show (8 * zLn f n + _ < 8 * zLn g n + _ ↔ (if zlx f g n ≠ 0 then zlx f g n else if f n = g n then 0 else if f n < g n then 1 else 2) = 1) ∧ (8 * zLn f n + _ = 8 * zLn g n + _ ↔ (if zlx f g n ≠ 0 then zlx f g n else if f n = g n then 0 else if f n < g n then 1 else 2) = 0)
    by_cases q : zlx f g n = 0
    · have e := ih.2.mpr q
      rw [if_neg (fun z => z q), e]
      by_cases w : f n = g n
      · have := c2.mp w
        rw [if_pos w]
        constructor <;> constructor <;> intro z <;> omega
      · have w2 : ¬ (f n).toNatClampNeg = (g n).toNatClampNeg := fun z => w (c2.mpr z)
        rw [if_neg w]
        by_cases v : f n < g n
        · have := c1.mp v
          rw [if_pos v]
          constructor <;> constructor <;> intro z <;> omega
        · have v2 : ¬ (f n).toNatClampNeg < (g n).toNatClampNeg := fun z => v (c1.mpr z)
          rw [if_neg v]
          constructor <;> constructor <;> intro z <;> omega
    · have e : ¬ zLn f n = zLn g n := fun z => q (ih.2.mp z)
      rw [if_pos q]
      by_cases v : zlx f g n = 1
      · have := ih.1.mpr v
        constructor <;> constructor <;> intro z <;> omega
      · have v2 : ¬ zLn f n < zLn g n := fun z => v (ih.1.mp z)
        constructor <;> constructor <;> intro z <;> omega
theorem zLn_inj {f g : Nat → Int32} {n : Nat} (hf : ∀ s, s < n → zk (f s)) (hg : ∀ s, s < n → zk (g s)) : zLn f n = zLn g n ↔ ∀ s, s < n → f s = g s := by
  refine ⟨fun h => ?_, zLn_cong⟩
  have q := (zLn_cmp hf hg).2.mp h
  have h0 := zdx_0 (a := f) (b := g) q
  exact zdx_i.mp h0
theorem zLn_sz {f g : Nat → Int32} {n m : Nat} (hf : ∀ s, s < n → zk (f s)) (hg : ∀ s, s < m → zk (g s)) (h : zLn f n = zLn g m) : n = m := by
  have a1 := zLn_lt hf
  have a2 := zLn_lt hg
  have b1 := zLn_ge (f := f) n
  have b2 := zLn_ge (f := g) m
  rcases Nat.lt_trichotomy n m with q | q | q
  · exfalso
    have : 2 ^ (3 * n + 3) ≤ 2 ^ (3 * m) := Nat.pow_le_pow_right (by decide) (by omega)
    generalize 2 ^ (3 * n + 3) = A at *
    generalize 2 ^ (3 * m) = B at *
    omega
  · exact q
  · exfalso
    have : 2 ^ (3 * m + 3) ≤ 2 ^ (3 * n) := Nat.pow_le_pow_right (by decide) (by omega)
    generalize 2 ^ (3 * m + 3) = A at *
    generalize 2 ^ (3 * n) = B at *
    omega
