/-! Integer.bitCount -/
def zus (x : Int32) (k : Nat) : Int32 := (x.toUInt32 >>> ((nI k).toUInt32 &&& Int32.toUInt32 31)).toInt32
def zj1 (x : Int32) : Int32 := x - (zus x 1 &&& 1431655765)
def zj2 (x : Int32) : Int32 := (x &&& 858993459) + (zus x 2 &&& 858993459)
def zj3 (x : Int32) : Int32 := (x + zus x 4) &&& 252645135
def zj4 (x : Int32) : Int32 := x + zus x 8
def zj5 (x : Int32) : Int32 := x + zus x 16
def zjb (x : Int32) : Int32 := zj5 (zj4 (zj3 (zj2 (zj1 x)))) &&& nI 63
theorem zand (a b : Nat) : nI a &&& nI b = nI (a &&& b) := by
  apply Int32.toBitVec_inj.mp
  show (BitVec.ofNat 32 a) &&& (BitVec.ofNat 32 b) = BitVec.ofNat 32 (a &&& b)
  exact (BitVec.ofNat_and).symm
theorem zus_n {m k : Nat} (hm : m < 2 ^ 32) (hs : (((nI k).toUInt32 &&& Int32.toUInt32 31).toBitVec % 32).toNat = k) : zus (nI m) k = nI (m / 2 ^ k) := pk_ushrN hm (nI k) k hs
def zF1 (m : Nat) : Nat := m - (m / 2 &&& 1431655765)
def zF2 (m : Nat) : Nat := (m &&& 858993459) + (m / 4 &&& 858993459)
def zF3 (m : Nat) : Nat := (m + m / 16) &&& 252645135
def zF4 (m : Nat) : Nat := m + m / 256
def zF5 (m : Nat) : Nat := m + m / 65536
def zF (m : Nat) : Nat := zF5 (zF4 (zF3 (zF2 (zF1 m)))) &&& 63
theorem zjb_F {m : Nat} (h : m < 65536) : zjb (nI m) = nI (zF m) := by
  have b1 : zF1 m < 65536 := by unfold zF1; omega
  have e1 : zj1 (nI m) = nI (zF1 m) := by
    unfold zj1 zF1
    rw [zus_n (by omega) (by decide), show (1431655765 : Int32) = nI 1431655765 from rfl, zand, pk_sub (Nat.le_trans Nat.and_le_left (by omega))]
  have b2 : zF2 (zF1 m) < 2 * 65536 := by
    unfold zF2
    have q1 : zF1 m &&& 858993459 ≤ zF1 m := Nat.and_le_left
    have q2 : zF1 m / 4 &&& 858993459 ≤ zF1 m / 4 := Nat.and_le_left
    omega
  have e2 : zj2 (nI (zF1 m)) = nI (zF2 (zF1 m)) := by
    unfold zj2 zF2
    rw [zus_n (by omega) (by decide), show (858993459 : Int32) = nI 858993459 from rfl, zand, zand, nI_add]
  have b3 : zF3 (zF2 (zF1 m)) < 4 * 65536 := by
    unfold zF3
    have q1 : zF2 (zF1 m) + zF2 (zF1 m) / 16 &&& 252645135 ≤ zF2 (zF1 m) + zF2 (zF1 m) / 16 := Nat.and_le_left
    omega
  have e3 : zj3 (nI (zF2 (zF1 m))) = nI (zF3 (zF2 (zF1 m))) := by
    unfold zj3 zF3
    rw [zus_n (by omega) (by decide), show (252645135 : Int32) = nI 252645135 from rfl, nI_add, zand]
  have e4 : zj4 (nI (zF3 (zF2 (zF1 m)))) = nI (zF4 (zF3 (zF2 (zF1 m)))) := by
    unfold zj4 zF4
    rw [zus_n (by omega) (by decide), nI_add]
  have b4 : zF4 (zF3 (zF2 (zF1 m))) < 8 * 65536 := by unfold zF4; omega
  have e5 : zj5 (nI (zF4 (zF3 (zF2 (zF1 m))))) = nI (zF5 (zF4 (zF3 (zF2 (zF1 m))))) := by
    unfold zj5 zF5
    rw [zus_n (by omega) (by decide), nI_add]
  unfold zjb zF
  rw [e1, e2, e3, e4, e5, zand]
def zP (m : Nat) : Nat := m % 2 + m / 2 % 2 + m / 4 % 2 + m / 8 % 2 + m / 16 % 2 + m / 32 % 2 + m / 64 % 2 + m / 128 % 2 + m / 256 % 2 + m / 512 % 2 + m / 1024 % 2 + m / 2048 % 2 + m / 4096 % 2 + m / 8192 % 2 + m / 16384 % 2 + m / 32768 % 2
def zchk : Nat → Nat → Bool
  | 0, lo => zF lo == zP lo
  | k + 1, lo => zchk k lo && zchk k (lo + 2 ^ k)
theorem zchk_s : ∀ {k lo m : Nat}, zchk k lo = true → lo ≤ m → m < lo + 2 ^ k → zF m = zP m
  | 0, lo, m, h, h1, h2 => by
    have e : m = lo := by omega
    subst e
    exact of_decide_eq_true (by simpa [zchk] using h)
  | k + 1, lo, m, h, h1, h2 => by
    simp only [zchk, Bool.and_eq_true] at h
    rw [Nat.pow_succ] at h2
    rcases Nat.lt_or_ge m (lo + 2 ^ k) with q | q
    · exact zchk_s h.1 h1 q
    · exact zchk_s h.2 q (by omega)
theorem zF_P {m : Nat} (h : m < 65536) : zF m = zP m := zchk_s (k := 16) (lo := 0) (by decide +kernel) (Nat.zero_le _) (by omega)
theorem zbc_n {m : Nat} (h : m < 65536) {i : Nat} (hi : i < 16) : ((nI m >>> (nI i &&& 31)) &&& 1) = nI (m / 2 ^ i % 2) := by
  have hs : ∀ i : Nat, i < 16 → ((nI i &&& 31).toBitVec.smod 32).toNat = i := by decide
  rw [pk_shrN (by omega) (nI i &&& 31) i (hs i hi), show (1 : Int32) = nI 1 from rfl, zand, Nat.and_one_is_mod]
theorem zbc_P {m : Nat} (h : m < 65536) : zbc (nI m) 16 = nI (zP m) := by
  simp only [zbc]
  rw [zbc_n h (i := 0) (by decide), zbc_n h (i := 1) (by decide), zbc_n h (i := 2) (by decide), zbc_n h (i := 3) (by decide), zbc_n h (i := 4) (by decide), zbc_n h (i := 5) (by decide), zbc_n h (i := 6) (by decide), zbc_n h (i := 7) (by decide), zbc_n h (i := 8) (by decide), zbc_n h (i := 9) (by decide), zbc_n h (i := 10) (by decide), zbc_n h (i := 11) (by decide), zbc_n h (i := 12) (by decide), zbc_n h (i := 13) (by decide), zbc_n h (i := 14) (by decide), zbc_n h (i := 15) (by decide), show (0 : Int32) = nI 0 from rfl]
  simp only [nI_add]
  unfold zP
  congr 1
  simp
theorem zset_n (p : Nat → Bool) : ∀ {n : Nat}, n ≤ 16 → ∃ m : Nat, m < 2 ^ n ∧ zset p n = nI m
  | 0, _ => ⟨0, by decide, rfl⟩
  | n + 1, h => by
    obtain ⟨m, hm, e⟩ := zset_n p (n := n) (by omega)
    have hs : ∀ i : Nat, i < 16 → (1 : Int32) <<< (nI i &&& 31) = nI (2 ^ i) := by decide
    by_cases q : p n = true
    · refine ⟨m + 2 ^ n, by rw [Nat.pow_succ]; omega, ?_⟩
      rw [← zset_t q, e, hs n (by omega)]
      have e2 : m ||| 2 ^ n = m + 2 ^ n := by
        have h9 := Nat.two_pow_add_eq_or_of_lt hm 1
        rw [Nat.mul_one] at h9
        rw [Nat.or_comm, Nat.add_comm]
        exact h9.symm
      show nI m ||| nI (2 ^ n) = nI (m + 2 ^ n)
      rw [← e2]
      apply Int32.toBitVec_inj.mp
      show (BitVec.ofNat 32 m) ||| (BitVec.ofNat 32 (2 ^ n)) = BitVec.ofNat 32 (m ||| 2 ^ n)
      exact (BitVec.ofNat_or).symm
    · refine ⟨m, by rw [Nat.pow_succ]; omega, ?_⟩
      rw [← zset_f (by simpa using q), e]
/-- both ways of counting bits agree -/
theorem zjb_bc (p : Nat → Bool) {n : Nat} (h : n ≤ 16) : zjb (zset p n) = zbc (zset p n) 16 := by
  obtain ⟨m, hm, e⟩ := zset_n p h
  have hm2 : m < 65536 := Nat.lt_of_lt_of_le hm (Nat.pow_le_pow_right (by decide) h)
  rw [e, zjb_F hm2, zbc_P hm2, zF_P hm2]
theorem zjb_6 (p : Nat → Bool) : zjb (zset p 6) = nI (zct p 6) := by
  have ht : ∀ a b c d e f : Bool, zjb (zset (fun t => match t with | 0 => a | 1 => b | 2 => c | 3 => d | 4 => e | _ => f) 6) = nI (zct (fun t => match t with | 0 => a | 1 => b | 2 => c | 3 => d | 4 => e | _ => f) 6) := by decide +kernel
  have h9 := ht (p 0) (p 1) (p 2) (p 3) (p 4) (p 5)
  have hq : ∀ i, i < 6 → (fun t => match t with | 0 => p 0 | 1 => p 1 | 2 => p 2 | 3 => p 3 | 4 => p 4 | _ => p 5) i = p i := by
    intro i hi
    rcases (show i = 0 ∨ i = 1 ∨ i = 2 ∨ i = 3 ∨ i = 4 ∨ i = 5 by omega) with rfl | rfl | rfl | rfl | rfl | rfl <;> rfl
  rw [zset_cong hq, zct_cong hq] at h9
  exact h9
