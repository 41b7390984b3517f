theorem zb_t' {b : Bool} (h : b = true) : nI 1 = zb b := by rw [h]; rfl
theorem zb_f' {b : Bool} (h : b = false) : nI 0 = zb b := by rw [h]; rfl
/-! pure words: counts, sums, sets, images of a ring behind a change -/
def zct (p : Nat → Bool) : Nat → Nat
  | 0 => 0
  | i + 1 => zct p i + (if p i then 1 else 0)
theorem zct_le (p : Nat → Bool) : ∀ n, zct p n ≤ n
  | 0 => Nat.le_refl _
  | n + 1 => by have h := zct_le p n; unfold zct; split <;> omega
theorem zct_t {p : Nat → Bool} {i : Nat} (h : p i = true) : zct p i + 1 = zct p (i + 1) := by simp [zct, h]
theorem zct_f {p : Nat → Bool} {i : Nat} (h : p i = false) : zct p i = zct p (i + 1) := by simp [zct, h]
theorem zct_cong {p q : Nat → Bool} : ∀ {n : Nat}, (∀ i, i < n → p i = q i) → zct p n = zct q n
  | 0, _ => rfl
  | n + 1, h => by simp only [zct]; rw [zct_cong (fun i hi => h i (by omega)), h n (by omega)]
def zsum (f : Nat → Int32) : Nat → Int32
  | 0 => 0
  | i + 1 => zsum f i + f i
theorem zsum_cong {p q : Nat → Int32} : ∀ {n : Nat}, (∀ i, i < n → p i = q i) → zsum p n = zsum q n
  | 0, _ => rfl
  | n + 1, h => by simp only [zsum]; rw [zsum_cong (fun i hi => h i (by omega)), h n (by omega)]
def zset (p : Nat → Bool) : Nat → Int32
  | 0 => 0
  | i + 1 => if p i then zset p i ||| (1 <<< (nI i &&& 31)) else zset p i
theorem zset_t {p : Nat → Bool} {i : Nat} (h : p i = true) : zset p i ||| (1 <<< (nI i &&& 31)) = zset p (i + 1) := by simp [zset, h]
theorem zset_f {p : Nat → Bool} {i : Nat} (h : p i = false) : zset p i = zset p (i + 1) := by simp [zset, h]
theorem zset_cong {p q : Nat → Bool} : ∀ {n : Nat}, (∀ i, i < n → p i = q i) → zset p n = zset q n
  | 0, _ => rfl
  | n + 1, h => by simp only [zset]; rw [zset_cong (fun i hi => h i (by omega)), h n (by omega)]
def zmn (f : Nat → Nat) (a : Nat) : Nat → Nat
  | 0 => a
  | i + 1 => min (zmn f a i) (f i)
theorem zmn_le (f : Nat → Nat) (a : Nat) : ∀ n, zmn f a n ≤ a
  | 0 => Nat.le_refl _
  | n + 1 => by have h := zmn_le f a n; unfold zmn; omega
def zall (p : Nat → Bool) : Nat → Bool
  | 0 => true
  | i + 1 => zall p i && p i
theorem zall_t {p : Nat → Bool} {i : Nat} (h : zall p i = true) (h2 : p i = true) : zall p (i + 1) = true := by simp [zall, h, h2]
theorem zall_iff {p : Nat → Bool} : ∀ {n : Nat}, zall p n = true ↔ ∀ i, i < n → p i = true
  | 0 => ⟨fun _ i hi => absurd hi (Nat.not_lt_zero i), fun _ => rfl⟩
  | n + 1 => by
    have ih := @zall_iff p n
    simp only [zall, Bool.and_eq_true, ih]
    exact ⟨fun h i hi => by rcases Nat.lt_or_ge i n with q | q; exact h.1 i q; rw [show i = n by omega]; exact h.2, fun h => ⟨fun i hi => h i (by omega), h n (by omega)⟩⟩
theorem zall_no {p : Nat → Bool} {i n : Nat} (h : i < n) (h2 : p i = false) : zall p n = false := by
  cases q : zall p n with
  | false => rfl
  | true => have h3 := zall_iff.mp q i h; rw [h2] at h3; cases h3
theorem zall_cong {p q : Nat → Bool} : ∀ {n : Nat}, (∀ i, i < n → p i = q i) → zall p n = zall q n
  | 0, _ => rfl
  | n + 1, h => by simp only [zall]; rw [zall_cong (fun i hi => h i (by omega)), h n (by omega)]
/-- which of two rows comes first: 0 alike so far, 1 the first, 2 the second -/
def zlx (a b : Nat → Int32) : Nat → Nat
  | 0 => 0
  | i + 1 => if zlx a b i ≠ 0 then zlx a b i else if a i = b i then 0 else if a i < b i then 1 else 2
theorem zlx_stay {a b : Nat → Int32} {i : Nat} : ∀ {n : Nat}, i ≤ n → zlx a b i ≠ 0 → zlx a b n = zlx a b i
  | n, h, h0 => by
    induction n with
    | zero => rw [show i = 0 by omega]
    | succ n ih =>
      rcases Nat.lt_or_ge n i with q | q
      · rw [show i = n + 1 by omega]
      · have e := ih q
        show (if zlx a b n ≠ 0 then zlx a b n else _) = _
        rw [if_pos (by rw [e]; exact h0), e]
theorem zlx_eq {a b : Nat → Int32} {i : Nat} (h : zlx a b i = 0) (e : a i = b i) : zlx a b (i + 1) = 0 := by simp [zlx, h, e]
theorem zlx_ne {a b : Nat → Int32} {i n : Nat} (hi : i < n) (h : zlx a b i = 0) (e : ¬ a i = b i) : zlx a b n = if a i < b i then 1 else 2 := by
  have h1 : zlx a b (i + 1) = if a i < b i then 1 else 2 := by simp [zlx, h, e]
  rw [zlx_stay (show i + 1 ≤ n by omega) (by rw [h1]; split <;> decide), h1]
theorem zlx_refl (a : Nat → Int32) : ∀ n, zlx a a n = 0
  | 0 => rfl
  | n + 1 => zlx_eq (zlx_refl a n) rfl
def zlc (lt : Nat → Nat → Bool) : Nat → Nat
  | 0 => 0
  | i + 1 => if lt i (zlc lt i) then i else zlc lt i
theorem zlc_le (lt : Nat → Nat → Bool) : ∀ n, zlc lt n ≤ n
  | 0 => Nat.le_refl _
  | n + 1 => by have h := zlc_le lt n; unfold zlc; split <;> omega
theorem zlc_lt {lt : Nat → Nat → Bool} : ∀ {n : Nat}, 0 < n → zlc lt n < n
  | 0, h => h
  | n + 1, _ => by have h := zlc_le lt n; unfold zlc; split <;> omega
def zimg (n : Nat) (f : Nat → Int32) (c s : Nat) : Int32 := if c < n then f ((s + n - c) % n) else f ((c - s) % n)
def zdf (n : Nat) (f : Nat → Int32) (c : Nat) (g : Nat → Int32) : Nat := zct (fun s => decide (zimg n f c s ≠ g s)) n
def zchg (lv i n : Nat) : Nat := if lv = 0 then i * n / 4 else i
def znc (lv n : Nat) : Nat := if lv = 0 then 4 else if lv = 1 then n else 2 * n
def zmd (n : Nat) (f g : Nat → Int32) (lv : Nat) : Nat → Nat := zmn (fun i => zdf n f (zchg lv i n) g) n
def zlt (n : Nat) (f : Nat → Int32) (c d : Nat) : Bool := decide (zlx (zimg n f c) (zimg n f d) n = 1)
def zli (n : Nat) (f : Nat → Int32) (lv : Nat) : Nat → Nat := zlc (fun i b => zlt n f (zchg lv i n) (zchg lv b n))
/-- the least change, by its number at level 2 -/
def zls (n : Nat) (f : Nat → Int32) (lv : Nat) : Nat := zchg lv (zli n f lv (znc lv n)) n
def zfx (n : Nat) (f : Nat → Int32) (lv : Nat) : Nat → Nat := zct (fun i => decide (zdf n f (zchg lv i n) f = 0))
def zob (n : Nat) (f : Nat → Int32) (lv : Nat) : Nat := if zfx n f lv (znc lv n) < 1 then znc lv n else znc lv n / zfx n f lv (znc lv n)
theorem zchg_lt {lv i n : Nat} (hl : lv ≤ 2) (hn : 0 < n) (hi : i < znc lv n) : zchg lv i n < 2 * n := by
  unfold zchg znc at *
  split
  · rename_i h; rw [if_pos h] at hi
    have h1 : i * n / 4 ≤ 3 * n / 4 := Nat.div_le_div_right (Nat.mul_le_mul_right n (by omega))
    omega
  · rename_i h; rw [if_neg h] at hi
    split at hi <;> omega
theorem znc_le {lv n : Nat} (hn : n ≤ 16) : znc lv n ≤ 32 := by unfold znc; split; omega; split <;> omega
theorem znc_pos {lv n : Nat} (hn : 0 < n) : 0 < znc lv n := by unfold znc; split; omega; split <;> omega
theorem zdf_le (n : Nat) (f : Nat → Int32) (c : Nat) (g : Nat → Int32) : zdf n f c g ≤ n := zct_le _ _
theorem zmd_le (n : Nat) (f g : Nat → Int32) (lv i : Nat) : zmd n f g lv i ≤ n := zmn_le _ _ _
theorem zmod_1 {a n : Nat} (h : n ≤ a) (h2 : a < n + n) : a % n = a - n := by
  have e : a = (a - n) + n * 1 := by omega
  rw [e, Nat.add_mul_mod_self_left, Nat.mod_eq_of_lt (by omega)]; omega
theorem zimg_ra {n c s : Nat} {f : Nat → Int32} (hc : c < n) (h : c ≤ s) (hs : s < n) : zimg n f c s = f (s - c) := by
  unfold zimg; rw [if_pos hc, zmod_1 (by omega) (by omega)]; congr 1; omega
theorem zimg_rb {n c s : Nat} {f : Nat → Int32} (hc : c < n) (h : s < c) : zimg n f c s = f (s + n - c) := by
  unfold zimg; rw [if_pos hc, Nat.mod_eq_of_lt (by omega)]
theorem zimg_ma {n c s : Nat} {f : Nat → Int32} (hc : n ≤ c) (hc2 : c < 2 * n) (h : s ≤ c - n) : zimg n f c s = f (c - n - s) := by
  unfold zimg; rw [if_neg (by omega), zmod_1 (by omega) (by omega)]; congr 1; omega
theorem zimg_mb {n c s : Nat} {f : Nat → Int32} (hc : n ≤ c) (h : c - n < s) (hs : s < n) : zimg n f c s = f (c - s) := by
  unfold zimg; rw [if_neg (by omega), Nat.mod_eq_of_lt (by omega)]
/-- the motif is at a slot -/
def zmp (ml : Nat) (sg : Nat → Int32) (n : Nat) (f : Nat → Int32) (j t : Nat) : Bool := zall (fun u => decide (sg u = 9 ∨ sg u = f ((j + u) % n))) t && decide (0 < ml ∧ ml ≤ n)
def zmt (ml : Nat) (sg : Nat → Int32) (n : Nat) (f : Nat → Int32) (j : Nat) : Bool := zmp ml sg n f j ml
theorem zmp_t {ml n j t : Nat} {sg f : Nat → Int32} (h : zmp ml sg n f j t = true) (h2 : sg t = 9 ∨ sg t = f ((j + t) % n)) : zmp ml sg n f j (t + 1) = true := by
  unfold zmp at *
  simp only [Bool.and_eq_true] at h ⊢
  exact ⟨zall_t h.1 (decide_eq_true h2), h.2⟩
theorem zmp_f {ml n j t : Nat} {sg f : Nat → Int32} (h1 : ¬ sg t = 9) (h2 : ¬ sg t = f ((j + t) % n)) : zmp ml sg n f j (t + 1) = false := by
  unfold zmp
  rw [zall_no (Nat.lt_succ_self t) (decide_eq_false (fun q => q.elim h1 h2))]; rfl
theorem zmp_e {ml n j t : Nat} {sg f : Nat → Int32} (ht : t ≤ ml) (h : zmp ml sg n f j t = false) : zmt ml sg n f j = false := by
  unfold zmt
  unfold zmp at *
  cases q : decide (0 < ml ∧ ml ≤ n) with
  | false => rw [Bool.and_false]
  | true =>
    rw [q, Bool.and_true] at h
    rw [Bool.and_true]
    cases w : zall (fun u => decide (sg u = 9 ∨ sg u = f ((j + u) % n))) ml with
    | false => rfl
    | true => rw [zall_iff.mpr (fun i hi => zall_iff.mp w i (by omega))] at h; cases h
theorem zmt_o {ml n j : Nat} {sg f : Nat → Int32} (h : ¬ (0 < ml ∧ ml ≤ n)) : zmt ml sg n f j = false := by
  unfold zmt zmp; rw [decide_eq_false h, Bool.and_false]
theorem zmt_n {ml n j t : Nat} {sg f : Nat → Int32} (ht : t < ml) (h1 : ¬ sg t = 9) (h2 : ¬ sg t = f ((j + t) % n)) : zmt ml sg n f j = false := zmp_e (t := t + 1) ht (zmp_f h1 h2)
def zan (n : Nat) (f g : Nat → Int32) (lv : Nat) : Nat → Bool
  | 0 => false
  | t + 1 => zan n f g lv t || decide (zdf n f (zchg lv t n) g = 0)
theorem zan_a {n lv t : Nat} {f g : Nat → Int32} (h : zan n f g lv t = true) : nI 1 = zb (zan n f g lv (t + 1)) := zb_t' (by show (zan n f g lv t || _) = true; rw [h]; rfl)
theorem zan_b {n lv t : Nat} {f g : Nat → Int32} (h : zan n f g lv t = false) (h2 : zdf n f (zchg lv t n) g ≠ 0) : nI 0 = zb (zan n f g lv (t + 1)) := zb_f' (by show (zan n f g lv t || _) = false; rw [h, decide_eq_false h2]; rfl)
theorem zan_c {n lv t : Nat} {f g : Nat → Int32} (h : zan n f g lv t = false) (h2 : zdf n f (zchg lv t n) g = 0) : nI 1 = zb (zan n f g lv (t + 1)) := zb_t' (by show (zan n f g lv t || _) = true; rw [decide_eq_true h2, Bool.or_true])
theorem zan_md {n lv : Nat} {f g : Nat → Int32} (hn : 0 < n) : ∀ t : Nat, decide (zmd n f g lv t = 0) = zan n f g lv t
  | 0 => decide_eq_false (by show ¬ n = 0; omega)
  | t + 1 => by
    show decide (min (zmd n f g lv t) (zdf n f (zchg lv t n) g) = 0) = (zan n f g lv t || _)
    rw [← zan_md hn t]
    by_cases a : zmd n f g lv t = 0 <;> by_cases b : zdf n f (zchg lv t n) g = 0 <;> simp [a, b] <;> omega
def zw (wt f : Nat → Int32) (s : Nat) : Int32 := if f s = 0 then 0 else wt (f s).toNatClampNeg
def zqs (wt f : Nat → Int32) (a len : Nat) : Int32 := zsum (fun j => zw wt f (a + j)) len
def zqw (wt : Nat → Int32) (n : Nat) (f : Nat → Int32) (q : Nat) : Int32 := zqs wt f (q * n / 4) ((q + 1) * n / 4 - q * n / 4)
def zabs (x : Int32) : Int32 := if 0 ≤ x then x else 0 - x
def zlean (wt : Nat → Int32) (n : Nat) (f : Nat → Int32) : Int32 := zabs (zqw wt n f 0 - zqw wt n f 2) + zabs (zqw wt n f 1 - zqw wt n f 3)
/-- a kind, or empty -/
def zk (x : Int32) : Prop := ∃ j : Nat, j ≤ 5 ∧ x = nI j
def zRing (E : zEnv) (a k n : Nat) (f : Nat → Int32) (H : Heap) : Prop := zat E a (.inr (2, [.int (nI n), .ref k])) H ∧ zat E k (.inl (zI E, 16, .inl f)) H
def zcn (f : Nat → Int32) (k : Int32) : Nat → Nat := zct (fun s => decide (f s = k))
theorem zcn_le (f : Nat → Int32) (k : Int32) (n : Nat) : zcn f k n ≤ n := zct_le _ _
theorem zb_t {b : Bool} (h : b = true) : nI 1 = zb b := by rw [h]; rfl
theorem zb_f {b : Bool} (h : b = false) : nI 0 = zb b := by rw [h]; rfl
theorem zsi {x y : Int32} (h : x = y) : (some (Value.int x) : Option Value) = some (.int y) := by rw [h]
theorem zabs_p {x : Int32} (h : 0 ≤ x) : zabs x = x := if_pos h
theorem zabs_n {x : Int32} (h : ¬ 0 ≤ x) : zabs x = -x := by unfold zabs; rw [if_neg h, Int32.zero_sub]
theorem zw_x {wt f : Nat → Int32} {s x : Nat} (hx : x ≤ 5) (h : f s = nI x) : zw wt f s = if x = 0 then 0 else wt x := by
  unfold zw
  rw [h, nI_clamp (by omega)]
  by_cases q : x = 0
  · rw [if_pos q, if_pos (by rw [q]; rfl)]
  · rw [if_neg q, if_neg (nI_ne0 (by omega) (by omega))]
theorem zlt_nf {b : Bool} (h : ¬ b = true) : b = false := by cases b; rfl; exact absurd rfl h
theorem zqw_4 {wt f : Nat → Int32} {n q : Nat} (h4 : n % 4 = 0) : zqw wt n f q = zqs wt f (q * (n / 4)) (n / 4) := by
  obtain ⟨m, hm⟩ : ∃ m, n = 4 * m := ⟨n / 4, by omega⟩
  subst hm
  unfold zqw
  rw [show q * (4 * m) = 4 * (q * m) by rw [Nat.mul_left_comm], show (q + 1) * (4 * m) = 4 * ((q + 1) * m) by rw [Nat.mul_left_comm], Nat.mul_div_cancel_left _ (by decide), Nat.mul_div_cancel_left _ (by decide), Nat.mul_div_cancel_left _ (by decide)]
  congr 1
  rw [Nat.succ_mul]; omega
/-! ranges of an Int32 -/
def zin (x : Int32) (lo hi : Nat) : Bool := decide (nI lo ≤ x ∧ x ≤ nI hi)
theorem zin_t {x : Int32} {lo hi : Nat} (h : ¬ x < nI lo) (h2 : ¬ nI hi < x) : zin x lo hi = true := decide_eq_true ⟨Int32.not_lt.mp h, Int32.not_lt.mp h2⟩
theorem zin_f1 {x : Int32} {lo hi : Nat} (h : x < nI lo) : zin x lo hi = false := decide_eq_false fun q => absurd q.1 (Int32.not_le.mpr h)
theorem zin_f2 {x : Int32} {lo hi : Nat} (h : nI hi < x) : zin x lo hi = false := decide_eq_false fun q => absurd q.2 (Int32.not_le.mpr h)
theorem zin_of {x : Int32} {lo hi : Nat} (hh : hi < 2 ^ 31) (h : zin x lo hi = true) (hl : lo ≤ hi) : ∃ j : Nat, lo ≤ j ∧ j ≤ hi ∧ x = nI j := by
  have h1 := of_decide_eq_true h
  have hl2 := Int32.le_iff_toInt_le.mp h1.1
  have hh2 := Int32.le_iff_toInt_le.mp h1.2
  rw [nI_toInt (by omega)] at hl2
  rw [nI_toInt hh] at hh2
  obtain ⟨j, hj, rfl⟩ := nI_of2 (x := x) (M := nI hi) (n := hi) (nI_toInt hh) (fun q => by
    have h9 := Int32.lt_iff_toInt_lt.mp q
    have h8 : (0 : Int32).toInt = 0 := rfl
    omega) h1.2
  rw [nI_toInt (by omega)] at hl2
  exact ⟨j, by omega, hj, rfl⟩
theorem zin_nI {j lo hi : Nat} (hj : j < 2 ^ 31) (hh : hi < 2 ^ 31) (hl : lo < 2 ^ 31) : zin (nI j) lo hi = decide (lo ≤ j ∧ j ≤ hi) := by
  exact decide_eq_decide.mpr (by rw [nI_leI hl hj, nI_leI hj hh])
theorem zin_y {j lo hi : Nat} (h1 : lo ≤ j) (h2 : j ≤ hi) (hh : hi < 2 ^ 31) : zin (nI j) lo hi = true := by rw [zin_nI (by omega) hh (by omega)]; exact decide_eq_true ⟨h1, h2⟩
theorem zin_n {j lo hi : Nat} (h : j < lo ∨ hi < j) (hj : j < 2 ^ 31) (hh : hi < 2 ^ 31) (hl : lo < 2 ^ 31) : zin (nI j) lo hi = false := by rw [zin_nI hj hh hl]; exact decide_eq_false (by omega)
/-- x is a place below n: the form of 'x < 0 || x >= n' -/
theorem zix_t {x : Int32} {n : Nat} (hn : 0 < n) (hn2 : n < 2 ^ 31) (h : ¬ x < 0) (h2 : ¬ nI n ≤ x) : zin x 0 (n - 1) = true := by
  refine zin_t h fun q => h2 ?_
  have q1 := Int32.lt_iff_toInt_lt.mp q
  rw [nI_toInt (by omega)] at q1
  exact Int32.le_iff_toInt_le.mpr (by rw [nI_toInt hn2]; omega)
theorem zix_f {x : Int32} {n : Nat} (hn : 0 < n) (hn2 : n < 2 ^ 31) (h : nI n ≤ x) : zin x 0 (n - 1) = false := by
  refine zin_f2 ?_
  have q1 := Int32.le_iff_toInt_le.mp h
  rw [nI_toInt hn2] at q1
  exact Int32.lt_iff_toInt_lt.mpr (by rw [nI_toInt (by omega)]; omega)
theorem zrt {P : Bool} (h : P = true) : (some (Value.int (zb P)) : Option Value) = some (.int (nI 1)) := by rw [h]; rfl
theorem zrf {P : Bool} (h : P = false) : (some (Value.int (zb P)) : Option Value) = some (.int (nI 0)) := by rw [h]; rfl
/-- the sizes of a bracelet -/
def zsz (x : Int32) : Bool := decide (x = nI 4 ∨ x = nI 8 ∨ x = nI 12 ∨ x = nI 16)
theorem zsz_tab : ∀ j : Nat, j < 17 → 4 ≤ j → (zsz (nI j) = true ↔ nI j - nI j / nI 4 * nI 4 = 0) := by decide +kernel
theorem zsz_in {x : Int32} (h : zsz x = true) : zin x 4 16 = true := by
  rcases of_decide_eq_true h with rfl | rfl | rfl | rfl <;> decide
theorem zsz_t {x : Int32} (h : zin x 4 16 = true) (h0 : x - x / nI 4 * nI 4 = 0) : zsz x = true := by
  obtain ⟨j, h1, h2, rfl⟩ := zin_of (by decide) h (by decide)
  exact (zsz_tab j (by omega) h1).mpr h0
theorem zsz_f {x : Int32} (h0 : zin x 4 16 = true) (h : ¬ x - x / nI 4 * nI 4 = 0) : zsz x = false := by
  obtain ⟨j, h1, h2, rfl⟩ := zin_of (by decide) h0 (by decide)
  cases q : zsz (nI j) with
  | false => rfl
  | true => exact absurd ((zsz_tab j (by omega) h1).mp q) h
theorem zsz_o {x : Int32} (h : zin x 4 16 = false) : zsz x = false := by
  cases q : zsz x with
  | false => rfl
  | true => rw [zsz_in q] at h; cases h
theorem zin_15 {x : Int32} (h : zin x 1 5 = true) : zin x 0 5 = true := by
  obtain ⟨j, h1, h2, rfl⟩ := zin_of (by decide) h (by decide)
  exact zin_y (by omega) h2 (by decide)
theorem zin_05 {x : Int32} (h0 : ¬ x = 0) (h : zin x 1 5 = false) : zin x 0 5 = false := by
  cases q : zin x 0 5 with
  | false => rfl
  | true =>
    obtain ⟨j, h1, h2, rfl⟩ := zin_of (by decide) q (by decide)
    have h3 : j ≠ 0 := fun e => h0 (by rw [e]; rfl)
    rw [zin_y (by omega) h2 (by decide)] at h
    cases h
theorem zsub_add {i j n : Nat} (h : i ≤ j + n) : nI j - nI i + nI n = nI (j + n - i) := by
  rw [show nI j - nI i + nI n = (nI j + nI n) - nI i by rw [Int32.sub_eq_add_neg, Int32.sub_eq_add_neg, Int32.add_assoc, Int32.add_comm (-nI i), Int32.add_assoc], nI_add, pk_sub h]
theorem zlt_irr (n : Nat) (f : Nat → Int32) (c : Nat) : zlt n f c c = false := decide_eq_false (by rw [zlx_refl]; decide)
theorem zli_10 {n : Nat} {f : Nat → Int32} {lv : Nat} : zli n f lv 1 = 0 := by simp [zli, zlc, zlt_irr]
theorem zli_1 {n : Nat} {f : Nat → Int32} {lv : Nat} : zchg lv (zli n f lv 1) n = 0 := by
  have e : zli n f lv 1 = 0 := by simp [zli, zlc, zlt_irr]
  rw [e]; unfold zchg; split <;> simp
theorem zli_t {n i : Nat} {f : Nat → Int32} {lv : Nat} (h : zlt n f (zchg lv i n) (zchg lv (zli n f lv i) n) = true) : zli n f lv (i + 1) = i := by
  show (if zlt n f (zchg lv i n) (zchg lv (zli n f lv i) n) then i else zli n f lv i) = i
  rw [if_pos h]
theorem zli_f {n i : Nat} {f : Nat → Int32} {lv : Nat} (h : zlt n f (zchg lv i n) (zchg lv (zli n f lv i) n) = false) : zli n f lv (i + 1) = zli n f lv i := by
  show (if zlt n f (zchg lv i n) (zchg lv (zli n f lv i) n) then i else zli n f lv i) = zli n f lv i
  rw [if_neg (by rw [h]; decide)]
/-! the reference's ring: its place in the row of numbers -/
def zmr (z : Nat → Int32) (i n : Nat) (f : Nat → Int32) : Prop := z (10 + 17 * i) = nI n ∧ ∀ s, s < n → z (10 + 17 * i + 1 + s) = f s
def zMz (E : zEnv) (o za : Nat) (fs : List Value) (z : Nat → Int32) (H : Heap) : Prop := zat E o (.inr (6, .ref za :: fs)) H ∧ zat E za (.inl (zI E, 300, .inl z)) H
def zfnd (sz : Nat → Nat) (x : Int32) : Option Nat := if zin x 0 5 = true ∧ sz x.toNatClampNeg ≠ 0 then some x.toNatClampNeg else none
theorem zfnd_some {sz : Nat → Nat} {x : Int32} {i : Nat} (h : zfnd sz x = some i) : x = nI i ∧ i < 6 ∧ sz i ≠ 0 := by
  unfold zfnd at h
  split at h
  · rename_i q
    obtain ⟨j, -, h2, rfl⟩ := zin_of (by decide) q.1 (by decide)
    have e := Option.some.inj h
    rw [nI_clamp (by omega)] at e q
    subst e
    exact ⟨rfl, by omega, q.2⟩
  · cases h
theorem zfnd_none {sz : Nat → Nat} {x : Int32} (h : zfnd sz x = none) : zin x 0 5 = false ∨ ∃ i, i < 6 ∧ x = nI i ∧ sz i = 0 := by
  unfold zfnd at h
  split at h
  · cases h
  · rename_i q
    cases hz : zin x 0 5 with
    | false => exact Or.inl rfl
    | true =>
      obtain ⟨j, -, h2, rfl⟩ := zin_of (by decide) hz (by decide)
      rw [nI_clamp (by omega)] at q
      exact Or.inr ⟨j, by omega, rfl, Decidable.byContradiction fun w => q ⟨hz, w⟩⟩
theorem zfnd_nI {sz : Nat → Nat} {i : Nat} (h : i < 6) (h2 : sz i ≠ 0) : zfnd sz (nI i) = some i := by
  unfold zfnd
  rw [nI_clamp (by omega), if_pos ⟨zin_y (by omega) (by omega) (by decide), h2⟩]
/-- the difference at the first slot in which two rows differ -/
def zdx (a b : Nat → Int32) : Nat → Int32
  | 0 => 0
  | i + 1 => if zlx a b i ≠ 0 then zdx a b i else a i - b i
theorem zdx_0 {a b : Nat → Int32} : ∀ {n : Nat}, zlx a b n = 0 → zdx a b n = 0
  | 0, _ => rfl
  | n + 1, h => by
    by_cases q : zlx a b n = 0
    · by_cases e : a n = b n
      · simp [zdx, q, e]
      · rw [zlx_ne (Nat.lt_succ_self n) q e] at h; split at h <;> cases h
    · rw [zlx_stay (Nat.le_succ n) q] at h; exact absurd h q
theorem zdx_at {a b : Nat → Int32} {i : Nat} : ∀ {n : Nat}, i < n → zlx a b i = 0 → ¬ a i = b i → zdx a b n = a i - b i
  | 0, h, _, _ => absurd h (Nat.not_lt_zero i)
  | n + 1, h, h0, hne => by
    rcases Nat.lt_or_ge i n with q | q
    · have e := zdx_at q h0 hne
      have e2 : zlx a b n ≠ 0 := by rw [zlx_ne q h0 hne]; split <;> decide
      show (if zlx a b n ≠ 0 then zdx a b n else _) = _
      rw [if_pos e2, e]
    · have e : i = n := by omega
      subst e
      show (if zlx a b i ≠ 0 then _ else a i - b i) = _
      rw [if_neg (fun w => w h0)]
theorem zlx_first {a b : Nat → Int32} : ∀ {n : Nat}, zlx a b n ≠ 0 → ∃ i, i < n ∧ zlx a b i = 0 ∧ ¬ a i = b i
  | 0, h => absurd rfl h
  | n + 1, h => by
    by_cases q : zlx a b n = 0
    · refine ⟨n, Nat.lt_succ_self n, q, fun e => h (zlx_eq q e)⟩
    · obtain ⟨i, h1, h2, h3⟩ := zlx_first q
      exact ⟨i, by omega, h2, h3⟩
theorem zk_lt {x y : Int32} (hx : zk x) (hy : zk y) : x - y < 0 ↔ x < y := by
  obtain ⟨i, hi, rfl⟩ := hx
  obtain ⟨j, hj, rfl⟩ := hy
  have e1 := pk_sub_toInt (a := i) (b := j) (by omega) (by omega)
  constructor
  · intro h
    have h1 := Int32.lt_iff_toInt_lt.mp h
    have h0 : (0 : Int32).toInt = 0 := rfl
    exact (nI_ltI (by omega) (by omega)).mpr (by omega)
  · intro h
    exact pk_sneg (by omega) ((nI_ltI (by omega) (by omega)).mp h)
theorem zdx_lt {a b : Nat → Int32} {n : Nat} (ha : ∀ s, s < n → zk (a s)) (hb : ∀ s, s < n → zk (b s)) : zdx a b n < 0 ↔ zlx a b n = 1 := by
  by_cases q : zlx a b n = 0
  · rw [zdx_0 q, q]
    exact ⟨fun h => absurd h (Int32.lt_irrefl), fun h => by cases h⟩
  · obtain ⟨i, hi, h0, hne⟩ := zlx_first q
    rw [zdx_at hi h0 hne, zk_lt (ha i hi) (hb i hi), zlx_ne hi h0 hne]
    constructor
    · intro h; rw [if_pos h]
    · intro h; split at h
      · assumption
      · cases h
theorem zdx_ne {a b : Nat → Int32} {n : Nat} (ha : ∀ s, s < n → zk (a s)) (hb : ∀ s, s < n → zk (b s)) : zdx a b n = 0 ↔ zlx a b n = 0 := by
  by_cases q : zlx a b n = 0
  · rw [zdx_0 q, q]; simp
  · obtain ⟨i, hi, h0, hne⟩ := zlx_first q
    refine ⟨fun h => ?_, fun h => absurd h q⟩
    rw [zdx_at hi h0 hne] at h
    exfalso
    obtain ⟨x, hx, e1⟩ := ha i hi
    obtain ⟨y, hy, e2⟩ := hb i hi
    rw [e1, e2] at h hne
    have e := pk_sub_toInt (a := x) (b := y) (by omega) (by omega)
    rw [h] at e
    have h0' : (0 : Int32).toInt = 0 := rfl
    exact hne (by rw [show x = y by omega])
theorem zimg_k {n : Nat} {f : Nat → Int32} {c s : Nat} (hn : 0 < n) (hk : ∀ s, s < n → zk (f s)) : zk (zimg n f c s) := by
  unfold zimg; split
  · exact hk _ (Nat.mod_lt _ hn)
  · exact hk _ (Nat.mod_lt _ hn)
theorem zlt_dx {n : Nat} {f : Nat → Int32} {c d : Nat} (hn : 0 < n) (hk : ∀ s, s < n → zk (f s)) : zdx (zimg n f c) (zimg n f d) n < 0 ↔ zlt n f c d = true := by
  rw [zdx_lt (fun s _ => zimg_k hn hk) (fun s _ => zimg_k hn hk)]
  exact ⟨fun h => decide_eq_true h, fun h => of_decide_eq_true h⟩
/-- the lowest free number; 6 if there is none -/
def zfd (sz : Nat → Nat) : Nat → Nat
  | 0 => 6
  | j + 1 => if sz (5 - j) = 0 then 5 - j else zfd sz j
def zfi (v : Nat) : Int32 := if v = 6 then -6 else nI v
theorem zfd_le (sz : Nat → Nat) : ∀ j, zfd sz j ≤ 6
  | 0 => Nat.le_refl _
  | j + 1 => by have h := zfd_le sz j; unfold zfd; split <;> omega
theorem zfd_no {sz : Nat → Nat} (h : ∀ t, t < 6 → sz t ≠ 0) : zfd sz 6 = 6 := by
  simp [zfd, h 0 (by decide), h 1 (by decide), h 2 (by decide), h 3 (by decide), h 4 (by decide), h 5 (by decide)]
theorem zfd_is {sz : Nat → Nat} {i : Nat} (hi : i < 6) (h : ∀ t, t < i → sz t ≠ 0) (h0 : sz i = 0) : zfd sz 6 = i := by
  have hc : i = 0 ∨ i = 1 ∨ i = 2 ∨ i = 3 ∨ i = 4 ∨ i = 5 := by omega
  rcases hc with rfl | rfl | rfl | rfl | rfl | rfl
  · simp [zfd, h0]
  · simp [zfd, h0, h 0 (by decide)]
  · simp [zfd, h0, h 0 (by decide), h 1 (by decide)]
  · simp [zfd, h0, h 0 (by decide), h 1 (by decide), h 2 (by decide)]
  · simp [zfd, h0, h 0 (by decide), h 1 (by decide), h 2 (by decide), h 3 (by decide)]
  · simp [zfd, h0, h 0 (by decide), h 1 (by decide), h 2 (by decide), h 3 (by decide), h 4 (by decide)]
theorem zfd_0 {sz : Nat → Nat} {i : Nat} (h : zfd sz 6 = i) (hi : i < 6) : sz i = 0 := by
  by_cases q : ∀ t, t < 6 → sz t ≠ 0
  · rw [zfd_no q] at h; omega
  · simp only [zfd] at h
    repeat (split at h; · rename_i w; rw [← h]; simpa using w)
    omega
theorem znq {n ch : Nat} (h4 : n % 4 = 0) : ch * n / 4 = ch * (n / 4) := by
  obtain ⟨m, hm⟩ : ∃ m, n = 4 * m := ⟨n / 4, by omega⟩
  subst hm
  rw [show ch * (4 * m) = 4 * (ch * m) by rw [Nat.mul_left_comm], Nat.mul_div_cancel_left _ (by decide), Nat.mul_div_cancel_left _ (by decide)]
theorem znq_lt {n ch : Nat} (hn : 0 < n) (h4 : n % 4 = 0) (h : ch < 4) : ch * (n / 4) < n := by
  have h1 : ch * (n / 4) ≤ 3 * (n / 4) := Nat.mul_le_mul_right _ (by omega)
  omega
theorem zbk {n ch j : Nat} (hn : n ≤ ch) (hc : ch < 2 * n) (hj : j < n) : (n - (j + n - (ch - n)) % n) % n = (ch - j) % n := by
  rcases Nat.lt_or_ge j (ch - n) with q | q
  · rw [Nat.mod_eq_of_lt (show j + n - (ch - n) < n by omega), Nat.mod_eq_of_lt (by omega), zmod_1 (by omega) (by omega)]; omega
  · rw [zmod_1 (show n ≤ j + n - (ch - n) by omega) (by omega)]
    rcases Nat.lt_or_ge (ch - n) j with w | w
    · rw [Nat.mod_eq_of_lt (by omega), Nat.mod_eq_of_lt (by omega)]; omega
    · rw [show j = ch - n by omega, show n - (ch - n + n - (ch - n) - n) = n by omega, show ch - (ch - n) = n by omega]
/-- how many bits are set, of 16 -/
def zbc (x : Int32) : Nat → Int32
  | 0 => 0
  | i + 1 => zbc x i + ((x >>> (nI i &&& 31)) &&& 1)
/-- a change at one of three levels, as the reference counts them -/
theorem zmc {lv n : Nat} (h : lv ≤ 2) : (if lv = 0 then 4 else lv * n) = znc lv n := by
  unfold znc
  rcases (show lv = 0 ∨ lv = 1 ∨ lv = 2 by omega) with rfl | rfl | rfl <;> simp
theorem zset_o {p : Nat → Bool} {i : Nat} (h : p i = false) : zset p i ||| nI 0 = zset p (i + 1) := by
  rw [← zset_f h]; exact Int32.or_zero
theorem zall_s {p : Nat → Bool} {i : Nat} (h : zall p i = false) : zall p (i + 1) = false := by simp [zall, h]
