/-! changes compose; least forms and likeness -/
def zcmp (n a b : Nat) : Nat := if a < n then (if b < n then (a + b) % n else n + (b - n + n - a) % n) else (if b < n then n + (a - n + b) % n else (b + n - a) % n)
theorem zcmp_e {n a b s : Nat} {f : Nat → Int32} (hn : zsz4 n) (ha : a < 2 * n) (hb : b < 2 * n) (hs : s < n) : zimg n (zimg n f a) b s = zimg n f (zcmp n a b) s := by
  have hm : ∀ x, x % n < n := fun x => Nat.mod_lt x hn.b.1
  by_cases q : a < n
  · by_cases w : b < n
    · have e : zcmp n a b = (a + b) % n := by unfold zcmp; rw [if_pos q, if_pos w]
      rw [e, zimg_r w, zimg_r q, zimg_r (hm _)]
      congr 1
      rcases hn with rfl | rfl | rfl | rfl <;> omega
    · obtain ⟨k, rfl⟩ : ∃ k, b = n + k := ⟨b - n, by omega⟩
      have e : zcmp n a (n + k) = n + (n + k - n + n - a) % n := by unfold zcmp; rw [if_pos q, if_neg w]
      rw [e, zimg_m, zimg_r q, zimg_m]
      congr 1
      rcases hn with rfl | rfl | rfl | rfl <;> omega
  · obtain ⟨j, rfl⟩ : ∃ j, a = n + j := ⟨a - n, by omega⟩
    by_cases w : b < n
    · have e : zcmp n (n + j) b = n + (n + j - n + b) % n := by unfold zcmp; rw [if_neg q, if_pos w]
      rw [e, zimg_r w, zimg_m, zimg_m]
      congr 1
      rcases hn with rfl | rfl | rfl | rfl <;> omega
    · obtain ⟨k, rfl⟩ : ∃ k, b = n + k := ⟨b - n, by omega⟩
      have e : zcmp n (n + j) (n + k) = (n + k + n - (n + j)) % n := by unfold zcmp; rw [if_neg q, if_neg w]
      rw [e, zimg_m, zimg_m, zimg_r (hm _)]
      congr 1
      rcases hn with rfl | rfl | rfl | rfl <;> omega
theorem zimg_cong {n c s : Nat} {f g : Nat → Int32} (hn : 0 < n) (h : ∀ t, t < n → f t = g t) : zimg n f c s = zimg n g c s := by
  unfold zimg; split
  · exact h _ (Nat.mod_lt _ hn)
  · exact h _ (Nat.mod_lt _ hn)
theorem zcl {lv n i j : Nat} (hn : zsz4 n) (hl : lv ≤ 2) (hi : i < znc lv n) (hj : j < znc lv n) : ∃ k, k < znc lv n ∧ zcmp n (zchg lv i n) (zchg lv j n) = zchg lv k n := by
  rcases (show lv = 0 ∨ lv = 1 ∨ lv = 2 by omega) with rfl | rfl | rfl
  · have e : znc 0 n = 4 := rfl
    rw [e] at hi hj ⊢
    refine ⟨(i + j) % 4, Nat.mod_lt _ (by decide), ?_⟩
    rw [zchg_0 rfl, zchg_0 rfl, zchg_0 rfl]
    have h1 : i * n / 4 < n := by rcases hn with rfl | rfl | rfl | rfl <;> omega
    have h2 : j * n / 4 < n := by rcases hn with rfl | rfl | rfl | rfl <;> omega
    unfold zcmp
    rw [if_pos h1, if_pos h2]
    rcases hn with rfl | rfl | rfl | rfl <;> omega
  · have e : znc 1 n = n := (znc_1 rfl).symm
    rw [e] at hi hj ⊢
    refine ⟨(i + j) % n, Nat.mod_lt _ hn.b.1, ?_⟩
    rw [zchg_1 (by decide), zchg_1 (by decide), zchg_1 (by decide)]
    unfold zcmp
    rw [if_pos hi, if_pos hj]
  · have e : znc 2 n = 2 * n := (znc_2 (by decide) (by decide)).symm
    rw [e] at hi hj ⊢
    refine ⟨zcmp n i j, ?_, by rw [zchg_1 (by decide), zchg_1 (by decide), zchg_1 (by decide)]⟩
    have hm : ∀ x, x % n < n := fun x => Nat.mod_lt x hn.b.1
    unfold zcmp
    split <;> split
    · have := hm (i + j); omega
    · have := hm (j - n + n - i); omega
    · have := hm (i - n + j); omega
    · have := hm (j + n - i); omega
theorem zci {lv n i : Nat} (hn : zsz4 n) (hl : lv ≤ 2) (hi : i < znc lv n) : ∃ j, j < znc lv n ∧ zcmp n (zchg lv i n) (zchg lv j n) = 0 := by
  rcases (show lv = 0 ∨ lv = 1 ∨ lv = 2 by omega) with rfl | rfl | rfl
  · have e : znc 0 n = 4 := rfl
    rw [e] at hi ⊢
    refine ⟨(4 - i) % 4, Nat.mod_lt _ (by decide), ?_⟩
    rw [zchg_0 rfl, zchg_0 rfl]
    have h1 : i * n / 4 < n := by rcases hn with rfl | rfl | rfl | rfl <;> omega
    have h2 : (4 - i) % 4 * n / 4 < n := by rcases hn with rfl | rfl | rfl | rfl <;> omega
    unfold zcmp
    rw [if_pos h1, if_pos h2]
    rcases hn with rfl | rfl | rfl | rfl <;> omega
  · have e : znc 1 n = n := (znc_1 rfl).symm
    rw [e] at hi ⊢
    have h2 : (n - i) % n < n := Nat.mod_lt _ hn.b.1
    refine ⟨(n - i) % n, h2, ?_⟩
    rw [zchg_1 (by decide), zchg_1 (by decide)]
    unfold zcmp
    rw [if_pos hi, if_pos h2]
    rcases hn with rfl | rfl | rfl | rfl <;> omega
  · have e : znc 2 n = 2 * n := (znc_2 (by decide) (by decide)).symm
    rw [e] at hi ⊢
    by_cases q : i < n
    · have h2 : (n - i) % n < n := Nat.mod_lt _ hn.b.1
      refine ⟨(n - i) % n, by omega, ?_⟩
      rw [zchg_1 (by decide), zchg_1 (by decide)]
      unfold zcmp
      rw [if_pos q, if_pos h2]
      rcases hn with rfl | rfl | rfl | rfl <;> omega
    · refine ⟨i, hi, ?_⟩
      rw [zchg_1 (by decide)]
      unfold zcmp
      rw [if_neg q, if_neg q, show i + n - i = n by omega, Nat.mod_self]
theorem zLe_le {lv n c : Nat} {f : Nat → Int32} (hn : 0 < n) (hk : ∀ s, s < n → zk (f s)) (hc : c < znc lv n) : zLe lv n f ≤ zLn (zimg n f (zchg lv c n)) n := by
  refine Nat.le_of_not_lt fun h => ?_
  have h1 := (zLn_cmp (zLn_k hn hk) (zLn_k hn hk)).1.mp h
  exact zlc_mn (R := fun i => zimg n f (zchg lv i n)) (w := n) (lt := fun i b => zlt n f (zchg lv i n) (zchg lv b n)) (fun _ _ => rfl) hc h1
/-- likeness goes both ways -/
theorem zan_sy {lv n i : Nat} {f g : Nat → Int32} (hn : zsz4 n) (hl : lv ≤ 2) (hi : i < znc lv n) (h : ∀ s, s < n → zimg n f (zchg lv i n) s = g s) : ∃ j, j < znc lv n ∧ ∀ s, s < n → zimg n g (zchg lv j n) s = f s := by
  obtain ⟨j, hj, e⟩ := zci hn hl hi
  refine ⟨j, hj, fun s hs => ?_⟩
  rw [← zimg_cong hn.b.1 h, zcmp_e hn (zchg_lt hl hn.b.1 hi) (zchg_lt hl hn.b.1 hj) hs, e, zimg_0 hs]
theorem zLe_sub {lv n i : Nat} {f g : Nat → Int32} (hn : zsz4 n) (hf : ∀ s, s < n → zk (f s)) (hl : lv ≤ 2) (hi : i < znc lv n) (h : ∀ s, s < n → zimg n f (zchg lv i n) s = g s) : zLe lv n f ≤ zLe lv n g := by
  have hb := zlc_lt' (n := n) (f := g) (lv := lv) hn.b.1
  obtain ⟨k, hk, e⟩ := zcl hn hl hi hb
  have h1 := zLe_le (lv := lv) (c := k) hn.b.1 hf hk
  have h2 : zLn (zimg n f (zchg lv k n)) n = zLe lv n g := zLn_cong fun s hs => by
    rw [← e, ← zcmp_e hn (zchg_lt hl hn.b.1 hi) (zchg_lt hl hn.b.1 hb) hs]
    exact zimg_cong hn.b.1 h
  rw [h2] at h1
  exact h1
/-- alike is: of one least form -/
theorem zAL {lv n m : Nat} {f g : Nat → Int32} (hn : zsz4 n) (hm : zsz4 m) (hf : ∀ s, s < n → zk (f s)) (hg : ∀ s, s < m → zk (g s)) (hl : lv ≤ 2) : zLe lv n f = zLe lv m g ↔ zal n f m g lv = true := by
  constructor
  · intro h
    have e := zLn_sz (zLn_k hn.b.1 hf) (zLn_k hm.b.1 hg) h
    subst e
    unfold zal
    rw [decide_eq_true rfl, Bool.true_and, zan_i]
    have h1 := (zLn_inj (zLn_k hn.b.1 hf) (zLn_k hn.b.1 hg)).mp h
    have ha := zlc_lt' (n := n) (f := f) (lv := lv) hn.b.1
    have hb := zlc_lt' (n := n) (f := g) (lv := lv) hn.b.1
    obtain ⟨j, hj, e2⟩ := zci hn hl hb
    obtain ⟨k, hk, e3⟩ := zcl hn hl ha hj
    refine ⟨k, hk, fun s hs => ?_⟩
    rw [← e3, ← zcmp_e hn (zchg_lt hl hn.b.1 ha) (zchg_lt hl hn.b.1 hj) hs]
    refine (zimg_cong (c := zchg lv j n) (s := s) hn.b.1 h1).trans ?_
    show zimg n (zimg n g (zchg lv (zli n g lv (znc lv n)) n)) (zchg lv j n) s = g s
    rw [zcmp_e hn (zchg_lt hl hn.b.1 hb) (zchg_lt hl hn.b.1 hj) hs, e2, zimg_0 hs]
  · intro h
    unfold zal at h
    rw [Bool.and_eq_true] at h
    have e := of_decide_eq_true h.1
    subst e
    obtain ⟨i, hi, h1⟩ := zan_i.mp h.2
    obtain ⟨j, hj, h2⟩ := zan_sy hn hl hi h1
    exact Nat.le_antisymm (zLe_sub hn hf hl hi h1) (zLe_sub hn hg hl hj h2)
theorem zAL_f {lv n m : Nat} {f g : Nat → Int32} (hn : zsz4 n) (hm : zsz4 m) (hf : ∀ s, s < n → zk (f s)) (hg : ∀ s, s < m → zk (g s)) (hl : lv ≤ 2) (h : ¬ zLe lv n f = zLe lv m g) : zal n f m g lv = false := zlt_nf fun q => h ((zAL hn hm hf hg hl).mpr q)
theorem zLe_62 {lv n : Nat} {f : Nat → Int32} (hn : zsz4 n) (hf : ∀ s, s < n → zk (f s)) : zLe lv n f < 2 ^ 51 := zLn_62 hn.b.2.1 (zLn_k hn.b.1 hf)
/-! the least number of unlike slots -/
theorem zmn_99 {F : Nat → Nat} {n a : Nat} (h : ∀ i, F i ≤ n) (ha : n ≤ a) : ∀ {N : Nat}, 0 < N → zmn F a N = zmn F n N
  | 0, h0 => absurd h0 (Nat.lt_irrefl 0)
  | 1, _ => by
    show min a (F 0) = min n (F 0)
    have := h 0
    omega
  | N + 2, _ => by
    show min (zmn F a (N + 1)) _ = min (zmn F n (N + 1)) _
    rw [zmn_99 h ha (Nat.succ_pos N)]
theorem zmn_y {F : Nat → Nat} {a i : Nat} (h : F i < zmn F a i) : F i = zmn F a (i + 1) := by show _ = min _ _; omega
theorem zmn_n {F : Nat → Nat} {a i : Nat} (h : zmn F a i ≤ F i) : zmn F a i = zmn F a (i + 1) := by show _ = min _ _; omega
/-! staysAt, orbit -/
def zsq (p : Nat → Bool) (n s : Nat) : Bool := ((p s && p ((s + n / 4) % n)) && p ((s + 2 * (n / 4)) % n)) && p ((s + 3 * (n / 4)) % n)
theorem zst_q (p : Nat → Bool) {n : Nat} (hn : zsz4 n) : zst3 (zset p n) n 3 = zset (zsq p n) n := by
  have hb := hn.b
  have hm : ∀ x, x % n < n := fun x => Nat.mod_lt _ hb.1
  have hq : ∀ q, q * n / 4 = q * (n / 4) := fun q => znq hb.2.2
  have e : ∀ q, zset (fun s => decide (¬ (zset p n >>> (nI ((s + q * n / 4) % n) &&& 31)) &&& 1 = 0)) n = zset (fun s => p ((s + q * (n / 4)) % n)) n := fun q =>
    zset_cong fun s _ => by rw [zset_b0 p hb.2.1 (hm _), hq]
  show ((zset p n &&& zset (fun s => decide (¬ (zset p n >>> (nI ((s + (0 + 1) * n / 4) % n) &&& 31)) &&& 1 = 0)) n) &&& zset (fun s => decide (¬ (zset p n >>> (nI ((s + (1 + 1) * n / 4) % n) &&& 31)) &&& 1 = 0)) n) &&& zset (fun s => decide (¬ (zset p n >>> (nI ((s + (2 + 1) * n / 4) % n) &&& 31)) &&& 1 = 0)) n = _
  rw [e, e, e, zset_and p _ hb.2.1, zset_and _ _ hb.2.1, zset_and _ _ hb.2.1]
  refine zset_cong fun s hs => ?_
  unfold zsq
  rw [show (0 + 1) * (n / 4) = n / 4 by omega]
theorem zbt {p : Nat → Bool} {n s : Nat} (h : n ≤ 16) (hs : s < n) (e : (zset p n >>> (nI s &&& 31)) &&& nI 1 = nI 1) : p s = true := by rw [← zset_b1 p h hs]; exact decide_eq_true e
theorem zbf {p : Nat → Bool} {n s : Nat} (h : n ≤ 16) (hs : s < n) (e : ¬ (zset p n >>> (nI s &&& 31)) &&& nI 1 = nI 1) : p s = false := by rw [← zset_b1 p h hs]; exact decide_eq_false e
theorem zct_pos {p : Nat → Bool} (h : p 0 = true) : ∀ {n : Nat}, 0 < n → 1 ≤ zct p n
  | 0, h0 => absurd h0 (Nat.lt_irrefl 0)
  | 1, _ => by simp [zct, h]
  | n + 2, _ => Nat.le_trans (zct_pos h (Nat.succ_pos n)) (Nat.le_add_right _ _)
theorem zfx_pos {n lv : Nat} {f : Nat → Int32} (hn : 0 < n) : 1 ≤ zfx n f lv (znc lv n) := zct_pos (decide_eq_true (by
  rw [zdf_i]
  intro s hs
  have e : zchg lv 0 n = 0 := by unfold zchg; split <;> simp
  rw [e, zimg_0 hs])) (znc_pos hn)
theorem zfx_le {n lv : Nat} {f : Nat → Int32} : zfx n f lv (znc lv n) ≤ znc lv n := zct_le _ _
theorem zob_q {n lv : Nat} {f : Nat → Int32} (hn : 0 < n) : znc lv n / zfx n f lv (znc lv n) = zob n f lv := by
  unfold zob
  rw [if_neg (by have := zfx_pos (lv := lv) (f := f) hn; omega)]
/-! weights and motifs by another row -/
theorem zw_cg {wt wt' f : Nat → Int32} {s : Nat} (h : ∀ k, 1 ≤ k → k ≤ 5 → wt k = wt' k) (hk : zk (f s)) : zw wt f s = zw wt' f s := by
  unfold zw
  by_cases q : f s = 0
  · rw [if_pos q, if_pos q]
  · rw [if_neg q, if_neg q]
    obtain ⟨j, h1, h2, e⟩ := zk_ne hk q
    rw [e, nI_clamp (by omega)]
    exact h j h1 h2
theorem zqs_cg {wt wt' f : Nat → Int32} {a n : Nat} (h : ∀ k, 1 ≤ k → k ≤ 5 → wt k = wt' k) (hk : ∀ s, a ≤ s → s < a + n → zk (f s)) : zqs wt f a n = zqs wt' f a n := zsum_cong fun i hi => zw_cg h (hk _ (by omega) (by omega))
theorem zqw_cg {wt wt' f : Nat → Int32} {n q : Nat} (hn : zsz4 n) (hq : q < 4) (h : ∀ k, 1 ≤ k → k ≤ 5 → wt k = wt' k) (hk : ∀ s, s < n → zk (f s)) : zqw wt n f q = zqw wt' n f q := by
  rw [zqw_4 hn.b.2.2, zqw_4 hn.b.2.2]
  have hq4 := hn.q
  refine zqs_cg h fun s h1 h2 => hk s ?_
  have : q * (n / 4) ≤ 3 * (n / 4) := Nat.mul_le_mul_right _ (by omega)
  omega
theorem zlean_cg {wt wt' f : Nat → Int32} {n : Nat} (hn : zsz4 n) (h : ∀ k, 1 ≤ k → k ≤ 5 → wt k = wt' k) (hk : ∀ s, s < n → zk (f s)) : zlean wt n f = zlean wt' n f := by
  unfold zlean
  rw [zqw_cg hn (by decide) h hk, zqw_cg hn (by decide) h hk, zqw_cg hn (by decide) h hk, zqw_cg hn (by decide) h hk]
theorem zmt_cg {ml n : Nat} {g g' f : Nat → Int32} (h : ∀ k, k < ml → g k = g' k) : zmt ml g n f = zmt ml g' n f := by
  funext j
  unfold zmt zmp
  rw [zall_cong (q := fun u => decide (g' u = 9 ∨ g' u = f ((j + u) % n))) fun i hi => by rw [h i hi]]
/-! the best swap, step by step -/
def zbq (wt : Nat → Int32) (n : Nat) (f : Nat → Int32) (k : Nat) : Int32 × Int32 := if k / 16 < n then zbsB wt n f (k / 16) (zbsA wt n f (k / 16)) (min (k % 16) n) else zbsA wt n f n
theorem zbq_0 {wt f : Nat → Int32} {n : Nat} (hn : 0 < n) : zbq wt n f 0 = (-6, zlean wt n f) := by
  unfold zbq
  rw [if_pos hn]
  show zbsB wt n f 0 (zbsA wt n f 0) (min 0 n) = _
  rw [Nat.zero_min]; rfl
theorem zbq_f {wt f : Nat → Int32} {n : Nat} (hn : n ≤ 16) : zbq wt n f 256 = zbsA wt n f n := by
  unfold zbq
  rw [if_neg (by omega)]
theorem zbq_s {wt f : Nat → Int32} {n k : Nat} (hn : 0 < n ∧ n ≤ 16) : zbq wt n f (k + 1) = if k / 16 < n ∧ k % 16 < n then zbsB wt n f (k / 16) (zbsA wt n f (k / 16)) (k % 16 + 1) else zbq wt n f k := by
  by_cases q : k % 16 = 15
  · have e1 : (k + 1) / 16 = k / 16 + 1 := by omega
    have e2 : (k + 1) % 16 = 0 := by omega
    have e3 : zbq wt n f (k + 1) = if k / 16 < n then zbsA wt n f (k / 16 + 1) else zbsA wt n f n := by
      unfold zbq
      rw [e1, e2, Nat.zero_min]
      by_cases w : k / 16 + 1 < n
      · rw [if_pos w, if_pos (by omega)]; rfl
      · rw [if_neg w]
        by_cases v : k / 16 < n
        · rw [if_pos v, show k / 16 + 1 = n by omega]
        · rw [if_neg v]
    rw [e3]
    by_cases w : k / 16 < n
    · rw [if_pos w]
      have e4 : zbsA wt n f (k / 16 + 1) = zbsB wt n f (k / 16) (zbsA wt n f (k / 16)) n := rfl
      by_cases v : k % 16 < n
      · rw [if_pos ⟨w, v⟩, e4, show k % 16 + 1 = n by omega]
      · rw [if_neg (fun z => v z.2)]
        unfold zbq
        rw [if_pos w, e4, Nat.min_eq_right (by omega)]
    · rw [if_neg w, if_neg (fun z => w z.1)]
      unfold zbq
      rw [if_neg w]
  · have e1 : (k + 1) / 16 = k / 16 := by omega
    have e2 : (k + 1) % 16 = k % 16 + 1 := by omega
    unfold zbq
    rw [e1, e2]
    by_cases w : k / 16 < n
    · rw [if_pos w, if_pos w]
      by_cases v : k % 16 < n
      · rw [if_pos ⟨w, v⟩, Nat.min_eq_left (by omega)]
      · rw [if_neg (fun z => v z.2), Nat.min_eq_right (by omega), Nat.min_eq_right (by omega)]
    · rw [if_neg w, if_neg w, if_neg (fun z => w z.1)]
theorem zbq_o {wt f : Nat → Int32} {n k : Nat} (hn : 0 < n ∧ n ≤ 16) (h : k % 16 ≤ k / 16 ∨ n ≤ k % 16) : zbq wt n f (k + 1) = zbq wt n f k := by
  rw [zbq_s hn]
  by_cases q : k / 16 < n ∧ k % 16 < n
  · rw [if_pos q]
    unfold zbq
    rw [if_pos q.1, Nat.min_eq_left (by omega), zbsB_l _ _ _ _ _ _ (by omega), zbsB_l _ _ _ _ _ _ (by omega)]
  · rw [if_neg q]
theorem zbq_at {wt f : Nat → Int32} {n k : Nat} (h : k / 16 < k % 16) (h2 : k % 16 < n) : zbq wt n f k = zbsB wt n f (k / 16) (zbsA wt n f (k / 16)) (k % 16) := by
  unfold zbq
  rw [if_pos (by omega), Nat.min_eq_left (by omega)]
theorem zbq_n {wt f : Nat → Int32} {n k : Nat} (hn : 0 < n ∧ n ≤ 16) (h : k / 16 < k % 16) (h2 : k % 16 < n) (h3 : (zbq wt n f k).2 ≤ zlean wt n (zxc f (k / 16) (k % 16))) : zbq wt n f (k + 1) = zbq wt n f k := by
  rw [zbq_s hn, if_pos ⟨by omega, h2⟩]
  rw [zbq_at h h2] at h3 ⊢
  exact zbsB_n (by omega) h3
theorem zbq_y {wt f : Nat → Int32} {n k : Nat} (hn : 0 < n ∧ n ≤ 16) (h : k / 16 < k % 16) (h2 : k % 16 < n) (h3 : zlean wt n (zxc f (k / 16) (k % 16)) < (zbq wt n f k).2) : zbq wt n f (k + 1) = (nI (100 * (k / 16) + k % 16), zlean wt n (zxc f (k / 16) (k % 16))) := by
  rw [zbq_s hn, if_pos ⟨by omega, h2⟩]
  rw [zbq_at h h2] at h3
  exact zbsB_y (by omega) h3
theorem zbs_cg {wt wt' f : Nat → Int32} {n : Nat} (hn : zsz4 n) (h : ∀ k, 1 ≤ k → k ≤ 5 → wt k = wt' k) (hk : ∀ s, s < n → zk (f s)) : ∀ i, i ≤ n → zbsA wt n f i = zbsA wt' n f i := by
  have hB : ∀ i acc, i < n → ∀ j, j ≤ n → zbsB wt n f i acc j = zbsB wt' n f i acc j := by
    intro i acc hi j
    induction j with
    | zero => intro _; rfl
    | succ j ih =>
      intro hj
      show (if i < j ∧ _ then _ else _) = (if i < j ∧ _ then _ else _)
      rw [ih (by omega), zlean_cg hn h fun s hs => zxc_k hk hi (show j < n by omega) hs]
  intro i
  induction i with
  | zero => intro _; show (_, _) = (_, _); rw [zlean_cg hn h hk]
  | succ i ih =>
    intro hi
    show zbsB wt n f i (zbsA wt n f i) n = zbsB wt' n f i (zbsA wt' n f i) n
    rw [ih (by omega), hB i _ (by omega) n (Nat.le_refl _)]
/-! the law's rows beside the class's state -/
def zRn (v : zS) (t : Nat) : Nat := if zSz v t = 0 then 0 else zLn (zKd v t) (zSz v t)
/-- the law's rows say what the class's state is -/
def zRel (v : zS) (rr : Nat → Nat) (bb gg : Nat → Int32) (ee : Nat → Nat) (cc : Nat → Int32) : Prop :=
  (∀ t, t < 6 → rr t = zRn v t) ∧ (∀ k, 1 ≤ k → k ≤ 5 → bb (k - 1) = zBx v k ∧ bb (4 + k) = zWt v k) ∧ gg 6 = nI (zMl v) ∧ (∀ k, k < zMl v → gg k = zSg v k) ∧ ∀ k, k < zNl v → ee k = zLe 1 (zSz v (6 + k)) (zKd v (6 + k)) ∧ cc k = zTm v k
/-- the law's five rows -/
def zRows (E : zEnv) (ra ba ga ea ca : Nat) (rr : Nat → Nat) (bb gg : Nat → Int32) (ee : Nat → Nat) (cc : Nat → Int32) (H : Heap) : Prop :=
  zLo E ra 6 rr H ∧ zat E ba (.inl (zI E, 10, .inl bb)) H ∧ zat E ga (.inl (zI E, 7, .inl gg)) H ∧ zLo E ea 10 ee H ∧ zat E ca (.inl (zI E, 10, .inl cc)) H
theorem zRn_0 {v : zS} {t : Nat} (h : zRn v t = 0) : zSz v t = 0 := by
  unfold zRn at h
  by_cases q : zSz v t = 0
  · exact q
  · rw [if_neg q] at h
    have := zLn_pos (f := zKd v t) (zSz v t)
    omega
theorem zRn_1 {v : zS} {t : Nat} (h : ¬ zRn v t = 0) : zSz v t ≠ 0 := fun q => h (if_pos q)
theorem zRn_e {v : zS} {t : Nat} (h : zSz v t ≠ 0) : zRn v t = zLn (zKd v t) (zSz v t) := if_neg h
theorem zOk.s4 {v : zS} (h : zOk v) {t : Nat} (ht : t < 6) (h0 : zSz v t ≠ 0) : zsz4 (zSz v t) := (h.1 t ht).resolve_left h0
theorem zOk.k4 {v : zS} (h : zOk v) {t : Nat} (ht : t < 6) : ∀ s, s < zSz v t → zk (zKd v t s) := h.2.1 t ht
theorem zRn_62 {v : zS} (h : zOk v) {t : Nat} (ht : t < 6) : zRn v t < 2 ^ 51 := by
  unfold zRn
  split
  · decide
  · rename_i q; exact zLn_62 (h.s4 ht q).b.2.1 (h.k4 ht)
theorem zCW_recv {E : zEnv} {ad : Nat → Nat} {nw sv : zS} {an : Bool} {hs : Nat → zS} {ct ln : Nat} {cd : Nat → Int32} {H : Heap} (h : zCW E ad nw sv an hs ct ln cd H) : ∃ fs, zat E (ad 287) (.inr (5, fs)) H := by
  obtain ⟨π, tn, tt, nb, tf, hp, a1, a2, a3, a4, -⟩ := h
  exact ⟨_, a4⟩
theorem zcn_00 {f : Nat → Int32} {x : Int32} : zcn f x 0 = 0 := rfl
theorem zns_a {p : Nat → Nat} {i c : Nat} (h : p i = c) : zns p i + c = zns p (i + 1) := by rw [← h]; rfl
theorem zRows_kept {E : zEnv} {ra ba ga ea ca : Nat} {rr : Nat → Nat} {bb gg : Nat → Int32} {ee : Nat → Nat} {cc : Nat → Int32} {H H1 : Heap} (h : zRows E ra ba ga ea ca rr bb gg ee cc H) (e : ∀ q, q = ra ∨ q = ba ∨ q = ga ∨ q = ea ∨ q = ca → H1[q]? = H[q]?) : zRows E ra ba ga ea ca rr bb gg ee cc H1 :=
  ⟨va_at.kept h.1 (e _ (Or.inl rfl)), va_at.kept h.2.1 (e _ (Or.inr (Or.inl rfl))), va_at.kept h.2.2.1 (e _ (Or.inr (Or.inr (Or.inl rfl)))), va_at.kept h.2.2.2.1 (e _ (Or.inr (Or.inr (Or.inr (Or.inl rfl))))), va_at.kept h.2.2.2.2 (e _ (Or.inr (Or.inr (Or.inr (Or.inr rfl)))))⟩
