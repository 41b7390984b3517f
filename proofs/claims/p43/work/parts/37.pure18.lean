/-! least forms and likeness -/
theorem zlx_v (a b : Nat → Int32) : ∀ n, zlx a b n = 0 ∨ zlx a b n = 1 ∨ zlx a b n = 2
  | 0 => Or.inl rfl
  | n + 1 => by
    have h := zlx_v a b n
    unfold zlx
    split
    · exact h
    · split
      · exact Or.inl rfl
      · split
        · exact Or.inr (Or.inl rfl)
        · exact Or.inr (Or.inr rfl)
theorem zlx_0i {a b : Nat → Int32} : ∀ {n : Nat}, zlx a b n = 0 ↔ ∀ s, s < n → a s = b s
  | 0 => ⟨fun _ s hs => absurd hs (Nat.not_lt_zero s), fun _ => rfl⟩
  | n + 1 => by
    have ih := @zlx_0i a b n
    constructor
    · intro h s hs
      unfold zlx at h
      by_cases q : zlx a b n = 0
      · rw [if_neg (fun w => w q)] at h
        by_cases q2 : a n = b n
        · rcases Nat.lt_or_ge s n with w | w
          · exact ih.mp q s w
          · rw [show s = n by omega]; exact q2
        · rw [if_neg q2] at h
          split at h <;> exact absurd h (by decide)
      · rw [if_pos q] at h; exact absurd h q
    · intro h
      exact zlx_eq (ih.mpr (fun s hs => h s (by omega))) (h n (by omega))
/-- the first difference -/
theorem zlx_1i {a b : Nat → Int32} : ∀ {n : Nat}, zlx a b n = 1 ↔ ∃ i, i < n ∧ (∀ s, s < i → a s = b s) ∧ a i < b i
  | 0 => ⟨fun h => absurd (show (0 : Nat) = 1 from h) (by decide), fun ⟨i, hi, _⟩ => absurd hi (Nat.not_lt_zero i)⟩
  | n + 1 => by
    have ih := @zlx_1i a b n
    constructor
    · intro h
      by_cases q : zlx a b n = 0
      · have q1 := zlx_0i.mp q
        unfold zlx at h
        rw [if_neg (fun w => w q)] at h
        by_cases q2 : a n = b n
        · rw [if_pos q2] at h; exact absurd h (by decide)
        · rw [if_neg q2] at h
          by_cases q3 : a n < b n
          · exact ⟨n, by omega, q1, q3⟩
          · rw [if_neg q3] at h; exact absurd h (by decide)
      · rw [zlx_stay (show n ≤ n + 1 by omega) q] at h
        obtain ⟨i, hi, h1, h2⟩ := ih.mp h
        exact ⟨i, by omega, h1, h2⟩
    · rintro ⟨i, hi, h1, h2⟩
      have h0 : zlx a b i = 0 := zlx_0i.mpr h1
      have hne : ¬ a i = b i := fun w => by rw [w] at h2; exact absurd h2 Int32.lt_irrefl
      rw [zlx_ne hi h0 hne, if_pos h2]
theorem zlx_tr {a b c : Nat → Int32} {n : Nat} (h1 : zlx a b n = 1) (h2 : zlx b c n = 1) : zlx a c n = 1 := by
  obtain ⟨i, hi, e1, l1⟩ := zlx_1i.mp h1
  obtain ⟨j, hj, e2, l2⟩ := zlx_1i.mp h2
  refine zlx_1i.mpr ?_
  rcases Nat.lt_trichotomy i j with q | q | q
  · exact ⟨i, hi, fun s hs => (e1 s hs).trans (e2 s (by omega)), by rw [← e2 i q]; exact l1⟩
  · subst q; exact ⟨i, hi, fun s hs => (e1 s hs).trans (e2 s hs), Int32.lt_trans l1 l2⟩
  · exact ⟨j, hj, fun s hs => (e1 s (by omega)).trans (e2 s hs), by rw [e1 j q]; exact l2⟩
theorem zlx_to {a b : Nat → Int32} {n : Nat} (h1 : ¬ zlx a b n = 1) (h2 : ¬ zlx b a n = 1) : ∀ s, s < n → a s = b s := by
  refine zlx_0i.mp ?_
  rcases zlx_v a b n with q | q | q
  · exact q
  · exact absurd q h1
  · exfalso
    refine h2 ?_
    clear h1 h2
    induction n with
    | zero => exact absurd (show (0 : Nat) = 2 from q) (by decide)
    | succ n ih =>
      by_cases w : zlx a b n = 0
      · unfold zlx at q
        rw [if_neg (fun w2 => w2 w)] at q
        by_cases q2 : a n = b n
        · rw [if_pos q2] at q; exact absurd q (by decide)
        · rw [if_neg q2] at q
          by_cases q3 : a n < b n
          · rw [if_pos q3] at q; exact absurd q (by decide)
          · refine zlx_1i.mpr ⟨n, by omega, fun s hs => (zlx_0i.mp w s hs).symm, ?_⟩
            exact Int32.lt_of_le_of_ne (Int32.not_lt.mp q3) (fun e => q2 e.symm)
      · rw [zlx_stay (show n ≤ n + 1 by omega) w] at q
        have h9 := ih q
        rw [zlx_stay (show n ≤ n + 1 by omega) (by rw [h9]; decide)]; exact h9
theorem zlx_cg {a b a' b' : Nat → Int32} {n : Nat} (e1 : ∀ s, s < n → a s = a' s) (e2 : ∀ s, s < n → b s = b' s) (h : zlx a b n = 1) : zlx a' b' n = 1 := by
  obtain ⟨i, hi, e, l⟩ := zlx_1i.mp h
  exact zlx_1i.mpr ⟨i, hi, fun s hs => by rw [← e1 s (by omega), ← e2 s (by omega)]; exact e s hs, by rw [← e1 i hi, ← e2 i hi]; exact l⟩
/-- no row comes before the chosen one -/
theorem zlc_mn {R : Nat → Nat → Int32} {w : Nat} {lt : Nat → Nat → Bool} (hlt : ∀ i j, lt i j = decide (zlx (R i) (R j) w = 1)) : ∀ {n j : Nat}, j < n → ¬ zlx (R j) (R (zlc lt n)) w = 1
  | 0, j, hj => absurd hj (Nat.not_lt_zero j)
  | n + 1, j, hj => by
    intro h
    have ih := @zlc_mn R w lt hlt n
    unfold zlc at h
    by_cases q : lt n (zlc lt n) = true
    · rw [if_pos q] at h
      rw [hlt] at q
      have q := of_decide_eq_true q
      rcases Nat.lt_or_ge j n with g | g
      · exact ih g (zlx_tr h q)
      · rw [show j = n by omega, zlx_refl] at h; exact absurd h (by decide)
    · rw [if_neg q] at h
      rcases Nat.lt_or_ge j n with g | g
      · exact ih g h
      · rw [show j = n by omega] at h
        exact q (by rw [hlt]; exact decide_eq_true h)
theorem zls_mn {n : Nat} {f : Nat → Int32} {c : Nat} (hc : c < n) : ¬ zlx (zimg n f c) (zimg n f (zls n f 1)) n = 1 := by
  have h := zlc_mn (R := fun i => zimg n f (zchg 1 i n)) (w := n) (lt := fun i b => zlt n f (zchg 1 i n) (zchg 1 b n)) (fun i j => rfl) (n := n) (j := c) hc
  exact h
theorem zls1_lt {n : Nat} {f : Nat → Int32} (hn : 0 < n) : zls n f 1 < n := zlc_lt' (lv := 1) hn
/-- rolls of a rolled ring -/
theorem zimg_rr {n : Nat} {f g : Nat → Int32} {i c : Nat} (hi : i < n) (hc : c < n) (h : ∀ s, s < n → zimg n f i s = g s) : ∀ s, s < n → zimg n f ((c + i) % n) s = zimg n g c s := by
  intro s hs
  have hm : (c + i) % n < n := Nat.mod_lt _ (by omega)
  have e1 : zimg n g c s = g ((s + n - c) % n) := if_pos hc
  have e2 : zimg n f ((c + i) % n) s = f ((s + n - (c + i) % n) % n) := if_pos hm
  rw [e1, e2, ← h _ (Nat.mod_lt _ (by omega))]
  have e3 : zimg n f i ((s + n - c) % n) = f (((s + n - c) % n + n - i) % n) := if_pos hi
  rw [e3]
  congr 1
  rcases Nat.lt_or_ge (c + i) n with q | q
  · rw [Nat.mod_eq_of_lt q]
    rcases Nat.lt_or_ge s c with w | w
    · rw [Nat.mod_eq_of_lt (show s + n - c < n by omega)]
      rw [show s + n - c + n - i = s + n - (c + i) + n by omega, Nat.add_mod_right]
    · rw [zmod_1 (show n ≤ s + n - c by omega) (by omega)]
      congr 1; omega
  · rw [zmod_1 (a := c + i) q (by omega)]
    rcases Nat.lt_or_ge s c with w | w
    · rw [Nat.mod_eq_of_lt (show s + n - c < n by omega)]
      congr 1; omega
    · rw [zmod_1 (show n ≤ s + n - c by omega) (by omega)]
      rw [show s + n - (c + i - n) = (s + n - c - n + n - i) + n by omega, Nat.add_mod_right]
theorem zimg_0 {n : Nat} {f : Nat → Int32} {s : Nat} (hs : s < n) : zimg n f 0 s = f s := by
  unfold zimg; rw [if_pos (by omega), Nat.sub_zero, Nat.add_mod_right, Nat.mod_eq_of_lt hs]
/-- and back -/
theorem zimg_rv {n : Nat} {f g : Nat → Int32} {i : Nat} (hi : i < n) (h : ∀ s, s < n → zimg n f i s = g s) : ∃ k, k < n ∧ ∀ s, s < n → zimg n g k s = f s := by
  refine ⟨(n - i) % n, Nat.mod_lt _ (by omega), fun s hs => ?_⟩
  have h9 := zimg_rr hi (Nat.mod_lt (n - i) (show 0 < n by omega)) h s hs
  rw [← h9]
  have e : ((n - i) % n + i) % n = 0 := by
    rcases Nat.eq_zero_or_pos i with q | q
    · subst q; rw [Nat.sub_zero, Nat.mod_self]; simp
    · rw [Nat.mod_eq_of_lt (show n - i < n by omega), show n - i + i = n by omega, Nat.mod_self]
  rw [e]; exact zimg_0 hs
theorem zan_i {n : Nat} {f g : Nat → Int32} {lv : Nat} : ∀ {t : Nat}, zan n f g lv t = true ↔ ∃ i, i < t ∧ ∀ s, s < n → zimg n f (zchg lv i n) s = g s
  | 0 => ⟨fun h => absurd (show false = true from h) (by decide), fun ⟨i, hi, _⟩ => absurd hi (Nat.not_lt_zero i)⟩
  | t + 1 => by
    have ih := @zan_i n f g lv t
    have hd : ∀ c, zdf n f c g = 0 ↔ ∀ s, s < n → zimg n f c s = g s := fun c => by
      unfold zdf
      constructor
      · intro h s hs
        have : ∀ m, zct (fun s => decide (zimg n f c s ≠ g s)) m = 0 → ∀ s, s < m → zimg n f c s = g s := by
          intro m
          induction m with
          | zero => intro _ s hs; exact absurd hs (Nat.not_lt_zero s)
          | succ m ihm =>
            intro hm s hs
            simp only [zct] at hm
            by_cases q : zimg n f c m = g m
            · rcases Nat.lt_or_ge s m with w | w
              · exact ihm (by omega) s w
              · rw [show s = m by omega]; exact q
            · rw [if_pos (decide_eq_true q)] at hm; omega
        exact this n h s hs
      · intro h
        have : ∀ m, m ≤ n → zct (fun s => decide (zimg n f c s ≠ g s)) m = 0 := by
          intro m
          induction m with
          | zero => intro _; rfl
          | succ m ihm =>
            intro hm
            simp only [zct]
            rw [ihm (by omega), if_neg]
            simp [h m (by omega)]
        exact this n (Nat.le_refl n)
    show (zan n f g lv t || decide (zdf n f (zchg lv t n) g = 0)) = true ↔ _
    rw [Bool.or_eq_true, ih, decide_eq_true_eq, hd]
    constructor
    · rintro (⟨i, hi, h⟩ | h)
      · exact ⟨i, by omega, h⟩
      · exact ⟨t, by omega, h⟩
    · rintro ⟨i, hi, h⟩
      rcases Nat.lt_or_ge i t with q | q
      · exact Or.inl ⟨i, q, h⟩
      · rw [show i = t by omega] at h; exact Or.inr h
theorem zls_eq {n : Nat} {f g : Nat → Int32} {i : Nat} (hi : i < n) (h : ∀ s, s < n → zimg n f i s = g s) : ∀ s, s < n → zimg n f (zls n f 1) s = zimg n g (zls n g 1) s := by
  have hn : 0 < n := by omega
  obtain ⟨k, hk, h'⟩ := zimg_rv hi h
  have a := zimg_rr hi (zls1_lt (f := g) hn) h
  have b := zimg_rr hk (zls1_lt (f := f) hn) h'
  refine zlx_to (fun q => ?_) (fun q => ?_)
  · exact zls_mn (Nat.mod_lt _ hn) (zlx_cg (fun s hs => (b s hs).symm) (fun s _ => rfl) q)
  · exact zls_mn (Nat.mod_lt _ hn) (zlx_cg (fun s hs => (a s hs).symm) (fun s _ => rfl) q)
theorem zan_ls {n : Nat} {f g : Nat → Int32} (hn : 0 < n) : zan n f g 1 (znc 1 n) = zall (fun s => decide (zimg n f (zls n f 1) s = zimg n g (zls n g 1) s)) n := by
  refine Bool.eq_iff_iff.mpr ?_
  rw [zan_i, zall_iff]
  constructor
  · rintro ⟨i, hi, h⟩ s hs
    exact decide_eq_true (zls_eq (i := i) hi h s hs)
  · intro h
    have h : ∀ s, s < n → zimg n f (zls n f 1) s = zimg n g (zls n g 1) s := fun s hs => of_decide_eq_true (h s hs)
    obtain ⟨k, hk, e⟩ := zimg_rv (zls1_lt (f := g) hn) (g := zimg n g (zls n g 1)) (f := g) (fun s _ => rfl)
    refine ⟨(k + zls n f 1) % n, Nat.mod_lt _ hn, fun s hs => ?_⟩
    have h9 := zimg_rr (zls1_lt (f := f) hn) hk h s hs
    show zimg n f ((k + zls n f 1) % n) s = g s
    rw [h9]; exact e s hs
theorem zall_sy {n : Nat} {a b : Nat → Int32} : zall (fun s => decide (a s = b s)) n = zall (fun s => decide (b s = a s)) n := zall_cong fun i _ => decide_eq_decide.mpr eq_comm
theorem zis_al {m n : Nat} {f g : Nat → Int32} (hm : 0 < m) : zis m g n f = zal m g n f 1 := by
  unfold zis zal
  by_cases q : m = n
  · subst q; rw [zan_ls hm, zall_sy]
  · rw [decide_eq_false q]; rfl
theorem zis_al2 {m n : Nat} {f g : Nat → Int32} (hm : 0 < m) : zis m g n f = zal n f m g 1 := by
  unfold zis zal
  by_cases q : m = n
  · subst q; rw [zan_ls hm]
  · rw [decide_eq_false q, decide_eq_false (fun w => q w.symm)]; rfl
/-! how many images there are -/
theorem zct_add (P : Nat → Bool) (a : Nat) : ∀ b, zct P (a + b) = zct P a + zct (fun i => P (a + i)) b
  | 0 => rfl
  | b + 1 => by
    show zct P (a + b) + (if P (a + b) then 1 else 0) = zct P a + (zct (fun i => P (a + i)) b + (if P (a + b) then 1 else 0))
    rw [zct_add P a b, Nat.add_assoc]
theorem zct_rot {P : Nat → Bool} {n k : Nat} (hk : k ≤ n) : zct (fun i => P ((i + k) % n)) n = zct P n := by
  have e1 : zct (fun i => P ((i + k) % n)) n = zct (fun i => P ((i + k) % n)) ((n - k) + k) := by rw [show n - k + k = n by omega]
  have e2 : zct P n = zct P (k + (n - k)) := by rw [show k + (n - k) = n by omega]
  rw [e1, e2, zct_add, zct_add, Nat.add_comm]
  congr 1
  · refine zct_cong fun i hi => ?_
    rw [show n - k + i + k = i + n by omega, Nat.add_mod_right, Nat.mod_eq_of_lt (by omega)]
  · refine zct_cong fun i hi => ?_
    rw [Nat.mod_eq_of_lt (by omega), Nat.add_comm]
theorem zct_front (P : Nat → Bool) (n : Nat) : zct P (n + 1) = (if P 0 then 1 else 0) + zct (fun i => P (i + 1)) n := by
  rw [Nat.add_comm n 1, zct_add]
  congr 1
  · show 0 + _ = _; rw [Nat.zero_add]
  · exact zct_cong fun i _ => by rw [Nat.add_comm]
theorem zct_rev : ∀ {P : Nat → Bool} (n : Nat), zct (fun i => P (n - 1 - i)) n = zct P n
  | _, 0 => rfl
  | P, n + 1 => by
    rw [zct_front]
    show _ = zct P n + (if P n then 1 else 0)
    have ih := @zct_rev P n
    rw [← ih, Nat.add_comm]
    congr 1
    exact zct_cong fun i hi => by congr 1; omega
/-- all places, seen from k backwards -/
theorem zct_neg {P : Nat → Bool} {n k : Nat} (hk : k < n) : zct (fun i => P ((k + n - i) % n)) n = zct P n := by
  rw [← zct_rot (P := P) (n := n) (k := (k + 1) % n) (Nat.le_of_lt (Nat.mod_lt _ (by omega))), ← zct_rev (P := fun i => P ((i + (k + 1) % n) % n)) n]
  refine zct_cong fun i hi => ?_
  congr 1
  rcases Nat.lt_or_ge (k + 1) n with q | q
  · rw [Nat.mod_eq_of_lt q]; congr 1; omega
  · rw [show k + 1 = n by omega, Nat.mod_self]
    rw [show k + n - i = (n - 1 - i + 0) + n by omega, Nat.add_mod_right]
theorem zns_swap (A : Nat → Nat → Nat) (n : Nat) : ∀ m, zns (fun i => zns (fun r => A r i) n) m = zns (fun r => zns (fun i => A r i) m) n
  | 0 => by
    show 0 = _
    induction n with
    | zero => rfl
    | succ n ih => show 0 = zns _ n + 0; rw [← ih]
  | m + 1 => by
    show zns (fun i => zns (fun r => A r i) n) m + zns (fun r => A r m) n = _
    rw [zns_swap A n m]
    induction n with
    | zero => rfl
    | succ n ih =>
      show zns _ n + zns (fun i => A n i) m + (zns (fun r => A r m) n + A n m) = zns _ n + (zns (fun i => A n i) m + A n m)
      rw [← ih]; omega
theorem zns_ct (P : Nat → Bool) : ∀ n, zns (fun i => if P i then 1 else 0) n = zct P n
  | 0 => rfl
  | n + 1 => by show zns _ n + _ = zct P n + _; rw [zns_ct P n]
theorem zns_cong {p q : Nat → Nat} : ∀ {n : Nat}, (∀ i, i < n → p i = q i) → zns p n = zns q n
  | 0, _ => rfl
  | n + 1, h => by show zns p n + p n = zns q n + q n; rw [zns_cong (fun i hi => h i (by omega)), h n (by omega)]
theorem zct_none {P : Nat → Bool} : ∀ {n : Nat}, (∀ i, i < n → P i = false) → zct P n = 0
  | 0, _ => rfl
  | n + 1, h => by show zct P n + (if P n then 1 else 0) = 0; rw [zct_none (fun i hi => h i (by omega)), h n (by omega)]; rfl
theorem zct_one {P : Nat → Bool} {r : Nat} : ∀ {n : Nat}, r < n → P r = true → (∀ i, i < n → i ≠ r → P i = false) → zct P n = 1
  | 0, hr, _, _ => absurd hr (Nat.not_lt_zero r)
  | n + 1, hr, h1, h2 => by
    show zct P n + (if P n then 1 else 0) = 1
    by_cases q : r = n
    · subst q; rw [zct_none (fun i hi => h2 i (by omega) (by omega)), h1]; rfl
    · rw [zct_one (r := r) (by omega) h1 (fun i hi => h2 i (by omega)), h2 n (by omega) (fun w => q w.symm)]; rfl
/-- classes of the same size: so many first members -/
theorem zcl_n {N k : Nat} {e : Nat → Nat → Bool} (hr : ∀ i, i < N → e i i = true) (hs : ∀ i j, e i j = true → e j i = true) (ht : ∀ i j l, e i j = true → e j l = true → e i l = true) (hk : ∀ u, u < N → zct (fun i => e i u) N = k) :
    N = k * zct (fun i => zall (fun u => !e i u) i) N := by
  have rep : ∀ i, i < N → zct (fun r => zall (fun u => !e r u) r && e i r) N = 1 := by
    intro i hi
    have ex : ∀ b, ∀ j, j ≤ b → j < N → e i j = true → ∃ r, r < N ∧ e i r = true ∧ zall (fun u => !e r u) r = true := by
      intro b
      induction b with
      | zero => intro j hj hjN h; exact ⟨j, hjN, h, by rw [show j = 0 by omega]; rfl⟩
      | succ b ih =>
        intro j hj hjN h
        cases q : zall (fun u => !e j u) j with
        | true => exact ⟨j, hjN, h, q⟩
        | false =>
          have : ∃ u, u < j ∧ e j u = true := by
            refine Classical.byContradiction fun w => ?_
            have : zall (fun u => !e j u) j = true := zall_iff.mpr fun u hu => by
              cases g : e j u with
              | false => rfl
              | true => exact absurd ⟨u, hu, g⟩ w
            rw [this] at q; cases q
          obtain ⟨u, hu, g⟩ := this
          exact ih u (by omega) (by omega) (ht _ _ _ h g)
    obtain ⟨r, hrN, h1, h2⟩ := ex i i (Nat.le_refl _) hi (hr i hi)
    refine zct_one (r := r) hrN (by show (zall _ r && e i r) = true; rw [h2, h1]; rfl) (fun j hj hne => ?_)
    cases q : zall (fun u => !e j u) j && e i j with
    | false => rfl
    | true =>
      exfalso
      obtain ⟨q1, q2⟩ := Bool.and_eq_true_iff.mp q
      rcases Nat.lt_or_gt_of_ne hne with w | w
      · have := zall_iff.mp h2 j w
        rw [ht r i j (hs _ _ h1) q2] at this; cases this
      · have := zall_iff.mp q1 r w
        rw [ht j i r (hs _ _ q2) h1] at this; cases this
  have e1 : zns (fun i => zns (fun r => if (zall (fun u => !e r u) r && e i r) then 1 else 0) N) N = N := by
    have : ∀ m, m ≤ N → zns (fun i => zns (fun r => if (zall (fun u => !e r u) r && e i r) then 1 else 0) N) m = m := by
      intro m
      induction m with
      | zero => intro _; rfl
      | succ m ih =>
        intro hm
        show zns _ m + zns (fun r => if (zall (fun u => !e r u) r && e m r) then 1 else 0) N = m + 1
        rw [ih (by omega), zns_ct (fun r => zall (fun u => !e r u) r && e m r), rep m (by omega)]
    exact this N (Nat.le_refl _)
  rw [zns_swap (fun r i => if (zall (fun u => !e r u) r && e i r) then 1 else 0) N N] at e1
  have e2 : zns (fun r => zns (fun i => if (zall (fun u => !e r u) r && e i r) then 1 else 0) N) N = zns (fun r => if zall (fun u => !e r u) r then k else 0) N := by
    refine zns_cong fun r hr9 => ?_
    rw [zns_ct (fun i => zall (fun u => !e r u) r && e i r)]
    cases q : zall (fun u => !e r u) r with
    | true =>
      rw [if_pos rfl, ← hk r hr9]
      exact zct_cong fun i _ => by rw [Bool.true_and]
    | false =>
      rw [if_neg (by decide)]
      exact zct_none fun i _ => rfl
  rw [e2] at e1
  have e3 : ∀ (P : Nat → Bool) m, zns (fun r => if P r then k else 0) m = k * zct P m := by
    intro P m
    induction m with
    | zero => rfl
    | succ m ih =>
      show zns _ m + (if P m then k else 0) = k * (zct P m + (if P m then 1 else 0))
      rw [ih, Nat.mul_add]
      congr 1
      split <;> simp
  rw [e3] at e1
  exact e1.symm
/-! orbits -/
theorem zdx_i {a b : Nat → Int32} : ∀ {n : Nat}, zdx a b n = 0 ↔ ∀ s, s < n → a s = b s
  | 0 => ⟨fun _ s hs => absurd hs (Nat.not_lt_zero s), fun _ => rfl⟩
  | n + 1 => by
    have ih := @zdx_i a b n
    constructor
    · intro h
      unfold zdx at h
      by_cases q : zlx a b n = 0
      · rw [if_neg (fun w => w q)] at h
        have e : a n = b n := by
          have h9 := congrArg (fun x => x + b n) h
          simpa using h9
        exact zlx_0i.mp (zlx_eq q e)
      · rw [if_pos q] at h
        exact absurd (zlx_0i.mpr (ih.mp h)) q
    · intro h
      exact zdx_0 (zlx_0i.mpr h)
theorem zdf_i {n : Nat} {f g : Nat → Int32} {c : Nat} : zdf n f c g = 0 ↔ ∀ s, s < n → zimg n f c s = g s := by
  unfold zdf
  constructor
  · intro h s hs
    have : ∀ m, zct (fun s => decide (zimg n f c s ≠ g s)) m = 0 → ∀ s, s < m → zimg n f c s = g s := by
      intro m
      induction m with
      | zero => intro _ s hs; exact absurd hs (Nat.not_lt_zero s)
      | succ m ihm =>
        intro hm s hs
        simp only [zct] at hm
        by_cases q : zimg n f c m = g m
        · rcases Nat.lt_or_ge s m with w | w
          · exact ihm (by omega) s w
          · rw [show s = m by omega]; exact q
        · rw [if_pos (decide_eq_true q)] at hm; omega
    exact this n h s hs
  · intro h
    exact zct_none fun s hs => decide_eq_false fun q => q (h s hs)
theorem zmod_c {x n : Nat} (h : x < 2 * n) : (x % n = x ∧ x < n) ∨ (x % n = x - n ∧ n ≤ x) := by
  rcases Nat.lt_or_ge x n with q | q
  · exact Or.inl ⟨Nat.mod_eq_of_lt q, q⟩
  · exact Or.inr ⟨zmod_1 q (by omega), q⟩
theorem zeq_re {n : Nat} {A B A' f : Nat → Int32} {be si : Nat → Nat} (hs : ∀ t, t < n → si t < n ∧ B (si t) = f t ∧ A' t = A (si t)) (hb : ∀ s, s < n → be s < n ∧ si (be s) = s) : (∀ s, s < n → A s = B s) ↔ ∀ t, t < n → A' t = f t := by
  constructor
  · intro h t ht
    obtain ⟨h1, h2, h3⟩ := hs t ht
    rw [h3, h _ h1, h2]
  · intro h s hs9
    obtain ⟨b1, b2⟩ := hb s hs9
    obtain ⟨h1, h2, h3⟩ := hs (be s) b1
    rw [b2] at h2 h3
    rw [← h3, h _ b1, ← h2]
theorem zimg_r {n c s : Nat} {f : Nat → Int32} (h : c < n) : zimg n f c s = f ((s + n - c) % n) := if_pos h
theorem zimg_m {n c s : Nat} {f : Nat → Int32} : zimg n f (n + c) s = f ((n + c - s) % n) := if_neg (by omega)
/-- roll i as roll u -/
theorem zrr {n i u : Nat} {f : Nat → Int32} (hi : i < n) (hu : u < n) : (∀ s, s < n → zimg n f i s = zimg n f u s) ↔ ∀ t, t < n → zimg n f ((i + (n - u)) % n) t = f t := by
  have hm : (i + (n - u)) % n < n := Nat.mod_lt _ (by omega)
  refine zeq_re (be := fun s => (s + n - u) % n) (si := fun t => (t + u) % n) (fun t ht => ?_) (fun s hs => ?_)
  · refine ⟨Nat.mod_lt _ (by omega), ?_, ?_⟩
    · rw [zimg_r hu]
      congr 1
      rcases zmod_c (x := t + u) (n := n) (by omega) with a | a <;> rcases zmod_c (x := (t + u) % n + n - u) (n := n) (by omega) with b | b <;> omega
    · rw [zimg_r hi, zimg_r hm]
      congr 1
      rcases zmod_c (x := t + u) (n := n) (by omega) with a | a <;> rcases zmod_c (x := (t + u) % n + n - i) (n := n) (by omega) with b | b <;> rcases zmod_c (x := i + (n - u)) (n := n) (by omega) with c | c <;> rcases zmod_c (x := t + n - (i + (n - u)) % n) (n := n) (by omega) with d | d <;> omega
  · refine ⟨Nat.mod_lt _ (by omega), ?_⟩
    have h9 : (s + n - u) % n < n := Nat.mod_lt _ (by omega)
    rcases zmod_c (x := s + n - u) (n := n) (by omega) with a | a <;> rcases zmod_c (x := (s + n - u) % n + u) (n := n) (by omega) with b | b <;> omega
/-- mirroring i as roll u -/
theorem zmrr {n i u : Nat} {f : Nat → Int32} (hi : i < n) (hu : u < n) : (∀ s, s < n → zimg n f (n + i) s = zimg n f u s) ↔ ∀ t, t < n → zimg n f (n + (i + (n - u)) % n) t = f t := by
  have hm : (i + (n - u)) % n < n := Nat.mod_lt _ (by omega)
  refine zeq_re (be := fun s => (s + n - u) % n) (si := fun t => (t + u) % n) (fun t ht => ?_) (fun s hs => ?_)
  · have ht9 : (t + u) % n < n := Nat.mod_lt _ (by omega)
    refine ⟨ht9, ?_, ?_⟩
    · rw [zimg_r hu]
      congr 1
      rcases zmod_c (x := t + u) (n := n) (by omega) with a | a <;> rcases zmod_c (x := (t + u) % n + n - u) (n := n) (by omega) with b | b <;> omega
    · rw [zimg_m, zimg_m]
      congr 1
      rcases zmod_c (x := t + u) (n := n) (by omega) with a | a <;> rcases zmod_c (x := n + i - (t + u) % n) (n := n) (by omega) with b | b <;> rcases zmod_c (x := i + (n - u)) (n := n) (by omega) with c | c <;> rcases zmod_c (x := n + (i + (n - u)) % n - t) (n := n) (by omega) with d | d <;> omega
  · refine ⟨Nat.mod_lt _ (by omega), ?_⟩
    have h9 : (s + n - u) % n < n := Nat.mod_lt _ (by omega)
    rcases zmod_c (x := s + n - u) (n := n) (by omega) with a | a <;> rcases zmod_c (x := (s + n - u) % n + u) (n := n) (by omega) with b | b <;> omega
/-- roll i as mirroring v -/
theorem zrm {n i v : Nat} {f : Nat → Int32} (hi : i < n) (hv : v < n) : (∀ s, s < n → zimg n f i s = zimg n f (n + v) s) ↔ ∀ t, t < n → zimg n f (n + (v + n - i) % n) t = f t := by
  have hm : (v + n - i) % n < n := Nat.mod_lt _ (by omega)
  refine zeq_re (be := fun s => (n + v - s) % n) (si := fun t => (n + v - t) % n) (fun t ht => ?_) (fun s hs => ?_)
  · have ht9 : (n + v - t) % n < n := Nat.mod_lt _ (by omega)
    refine ⟨ht9, ?_, ?_⟩
    · rw [zimg_m]
      congr 1
      rcases zmod_c (x := n + v - t) (n := n) (by omega) with a | a <;> rcases zmod_c (x := n + v - (n + v - t) % n) (n := n) (by omega) with b | b <;> omega
    · rw [zimg_r hi, zimg_m]
      congr 1
      rcases zmod_c (x := n + v - t) (n := n) (by omega) with a | a <;> rcases zmod_c (x := (n + v - t) % n + n - i) (n := n) (by omega) with b | b <;> rcases zmod_c (x := v + n - i) (n := n) (by omega) with c | c <;> rcases zmod_c (x := n + (v + n - i) % n - t) (n := n) (by omega) with d | d <;> omega
  · refine ⟨Nat.mod_lt _ (by omega), ?_⟩
    have h9 : (n + v - s) % n < n := Nat.mod_lt _ (by omega)
    rcases zmod_c (x := n + v - s) (n := n) (by omega) with a | a <;> rcases zmod_c (x := n + v - (n + v - s) % n) (n := n) (by omega) with b | b <;> omega
/-- mirroring i as mirroring v -/
theorem zmm {n i v : Nat} {f : Nat → Int32} (hi : i < n) (hv : v < n) : (∀ s, s < n → zimg n f (n + i) s = zimg n f (n + v) s) ↔ ∀ t, t < n → zimg n f ((v + n - i) % n) t = f t := by
  have hm : (v + n - i) % n < n := Nat.mod_lt _ (by omega)
  refine zeq_re (be := fun s => (n + v - s) % n) (si := fun t => (n + v - t) % n) (fun t ht => ?_) (fun s hs => ?_)
  · have ht9 : (n + v - t) % n < n := Nat.mod_lt _ (by omega)
    refine ⟨ht9, ?_, ?_⟩
    · rw [zimg_m]
      congr 1
      rcases zmod_c (x := n + v - t) (n := n) (by omega) with a | a <;> rcases zmod_c (x := n + v - (n + v - t) % n) (n := n) (by omega) with b | b <;> omega
    · rw [zimg_m, zimg_r hm]
      congr 1
      rcases zmod_c (x := n + v - t) (n := n) (by omega) with a | a <;> rcases zmod_c (x := n + i - (n + v - t) % n) (n := n) (by omega) with b | b <;> rcases zmod_c (x := v + n - i) (n := n) (by omega) with c | c <;> rcases zmod_c (x := t + n - (v + n - i) % n) (n := n) (by omega) with d | d <;> omega
  · refine ⟨Nat.mod_lt _ (by omega), ?_⟩
    have h9 : (n + v - s) % n < n := Nat.mod_lt _ (by omega)
    rcases zmod_c (x := n + v - s) (n := n) (by omega) with a | a <;> rcases zmod_c (x := n + v - (n + v - s) % n) (n := n) (by omega) with b | b <;> omega
def zsame (n : Nat) (f : Nat → Int32) (lv i u : Nat) : Bool := decide (zdx (zimg n f (zchg lv i n)) (zimg n f (zchg lv u n)) n = 0)
def zfxb (n : Nat) (f : Nat → Int32) (lv i : Nat) : Bool := decide (zdf n f (zchg lv i n) f = 0)
theorem zsame_i {n : Nat} {f : Nat → Int32} {lv i u k : Nat} (h : (∀ s, s < n → zimg n f (zchg lv i n) s = zimg n f (zchg lv u n) s) ↔ ∀ t, t < n → zimg n f (zchg lv k n) t = f t) : zsame n f lv i u = zfxb n f lv k :=
  decide_eq_decide.mpr (zdx_i.trans (h.trans zdf_i.symm))
theorem zq4 {m i u : Nat} (hi : i < 4) (hu : u < 4) : (i * m + (4 * m - u * m)) % (4 * m) = (i + (4 - u)) % 4 * m := by
  rcases Nat.eq_zero_or_pos m with h0 | h0
  · subst h0; simp
  have hc : ∀ i : Nat, i < 4 → ∀ u : Nat, u < 4 → (i + (4 - u) < 4 ∧ (i + (4 - u)) % 4 = i + (4 - u)) ∨ (4 ≤ i + (4 - u) ∧ (i + (4 - u)) % 4 + 4 = i + (4 - u)) := by decide
  have h1 : i * m + (4 * m - u * m) = (i + (4 - u)) * m := by rw [Nat.add_mul, Nat.sub_mul]
  rw [h1]
  rcases hc i hi u hu with ⟨a, b⟩ | ⟨a, b⟩
  · rw [b, Nat.mod_eq_of_lt ((Nat.mul_lt_mul_right h0).mpr a)]
  · rw [← b, Nat.add_mul, Nat.add_mod_right]
    rw [Nat.mod_eq_of_lt ((Nat.mul_lt_mul_right h0).mpr (by have := Nat.mod_lt (i + (4 - u)) (show 0 < 4 by decide); omega))]
    congr 1
    have := Nat.mod_lt (i + (4 - u)) (show 0 < 4 by decide)
    omega
theorem zsame_k {n : Nat} {f : Nat → Int32} {lv u : Nat} (hn : 0 < n) (h4 : n % 4 = 0) (hl : lv ≤ 2) (hu : u < znc lv n) : zct (fun i => zsame n f lv i u) (znc lv n) = zct (zfxb n f lv) (znc lv n) := by
  rcases (show lv = 0 ∨ lv = 1 ∨ lv = 2 by omega) with rfl | rfl | rfl
  · obtain ⟨m, hm⟩ : ∃ m, n = 4 * m := ⟨n / 4, by omega⟩
    have hu : u < 4 := hu
    show zct (fun i => zsame n f 0 i u) 4 = zct (zfxb n f 0) 4
    rw [← zct_rot (P := zfxb n f 0) (n := 4) (k := 4 - u) (by omega)]
    refine zct_cong fun i hi => zsame_i ?_
    have ch : ∀ j, zchg 0 j n = j * m := fun j => by
      show j * n / 4 = j * m
      rw [hm, Nat.mul_left_comm, Nat.mul_div_cancel_left _ (by decide)]
    rw [ch, ch, ch, ← zq4 hi hu, ← hm]
    have hb : ∀ j, j < 4 → j * m < n := fun j hj => by
      rw [hm]; exact (Nat.mul_lt_mul_right (by omega)).mpr hj
    exact zrr (hb i hi) (hb u hu)
  · have hu : u < n := hu
    show zct (fun i => zsame n f 1 i u) n = zct (zfxb n f 1) n
    rw [← zct_rot (P := zfxb n f 1) (n := n) (k := n - u) (by omega)]
    exact zct_cong fun i hi => zsame_i (zrr hi hu)
  · have hu : u < 2 * n := hu
    show zct (fun i => zsame n f 2 i u) (2 * n) = zct (zfxb n f 2) (2 * n)
    rw [Nat.two_mul, zct_add, zct_add]
    rcases Nat.lt_or_ge u n with q | q
    · congr 1
      · rw [← zct_rot (P := zfxb n f 2) (n := n) (k := n - u) (by omega)]
        exact zct_cong fun i hi => zsame_i (zrr hi q)
      · rw [← zct_rot (P := fun i => zfxb n f 2 (n + i)) (n := n) (k := n - u) (by omega)]
        exact zct_cong fun i hi => zsame_i (zmrr hi q)
    · obtain ⟨v, rfl⟩ : ∃ v, u = n + v := ⟨u - n, by omega⟩
      rw [Nat.add_comm (zct (zfxb n f 2) n)]
      congr 1
      · rw [← zct_neg (P := fun i => zfxb n f 2 (n + i)) (n := n) (k := v) (by omega)]
        exact zct_cong fun i hi => zsame_i (zrm hi (by omega))
      · rw [← zct_neg (P := zfxb n f 2) (n := n) (k := v) (by omega)]
        exact zct_cong fun i hi => zsame_i (zmm hi (by omega))
/-- both ways of counting images agree -/
theorem zob_e {n : Nat} {f : Nat → Int32} {lv : Nat} (hn : 0 < n) (h4 : n % 4 = 0) (hl : lv ≤ 2) : zct (fun i => zne n f lv i i) (znc lv n) = zob n f lv := by
  have hN := znc_pos (lv := lv) hn
  have h := zcl_n (N := znc lv n) (k := zct (zfxb n f lv) (znc lv n)) (e := zsame n f lv)
    (fun i _ => decide_eq_true (zdx_i.mpr fun s _ => rfl))
    (fun i j q => decide_eq_true (zdx_i.mpr fun s hs => (zdx_i.mp (of_decide_eq_true q) s hs).symm))
    (fun i j l q r => decide_eq_true (zdx_i.mpr fun s hs => (zdx_i.mp (of_decide_eq_true q) s hs).trans (zdx_i.mp (of_decide_eq_true r) s hs)))
    (fun u hu => zsame_k hn h4 hl hu)
  have e1 : zct (fun i => zall (fun u => !zsame n f lv i u) i) (znc lv n) = zct (fun i => zne n f lv i i) (znc lv n) := by
    refine zct_cong fun i _ => zall_cong fun u _ => ?_
    show (!decide _) = decide (¬ _)
    exact (decide_not).symm
  rw [e1] at h
  have e2 : zfx n f lv (znc lv n) = zct (zfxb n f lv) (znc lv n) := rfl
  unfold zob
  rw [e2]
  have hp : 0 < zct (zfxb n f lv) (znc lv n) := by
    rcases Nat.eq_zero_or_pos (zct (zfxb n f lv) (znc lv n)) with q | q
    · rw [q, Nat.zero_mul] at h; omega
    · exact q
  rw [if_neg (by omega)]
  exact (Nat.div_eq_of_eq_mul_right hp h).symm
/-! sets of slots as bits -/
def zm (p : Nat → Bool) : Nat → Nat
  | 0 => 0
  | i + 1 => if p i then zm p i ||| 2 ^ i else zm p i
theorem zm_lt (p : Nat → Bool) : ∀ n, zm p n < 2 ^ n
  | 0 => Nat.one_pos
  | n + 1 => by
    have h := zm_lt p n
    unfold zm
    split
    · exact Nat.or_lt_two_pow (Nat.lt_trans h (Nat.pow_lt_pow_right (by decide) (by omega))) (Nat.pow_lt_pow_right (by decide) (by omega))
    · exact Nat.lt_trans h (Nat.pow_lt_pow_right (by decide) (by omega))
theorem zm_bit (p : Nat → Bool) (j : Nat) : ∀ n, (zm p n).testBit j = (decide (j < n) && p j)
  | 0 => by show Nat.testBit 0 j = _; rw [Nat.zero_testBit, decide_eq_false (Nat.not_lt_zero j)]; rfl
  | n + 1 => by
    have ih := zm_bit p j n
    unfold zm
    by_cases q : p n = true
    · rw [if_pos q, Nat.testBit_or, ih, Nat.testBit_two_pow]
      by_cases w : n = j
      · subst w; rw [decide_eq_true rfl, decide_eq_true (Nat.lt_succ_self n), q]; simp
      · rw [decide_eq_false w, Bool.or_false]
        congr 1
        exact decide_eq_decide.mpr (by omega)
    · rw [if_neg q, ih]
      by_cases w : j = n
      · subst w; rw [show p j = false by simpa using q, Bool.and_false, Bool.and_false]
      · congr 1
        exact decide_eq_decide.mpr (by omega)
theorem zset_zm (p : Nat → Bool) : ∀ {n : Nat}, n ≤ 16 → zset p n = nI (zm p n)
  | 0, _ => rfl
  | n + 1, h => by
    have ih := zset_zm p (n := n) (by omega)
    have hs : ∀ i : Nat, i < 16 → (1 : Int32) <<< (nI i &&& 31) = nI (2 ^ i) := by decide
    unfold zset zm
    by_cases q : p n = true
    · rw [if_pos q, if_pos q, ih, hs n (by omega)]
      apply Int32.toBitVec_inj.mp
      show (BitVec.ofNat 32 (zm p n)) ||| (BitVec.ofNat 32 (2 ^ n)) = BitVec.ofNat 32 (zm p n ||| 2 ^ n)
      exact (BitVec.ofNat_or).symm
    · rw [if_neg q, if_neg q, ih]
theorem zset_and (p q : Nat → Bool) {n : Nat} (h : n ≤ 16) : zset p n &&& zset q n = zset (fun s => p s && q s) n := by
  rw [zset_zm p h, zset_zm q h, zset_zm _ h, zand]
  congr 1
  refine Nat.eq_of_testBit_eq fun j => ?_
  rw [Nat.testBit_and, zm_bit, zm_bit, zm_bit]
  cases decide (j < n) <;> simp
/-- a bit of a set -/
theorem zset_bit (p : Nat → Bool) {n s : Nat} (h : n ≤ 16) (hs : s < n) : (zset p n >>> (nI s &&& 31)) &&& 1 = if p s then 1 else 0 := by
  have hl : zm p n < 65536 := Nat.lt_of_lt_of_le (zm_lt p n) (Nat.pow_le_pow_right (by decide) h)
  rw [zset_zm p h, zbc_n hl (by omega)]
  have hb := zm_bit p s n
  rw [decide_eq_true hs, Bool.true_and] at hb
  rw [← hb, Nat.testBit_eq_decide_div_mod_eq]
  rcases Nat.mod_two_eq_zero_or_one (zm p n / 2 ^ s) with w | w
  · rw [w]; rfl
  · rw [w]; rfl
theorem zset_b0 (p : Nat → Bool) {n s : Nat} (h : n ≤ 16) (hs : s < n) : decide (¬ (zset p n >>> (nI s &&& 31)) &&& 1 = 0) = p s := by
  rw [zset_bit p h hs]
  cases p s with
  | true => decide
  | false => decide
theorem zset_b1 (p : Nat → Bool) {n s : Nat} (h : n ≤ 16) (hs : s < n) : decide (zset p n >>> (nI s &&& 31) &&& nI 1 = nI 1) = p s := by
  rw [show nI 1 = (1 : Int32) from rfl, zset_bit p h hs]
  cases p s with
  | true => decide
  | false => decide
/-- the slots at which a set stays, both ways -/
theorem zstay_e (p : Nat → Bool) {n : Nat} (hn : 0 < n ∧ n ≤ 16) : zset (fun s9 => zsta (zset p n) n s9 4) n = zst3 (zset p n) n 3 := by
  have hm : ∀ s q, (s + q * n / 4) % n < n := fun s q => Nat.mod_lt _ hn.1
  have e : ∀ q, zset (fun s => decide (¬ (zset p n >>> (nI ((s + q * n / 4) % n) &&& 31)) &&& 1 = 0)) n = zset (fun s => p ((s + q * n / 4) % n)) n := fun q =>
    zset_cong fun s _ => zset_b0 p hn.2 (hm s q)
  show _ = ((zset p n &&& zset (fun s => decide (¬ (zset p n >>> (nI ((s + (0 + 1) * n / 4) % n) &&& 31)) &&& 1 = 0)) n) &&& zset (fun s => decide (¬ (zset p n >>> (nI ((s + (1 + 1) * n / 4) % n) &&& 31)) &&& 1 = 0)) n) &&& zset (fun s => decide (¬ (zset p n >>> (nI ((s + (2 + 1) * n / 4) % n) &&& 31)) &&& 1 = 0)) n
  rw [e, e, e, zset_and p _ hn.2, zset_and _ _ hn.2, zset_and _ _ hn.2]
  refine zset_cong fun s hs => ?_
  show ((((true && decide (zset p n >>> (nI ((s + 0 * n / 4) % n) &&& 31) &&& nI 1 = nI 1)) && decide (zset p n >>> (nI ((s + 1 * n / 4) % n) &&& 31) &&& nI 1 = nI 1)) && decide (zset p n >>> (nI ((s + 2 * n / 4) % n) &&& 31) &&& nI 1 = nI 1)) && decide (zset p n >>> (nI ((s + 3 * n / 4) % n) &&& 31) &&& nI 1 = nI 1)) = _
  rw [zset_b1 p hn.2 (hm s 0), zset_b1 p hn.2 (hm s 1), zset_b1 p hn.2 (hm s 2), zset_b1 p hn.2 (hm s 3), Bool.true_and]
  have e0 : (s + 0 * n / 4) % n = s := by rw [Nat.zero_mul, Nat.zero_div, Nat.add_zero, Nat.mod_eq_of_lt hs]
  rw [e0]
/-! states that the methods make keep the invariant -/
theorem zOk_bx {v : zS} {bx : Nat → Int32} (h : zOk v) (hb : ∀ k, 1 ≤ k → k ≤ 5 → ∃ j : Nat, j ≤ 99 ∧ bx k = nI j) : zOk (zsBx v bx) := ⟨h.1, h.2.1, hb, h.2.2.2⟩
theorem zOk_bx1 {v : zS} {k0 u : Nat} (h : zOk v) (hu : u ≤ 99) : zOk (zsBx v (upd (zBx v) k0 (nI u))) :=
  zOk_bx h fun k a b => by
    unfold upd
    by_cases q : k = k0
    · rw [if_pos q]; exact ⟨u, hu, rfl⟩
    · rw [if_neg q]; exact h.2.2.1 k a b
theorem zOk_wt {v : zS} {w : Nat → Int32} (h : zOk v) : zOk (zsWt v w) := h
theorem zOk_tm {v : zS} {w : Nat → Int32} (h : zOk v) : zOk (zsTm v w) := h
theorem zOk_rg {v : zS} {r n : Nat} {f : Nat → Int32} (h : zOk v) (hr : r < 6) (hn : n = 0 ∨ zsz4 n) (hk : ∀ s, s < n → zk (f s)) : zOk (zsRg v r n f) := by
  refine ⟨fun t ht => ?_, fun t ht s hs => ?_, h.2.2.1, h.2.2.2.1, h.2.2.2.2.1, fun e he => ?_⟩
  · show (if t = r then n else zSz v t) = 0 ∨ zsz4 (if t = r then n else zSz v t)
    split
    · exact hn
    · exact h.1 t ht
  · have hs : s < (if t = r then n else zSz v t) := hs
    show zk ((if t = r then f else zKd v t) s)
    by_cases q : t = r
    · rw [if_pos q] at hs ⊢; exact hk s hs
    · rw [if_neg q] at hs ⊢; exact h.2.1 t ht s hs
  · show zsz4 (if 6 + e = r then n else zSz v (6 + e)) ∧ ∀ s, s < (if 6 + e = r then n else zSz v (6 + e)) → zk ((if 6 + e = r then f else zKd v (6 + e)) s)
    rw [if_neg (by omega), if_neg (by omega)]
    exact h.2.2.2.2.2 e he
theorem zOk_mo {v : zS} {ml : Nat} {sg : Nat → Int32} (h : zOk v) (hm : ml ≤ 6) : zOk (zsMo v ml sg) := ⟨h.1, h.2.1, h.2.2.1, hm, h.2.2.2.2⟩
theorem zOk_nl {v : zS} {n : Nat} {f tm : Nat → Int32} (h : zOk v) (hl : zNl v < 10) (hn : zsz4 n) (hk : ∀ s, s < n → zk (f s)) : zOk (zsTm (zsNl (zsRg v (6 + zNl v) n f) (zNl v + 1)) tm) := by
  refine ⟨fun t ht => ?_, fun t ht s hs => ?_, h.2.2.1, h.2.2.2.1, ?_, fun e he => ?_⟩
  · show (if t = 6 + zNl v then n else zSz v t) = 0 ∨ zsz4 (if t = 6 + zNl v then n else zSz v t)
    rw [if_neg (by omega)]; exact h.1 t ht
  · have hs : s < (if t = 6 + zNl v then n else zSz v t) := hs
    show zk ((if t = 6 + zNl v then f else zKd v t) s)
    rw [if_neg (by omega)] at hs ⊢
    exact h.2.1 t ht s hs
  · show zNl v + 1 ≤ 10; omega
  · have he : e < zNl v + 1 := he
    show zsz4 (if 6 + e = 6 + zNl v then n else zSz v (6 + e)) ∧ ∀ s, s < (if 6 + e = 6 + zNl v then n else zSz v (6 + e)) → zk ((if 6 + e = 6 + zNl v then f else zKd v (6 + e)) s)
    by_cases q : e = zNl v
    · rw [if_pos (by omega), if_pos (by omega)]; exact ⟨hn, hk⟩
    · rw [if_neg (by omega), if_neg (by omega)]; exact h.2.2.2.2.2 e (by omega)
theorem zimg_kk {n : Nat} {f : Nat → Int32} {c s : Nat} (hn : 0 < n) (h : ∀ s, s < n → zk (f s)) : zk (zimg n f c s) := by
  unfold zimg
  split
  · exact h _ (Nat.mod_lt _ hn)
  · exact h _ (Nat.mod_lt _ hn)
theorem zpm_k {n : Nat} {g f : Nat → Int32} (hg : ∀ s, zk (g s)) : ∀ s, s < n → zk (zpm g f n s) := fun s hs => by unfold zpm; rw [if_pos hs]; exact hg s
theorem zup_k {n j w : Nat} {f : Nat → Int32} (hw : w ≤ 5) (h : ∀ s, s < n → zk (f s)) : ∀ s, s < n → zk (upd f j (nI w) s) := fun s hs => by
  unfold upd
  by_cases q : s = j
  · rw [if_pos q]; exact ⟨w, hw, rfl⟩
  · rw [if_neg q]; exact h s hs
theorem zto_k {v : zS} {f : Nat → Int32} {n : Nat} (h : zOk v) (hb : zall (fun t => decide (nI (zcn f (nI (t + 1)) n) ≤ zBx v (t + 1))) 5 = true) (hn : n ≤ 16) : ∀ k, 1 ≤ k → k ≤ 5 → ∃ j : Nat, j ≤ 99 ∧ zto (zBx v) (fun t => zcn f (nI t) n) 5 k = nI j := by
  intro k a b
  obtain ⟨j, hj, e⟩ := h.2.2.1 k a b
  have hc := of_decide_eq_true (zall_iff.mp hb (k - 1) (by omega))
  rw [show k - 1 + 1 = k by omega, e] at hc
  have hc16 := Nat.le_trans (zcn_le f (nI k) n) hn
  rw [nI_leI (by omega) (by omega)] at hc
  refine ⟨j - zcn f (nI k) n, by omega, ?_⟩
  unfold zto
  rw [if_pos ⟨a, by omega⟩, e, pk_sub hc]
theorem zti_k {v : zS} {f : Nat → Int32} {n : Nat} (h : zOk v) (hb : zall (fun t => decide (zBx v (t + 1) + nI (zcn f (nI (t + 1)) n) ≤ nI 99)) 5 = true) (hn : n ≤ 16) : ∀ k, 1 ≤ k → k ≤ 5 → ∃ j : Nat, j ≤ 99 ∧ zti (zBx v) (fun t => zcn f (nI t) n) 5 k = nI j := by
  intro k a b
  obtain ⟨j, hj, e⟩ := h.2.2.1 k a b
  have hc := of_decide_eq_true (zall_iff.mp hb (k - 1) (by omega))
  have hc16 := Nat.le_trans (zcn_le f (nI k) n) hn
  rw [show k - 1 + 1 = k by omega, e, nI_add, nI_leI (by omega) (by omega)] at hc
  refine ⟨j + zcn f (nI k) n, hc, ?_⟩
  unfold zti
  rw [if_pos ⟨a, by omega⟩, e, nI_add]
/-- the words of a world: now, saved, saved at all, recorded, how many, length of the text, codes -/
abbrev zT : Type := zS × zS × Bool × (Nat → zS) × Nat × Nat × (Nat → Int32)
def zInv (τ : zT) : Prop := zOk τ.1 ∧ (τ.2.2.1 = true → zOk τ.2.1) ∧ (∀ i, i < τ.2.2.2.2.1 → zOk (τ.2.2.2.1 i)) ∧ τ.2.2.2.2.1 ≤ 5 ∧ τ.2.2.2.2.2.1 ≤ 60 ∧ ∀ j, j < τ.2.2.2.2.2.1 → ∃ w : Nat, 33 ≤ w ∧ w ≤ 126 ∧ τ.2.2.2.2.2.2 j = nI w
/-- a recorded change of the state -/
def ztR (τ : zT) (v : zS) : zT := (v, τ.2.1, τ.2.2.1, zrH τ.2.2.2.1 τ.2.2.2.2.1 τ.1, zrC τ.2.2.2.2.1, τ.2.2.2.2.2)
theorem zInv_r {τ : zT} {v : zS} (h : zInv τ) (hv : zOk v) : zInv (ztR τ v) := by
  obtain ⟨h1, h2, h3, h4, h5⟩ := h
  refine ⟨hv, h2, fun i hi => ?_, ?_, h5⟩
  · have hi : i < zrC τ.2.2.2.2.1 := hi
    show zOk (zrH τ.2.2.2.1 τ.2.2.2.2.1 τ.1 i)
    unfold zrC at hi
    unfold zrH
    by_cases q : τ.2.2.2.2.1 < 5
    · rw [if_pos q] at hi ⊢
      by_cases w : i = τ.2.2.2.2.1
      · rw [if_pos w]; exact h1
      · rw [if_neg w]; exact h3 i (by omega)
    · rw [if_neg q] at hi ⊢
      by_cases w : i < 4
      · rw [if_pos w]; exact h3 (i + 1) (by omega)
      · rw [if_neg w]; exact h1
  · show zrC τ.2.2.2.2.1 ≤ 5
    unfold zrC; split <;> omega
/-- an Int32 is a number of a range, or it isn't in it -/
theorem zin_ca (x : Int32) {lo hi : Nat} (hh : hi < 2 ^ 31) (hl : lo ≤ hi) : zin x lo hi = false ∨ ∃ j : Nat, lo ≤ j ∧ j ≤ hi ∧ x = nI j := by
  cases q : zin x lo hi with
  | false => exact Or.inl rfl
  | true => exact Or.inr (zin_of hh q hl)
theorem zfnd_ca {v : zS} (x : Int32) : zfnd (zSz v) x = none ∨ ∃ r : Nat, r < 6 ∧ zSz v r ≠ 0 ∧ x = nI r := by
  cases q : zfnd (zSz v) x with
  | none => exact Or.inl rfl
  | some r => obtain ⟨a, b, c⟩ := zfnd_some q; exact Or.inr ⟨r, b, c, a⟩
theorem zfd_ca (sz : Nat → Nat) : zfd sz 6 = 6 ∨ zfd sz 6 < 6 := by have := zfd_le sz 6; omega
theorem zbo_ca (b : Bool) : b = false ∨ b = true := by cases b; exact Or.inl rfl; exact Or.inr rfl
