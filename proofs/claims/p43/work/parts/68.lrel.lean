/-! the law's rows, changed as the class's state changes -/
section ZREL
variable {v : zS} {rr : Nat → Nat} {bb gg : Nat → Int32} {ee : Nat → Nat} {cc : Nat → Int32}
theorem zR_rg {t n x : Nat} {f : Nat → Int32} (h : zRel v rr bb gg ee cc) (ht : t < 6) (h0 : n = 0 → x = 0) (h1 : n ≠ 0 → x = zLn f n) : zRel (zsRg v t n f) (zun rr t x) bb gg ee cc := by
  refine ⟨fun u hu => ?_, h.2.1, h.2.2.1, h.2.2.2.1, fun k hk => ?_⟩
  · unfold zun zRn
    show _ = if (if u = t then n else zSz v u) = 0 then 0 else zLn (if u = t then f else zKd v u) (if u = t then n else zSz v u)
    by_cases q : u = t
    · rw [if_pos q, if_pos q, if_pos q]
      by_cases w : n = 0
      · rw [if_pos w]; exact h0 w
      · rw [if_neg w]; exact h1 w
    · rw [if_neg q, if_neg q, if_neg q, h.1 u hu]; rfl
  · have e := h.2.2.2.2 k hk
    refine ⟨?_, e.2⟩
    show _ = zLe 1 (if 6 + k = t then n else zSz v (6 + k)) (if 6 + k = t then f else zKd v (6 + k))
    rw [if_neg (by omega), if_neg (by omega)]
    exact e.1
theorem zR_same {t x : Nat} (h : zRel v rr bb gg ee cc) (ht : t < 6) (hx : x = zRn v t) : zRel v (zun rr t x) bb gg ee cc := by
  refine ⟨fun u hu => ?_, h.2.1, h.2.2.1, h.2.2.2.1, h.2.2.2.2⟩
  unfold zun
  by_cases q : u = t
  · rw [if_pos q, hx, q]
  · rw [if_neg q, h.1 u hu]
theorem zR_bx {bx bb' : Nat → Int32} (h : zRel v rr bb gg ee cc) (e1 : ∀ k, 1 ≤ k → k ≤ 5 → bb' (k - 1) = bx k) (e2 : ∀ k, 1 ≤ k → k ≤ 5 → bb' (4 + k) = bb (4 + k)) : zRel (zsBx v bx) rr bb' gg ee cc :=
  ⟨h.1, fun k h1 h2 => ⟨e1 k h1 h2, (e2 k h1 h2).trans (h.2.1 k h1 h2).2⟩, h.2.2.1, h.2.2.2.1, h.2.2.2.2⟩
theorem zR_b1 {k0 : Nat} {x : Int32} (h : zRel v rr bb gg ee cc) (hk : 1 ≤ k0 ∧ k0 ≤ 5) : zRel (zsBx v (upd (zBx v) k0 x)) rr (upd bb (k0 - 1) x) gg ee cc := by
  refine zR_bx h (fun k h1 h2 => ?_) (fun k h1 h2 => if_neg (by omega))
  unfold upd
  by_cases q : k = k0
  · rw [if_pos (by omega), if_pos q]
  · rw [if_neg (by omega), if_neg q]; exact (h.2.1 k h1 h2).1
theorem zR_b0 {k0 : Nat} {x : Int32} (h : zRel v rr bb gg ee cc) (hk : 1 ≤ k0 ∧ k0 ≤ 5) (hx : x = zBx v k0) : zRel v rr (upd bb (k0 - 1) x) gg ee cc := by
  refine ⟨h.1, fun k h1 h2 => ⟨?_, ?_⟩, h.2.2.1, h.2.2.2.1, h.2.2.2.2⟩
  · unfold upd
    by_cases q : k = k0
    · rw [if_pos (by omega), hx, q]
    · rw [if_neg (by omega)]; exact (h.2.1 k h1 h2).1
  · unfold upd
    rw [if_neg (by omega)]; exact (h.2.1 k h1 h2).2
theorem zR_w1 {k0 : Nat} {x : Int32} (h : zRel v rr bb gg ee cc) (hk : 1 ≤ k0 ∧ k0 ≤ 5) : zRel (zsWt v (upd (zWt v) k0 x)) rr (upd bb (4 + k0) x) gg ee cc := by
  refine ⟨h.1, fun k h1 h2 => ⟨?_, ?_⟩, h.2.2.1, h.2.2.2.1, h.2.2.2.2⟩
  · unfold upd
    rw [if_neg (by omega)]; exact (h.2.1 k h1 h2).1
  · show _ = upd (zWt v) k0 x k
    unfold upd
    by_cases q : k = k0
    · rw [if_pos (by omega), if_pos q]
    · rw [if_neg (by omega), if_neg q]; exact (h.2.1 k h1 h2).2
theorem zR_mo {ml : Nat} {sg gg' : Nat → Int32} (h : zRel v rr bb gg ee cc) (e1 : gg' 6 = nI ml) (e2 : ∀ k, k < ml → gg' k = sg k) : zRel (zsMo v ml sg) rr bb gg' ee cc :=
  ⟨h.1, h.2.1, e1, e2, h.2.2.2.2⟩
theorem zR_g0 {gg' : Nat → Int32} (h : zRel v rr bb gg ee cc) (e1 : gg' 6 = nI (zMl v)) (e2 : ∀ k, k < zMl v → gg' k = zSg v k) : zRel v rr bb gg' ee cc :=
  ⟨h.1, h.2.1, e1, e2, h.2.2.2.2⟩
theorem zR_tm {en x : Nat} (h : zRel v rr bb gg ee cc) (_ : en < zNl v) (hx : x = zLe 1 (zSz v (6 + en)) (zKd v (6 + en))) : zRel (zsTm v (upd (zTm v) en (zTm v en + nI 1))) rr bb gg (zun ee en x) (upd cc en (cc en + nI 1)) := by
  refine ⟨h.1, h.2.1, h.2.2.1, h.2.2.2.1, fun k hk => ?_⟩
  have e := h.2.2.2.2 k hk
  refine ⟨?_, ?_⟩
  · unfold zun
    by_cases q : k = en
    · rw [if_pos q, hx, q]; rfl
    · rw [if_neg q]; exact e.1
  · show _ = upd (zTm v) en (zTm v en + nI 1) k
    unfold upd
    by_cases q : k = en
    · subst q; rw [if_pos rfl, if_pos rfl, e.2]
    · rw [if_neg q, if_neg q]; exact e.2
theorem zR_nl {n x : Nat} {f : Nat → Int32} (h : zRel v rr bb gg ee cc) (hx : x = zLe 1 n f) : zRel (zsTm (zsNl (zsRg v (6 + zNl v) n f) (zNl v + 1)) (upd (upd (zTm v) (zNl v) (nI 0)) (zNl v) ((upd (zTm v) (zNl v) (nI 0)) (zNl v) + nI 1))) rr bb gg (zun ee (zNl v) x) (upd cc (zNl v) (nI 1)) := by
  refine ⟨fun u hu => ?_, h.2.1, h.2.2.1, h.2.2.2.1, fun k hk => ?_⟩
  · rw [h.1 u hu]
    unfold zRn
    show _ = if (if u = 6 + zNl v then n else zSz v u) = 0 then 0 else zLn (if u = 6 + zNl v then f else zKd v u) (if u = 6 + zNl v then n else zSz v u)
    rw [if_neg (show ¬ u = 6 + zNl v by omega), if_neg (show ¬ u = 6 + zNl v by omega)]
  · have hk : k < zNl v + 1 := hk
    refine ⟨?_, ?_⟩
    · show _ = zLe 1 (if 6 + k = 6 + zNl v then n else zSz v (6 + k)) (if 6 + k = 6 + zNl v then f else zKd v (6 + k))
      unfold zun
      by_cases q : k = zNl v
      · rw [if_pos q, if_pos (by omega), if_pos (by omega)]; exact hx
      · rw [if_neg q, if_neg (by omega), if_neg (by omega)]; exact (h.2.2.2.2 k (by omega)).1
    · show _ = upd (upd (zTm v) (zNl v) (nI 0)) (zNl v) (upd (zTm v) (zNl v) (nI 0) (zNl v) + nI 1) k
      unfold upd
      by_cases q : k = zNl v
      · rw [if_pos q, if_pos q, if_pos rfl]; rfl
      · rw [if_neg q, if_neg q, if_neg q]; exact (h.2.2.2.2 k (by omega)).2
end ZREL
/-- the lowest free number, -1 if there is none -/
def zfm (x : Nat) : Int32 := if x = 6 then -1 else nI x
theorem zfm_6 {x : Nat} (h : x = 6) : zfm x = -1 := if_pos h
theorem zfm_n {x : Nat} (h : x < 6) : zfm x = nI x := if_neg (by omega)
/-- 5 down to 0, then -1 -/
def zdn (j : Nat) : Int32 := if j = 6 then -1 else nI (5 - j)
theorem zdn_6 : zdn 6 = -1 := rfl
theorem zdn_n {j : Nat} (h : j < 6) : zdn j = nI (5 - j) := if_neg (by omega)
theorem zdn_s {j : Nat} (h : j < 6) : nI (5 - j) + Int32.ofInt (-1) = zdn (j + 1) := by
  rcases (show j = 0 ∨ j = 1 ∨ j = 2 ∨ j = 3 ∨ j = 4 ∨ j = 5 by omega) with rfl | rfl | rfl | rfl | rfl | rfl <;> decide
theorem zfd_y {sz : Nat → Nat} {j : Nat} (hj : j < 6) (h : sz (5 - j) = 0) : nI (5 - j) = zfm (zfd sz (j + 1)) := by
  have e : zfd sz (j + 1) = 5 - j := if_pos h
  rw [e, zfm_n (by omega)]
theorem zfd_n {sz : Nat → Nat} {j : Nat} (h : ¬ sz (5 - j) = 0) : zfm (zfd sz j) = zfm (zfd sz (j + 1)) := by
  have e : zfd sz (j + 1) = zfd sz j := if_neg h
  rw [e]
/-- charms come out of the box, and go back into it, in the law's row -/
def zcs (bb : Nat → Int32) (q : Nat → Nat) (j : Nat) : Nat → Int32 := fun t => if t < j then bb t - nI (q (t + 1)) else bb t
def zca (bb : Nat → Int32) (q : Nat → Nat) (j : Nat) : Nat → Int32 := fun t => if t < j then bb t + nI (q (t + 1)) else bb t
theorem zcs_0 (bb : Nat → Int32) (q : Nat → Nat) : bb = zcs bb q 0 := by funext t; unfold zcs; rw [if_neg (by omega)]
theorem zca_0 (bb : Nat → Int32) (q : Nat → Nat) : bb = zca bb q 0 := by funext t; unfold zca; rw [if_neg (by omega)]
theorem zcs_s (bb : Nat → Int32) (q : Nat → Nat) (j : Nat) : upd (zcs bb q j) j (zcs bb q j j - nI (q (j + 1))) = zcs bb q (j + 1) := by
  funext t
  unfold upd zcs
  by_cases h : t = j
  · subst h; rw [if_pos rfl, if_neg (by omega), if_pos (by omega)]
  · rw [if_neg h]
    by_cases h2 : t < j
    · rw [if_pos h2, if_pos (by omega)]
    · rw [if_neg h2, if_neg (by omega)]
theorem zca_s (bb : Nat → Int32) (q : Nat → Nat) (j : Nat) : upd (zca bb q j) j (zca bb q j j + nI (q (j + 1))) = zca bb q (j + 1) := by
  funext t
  unfold upd zca
  by_cases h : t = j
  · subst h; rw [if_pos rfl, if_neg (by omega), if_pos (by omega)]
  · rw [if_neg h]
    by_cases h2 : t < j
    · rw [if_pos h2, if_pos (by omega)]
    · rw [if_neg h2, if_neg (by omega)]
theorem zR_to {v : zS} {rr : Nat → Nat} {bb gg : Nat → Int32} {ee : Nat → Nat} {cc : Nat → Int32} {q : Nat → Nat} (h : zRel v rr bb gg ee cc) : zRel (zsBx v (zto (zBx v) q 5)) rr (zcs bb q 5) gg ee cc := by
  refine zR_bx h (fun k h1 h2 => ?_) (fun k h1 h2 => if_neg (by omega))
  unfold zcs zto
  rw [if_pos (by omega), if_pos ⟨h1, by omega⟩, show k - 1 + 1 = k by omega, (h.2.1 k h1 h2).1]
theorem zR_ti {v : zS} {rr : Nat → Nat} {bb gg : Nat → Int32} {ee : Nat → Nat} {cc : Nat → Int32} {q : Nat → Nat} (h : zRel v rr bb gg ee cc) : zRel (zsBx v (zti (zBx v) q 5)) rr (zca bb q 5) gg ee cc := by
  refine zR_bx h (fun k h1 h2 => ?_) (fun k h1 h2 => if_neg (by omega))
  unfold zca zti
  rw [if_pos (by omega), if_pos ⟨h1, by omega⟩, show k - 1 + 1 = k by omega, (h.2.1 k h1 h2).1]
/-- signs of the least form, laid into the law's row -/
def zgs (gg q : Nat → Int32) (sn t : Nat) : Nat → Int32 := fun k => if k < t then q k else if k = 6 ∧ 0 < t then nI sn else gg k
theorem zgs_0 (gg q : Nat → Int32) (sn : Nat) : gg = zgs gg q sn 0 := by funext k; unfold zgs; rw [if_neg (by omega), if_neg (by omega)]
theorem zgs_s {gg q : Nat → Int32} {sn t : Nat} (h : t < 6) : upd (upd (zgs gg q sn t) t (q t)) 6 (nI sn) = zgs gg q sn (t + 1) := by
  funext k
  unfold upd zgs
  by_cases h6 : k = 6
  · rw [if_pos h6, if_neg (by omega), if_pos ⟨h6, by omega⟩]
  · rw [if_neg h6]
    by_cases h2 : k = t
    · rw [if_pos h2, if_pos (by omega), h2]
    · rw [if_neg h2]
      by_cases h3 : k < t
      · rw [if_pos h3, if_pos (by omega)]
      · rw [if_neg h3, if_neg (by omega), if_neg (by omega), if_neg (by omega)]
theorem zgs_6 {gg q : Nat → Int32} {sn t : Nat} (h : t ≤ 6) (h0 : 0 < t) : zgs gg q sn t 6 = nI sn := by
  unfold zgs
  rw [if_neg (by omega), if_pos ⟨rfl, h0⟩]
theorem zgs_k {gg q : Nat → Int32} {sn t k : Nat} (h : k < t) : zgs gg q sn t k = q k := if_pos h
/-- the law's first box and weights -/
def zb1 (j : Nat) : Nat → Int32 := fun t => if t < j then nI 12 else if 5 ≤ t ∧ t < 5 + j then nI (2 * (t - 5) + 2) else 0
theorem zb1_0 : (fun _ => (0 : Int32)) = zb1 0 := by funext t; unfold zb1; rw [if_neg (by omega), if_neg (by omega)]
theorem zb1_s {j : Nat} (hj : j < 5) : upd (upd (zb1 j) j (nI 12)) (5 + j) (nI (2 * j + 2)) = zb1 (j + 1) := by
  funext t
  unfold upd zb1
  by_cases h1 : t = 5 + j
  · rw [if_pos h1, if_neg (by omega), if_pos (by omega), show t - 5 = j by omega]
  · rw [if_neg h1]
    by_cases h2 : t = j
    · rw [if_pos h2, if_pos (by omega)]
    · rw [if_neg h2]
      by_cases h3 : t < j
      · rw [if_pos h3, if_pos (by omega)]
      · rw [if_neg h3, if_neg (show ¬ t < j + 1 by omega)]
        by_cases h4 : 5 ≤ t ∧ t < 5 + j
        · rw [if_pos h4, if_pos (by omega)]
        · rw [if_neg h4, if_neg (by omega)]
theorem zRel_0 : zRel zv0 (fun _ => 0) (zb1 5) (fun _ => 0) (fun _ => 0) (fun _ => 0) := by
  refine ⟨fun t ht => rfl, fun k h1 h2 => ?_, rfl, fun k hk => absurd hk (Nat.not_lt_zero k), fun k hk => absurd hk (Nat.not_lt_zero k)⟩
  rcases (show k = 1 ∨ k = 2 ∨ k = 3 ∨ k = 4 ∨ k = 5 by omega) with rfl | rfl | rfl | rfl | rfl <;> exact ⟨rfl, rfl⟩
theorem zLn_zz {w : Nat} (h : zsz4 w) : 7 * 2 ^ (3 * w) = zLn (fun _ => 0) w := by
  rcases h with rfl | rfl | rfl | rfl <;> decide +kernel
theorem zsg_6 {gg : Nat → Int32} {at9 ml : Nat} {x : Int32} (h : gg 6 = nI ml) (h2 : at9 < 6) : upd gg at9 x 6 = nI ml := (if_neg (by omega)).trans h
theorem zsg_a2 {f : Nat → Int32} {at9 ml : Nat} (h : at9 = ml) : upd f 6 (nI (at9 + 1)) 6 = nI (ml + 1) := by rw [h]; exact if_pos rfl
theorem zsg_b {gg sg : Nat → Int32} {at9 ml : Nat} {x z : Int32} (h : ∀ k, k < ml → gg k = sg k) (h1 : at9 = ml) (h2 : at9 < 6) : ∀ k, k < ml + 1 → upd (upd gg at9 x) 6 z k = upd sg ml x k := by
  intro k hk
  subst h1
  unfold upd
  rw [if_neg (by omega)]
  by_cases q : k = at9
  · rw [if_pos q, if_pos q]
  · rw [if_neg q, if_neg q]; exact h k (by omega)
theorem zsg_d {gg sg : Nat → Int32} {at9 ml : Nat} {x z : Int32} (h : ∀ k, k < ml → gg k = sg k) (h1 : at9 < ml) (h2 : ml ≤ 6) : ∀ k, k < ml → upd (upd gg at9 x) 6 z k = upd sg at9 x k := by
  intro k hk
  unfold upd
  rw [if_neg (by omega)]
  by_cases q : k = at9
  · rw [if_pos q, if_pos q]
  · rw [if_neg q, if_neg q]; exact h k hk
theorem zgs_z {gg q : Nat → Int32} {sn t : Nat} (h : t = 0) : zgs gg q sn t = gg := by rw [h]; exact (zgs_0 gg q sn).symm
