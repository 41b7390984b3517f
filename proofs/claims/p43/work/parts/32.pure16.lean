/-! the model's answers: small words -/
theorem zRep_bx1 {z : Nat → Int32} {v : zS} {j : Nat} {x : Int32} (hok : zOkB v) (hj : 1 ≤ j ∧ j ≤ 5) (h : zRep z v) : zRep (upd z (0 + j - 1) x) (zsBx v (upd (zBx v) j x)) := by
  refine zRep_bx hok (fun q a b => if_neg (by omega)) (fun t a b => ?_) h
  show (if 0 + t - 1 = 0 + j - 1 then x else z (0 + t - 1)) = (if t = j then x else zBx v t)
  by_cases q : t = j
  · rw [if_pos (by omega), if_pos q]
  · rw [if_neg (by omega), if_neg q]; exact h.1 t a b
theorem zRep_wt1 {z : Nat → Int32} {v : zS} {j : Nat} {x : Int32} (hok : zOkB v) (hj : 1 ≤ j ∧ j ≤ 5) (h : zRep z v) : zRep (upd z (5 + j - 1) x) (zsWt v (upd (zWt v) j x)) := by
  refine zRep_wt hok (fun q a b => if_neg (by omega)) (fun t a b => ?_) h
  show (if 5 + t - 1 = 5 + j - 1 then x else z (5 + t - 1)) = (if t = j then x else zWt v t)
  by_cases q : t = j
  · rw [if_pos (by omega), if_pos q]
  · rw [if_neg (by omega), if_neg q]; exact h.2.1 t a b
theorem zmr_1 {z : Nat → Int32} {r n j : Nat} {f : Nat → Int32} {x : Int32} (h : zmr z r n f) : zmr (upd z (10 + 17 * r + 1 + j) x) r n (upd f j x) := by
  refine ⟨?_, fun s hs => ?_⟩
  · show (if 10 + 17 * r = _ then _ else _) = _
    rw [if_neg (by omega)]; exact h.1
  · show (if 10 + 17 * r + 1 + s = _ then _ else _) = (if s = j then x else f s)
    by_cases q : s = j
    · rw [if_pos (by omega), if_pos q]
    · rw [if_neg (by omega), if_neg q]; exact h.2 s hs
theorem zRep_rg1 {z : Nat → Int32} {v : zS} {r j : Nat} {x : Int32} (hok : zOkB v) (hr : r < 6) (hj : j < zSz v r) (h : zRep z v) : zRep (upd z (10 + 17 * r + 1 + j) x) (zsRg v r (zSz v r) (upd (zKd v r) j x)) := by
  have h16 := hok.1 r hr
  exact zRep_rg hok hr (fun q a b => if_neg (by omega)) (zmr_1 (h.2.2.1 r hr)) h
theorem zRep_to {z f : Nat → Int32} {v : zS} {n : Nat} (hok : zOkB v) (hk : ∀ s, s < n → zk (f s)) (h : zRep z v) : zRep (zmv z f (-1) n) (zsBx v (zto (zBx v) (fun t => zcn f (nI t) n) 5)) := by
  refine zRep_bx hok (fun q a b => zmv_o hk a) (fun t a b => ?_) h
  rw [zmv_b hk a b, h.1 t a b]
  show _ = (if 1 ≤ t ∧ t < 5 + 1 then zBx v t - nI (zcn f (nI t) n) else zBx v t)
  rw [if_pos ⟨a, by omega⟩, Int32.sub_eq_add_neg, Int32.neg_mul, Int32.one_mul]
theorem zRep_ti {z f : Nat → Int32} {v : zS} {n : Nat} (hok : zOkB v) (hk : ∀ s, s < n → zk (f s)) (h : zRep z v) : zRep (zmv z f (nI 1) n) (zsBx v (zti (zBx v) (fun t => zcn f (nI t) n) 5)) := by
  refine zRep_bx hok (fun q a b => zmv_o hk a) (fun t a b => ?_) h
  rw [zmv_b hk a b, h.1 t a b]
  show _ = (if 1 ≤ t ∧ t < 5 + 1 then zBx v t + nI (zcn f (nI t) n) else zBx v t)
  rw [if_pos ⟨a, by omega⟩, show nI 1 = (1 : Int32) from rfl, Int32.one_mul]
theorem zRep_wr {z g : Nat → Int32} {v : zS} {r : Nat} (hok : zOkB v) (hr : r < 6) (h : zRep z v) : zRep (zwr z r g (zSz v r)) (zsRg v r (zSz v r) (zpm g (zKd v r) (zSz v r))) := by
  have h16 := hok.1 r hr
  have h9 := zwr_r (g := g) (h.2.2.1 r hr).1
  exact zRep_rg hok hr (fun q a b => zwr_o h16 a) ⟨h9.1, fun s hs => by rw [h9.2 s hs]; unfold zpm; rw [if_pos hs]⟩ h
theorem zmr_xc {z : Nat → Int32} {r n x y : Nat} {f : Nat → Int32} (h : zmr z r n f) (hx : x < n) (hy : y < n) : zmr (upd (upd z (10 + 17 * r + 1 + x) (z (10 + 17 * r + 1 + y))) (10 + 17 * r + 1 + y) (z (10 + 17 * r + 1 + x))) r n (zxc f x y) := by
  rw [h.2 x hx, h.2 y hy]
  exact zmr_1 (zmr_1 h)
theorem zRep_xc {z : Nat → Int32} {v : zS} {r x y : Nat} (hok : zOkB v) (hr : r < 6) (hx : x < zSz v r) (hy : y < zSz v r) (h : zRep z v) : zRep (upd (upd z (10 + 17 * r + 1 + x) (z (10 + 17 * r + 1 + y))) (10 + 17 * r + 1 + y) (z (10 + 17 * r + 1 + x))) (zsRg v r (zSz v r) (zxc (zKd v r) x y)) := by
  have h16 := hok.1 r hr
  refine zRep_rg hok hr (fun q a b => ?_) (zmr_xc (h.2.2.1 r hr) hx hy) h
  show (if q = _ then _ else if q = _ then _ else z q) = z q
  rw [if_neg (by omega), if_neg (by omega)]
theorem zex_2 (z : Nat → Int32) (a b : Nat) : upd (upd (upd (upd z a (z b)) b (z a)) a (upd (upd z a (z b)) b (z a) b)) b (upd (upd z a (z b)) b (z a) a) = z := by
  funext k
  unfold upd
  by_cases h1 : k = b
  · subst h1
    rw [if_pos rfl]
    by_cases h2 : a = k
    · subst h2; rw [if_pos rfl]
    · rw [if_neg h2, if_pos rfl]
  · rw [if_neg h1]
    by_cases h2 : k = a
    · subst h2; rw [if_pos rfl, if_pos rfl]
    · rw [if_neg h2, if_neg h1, if_neg h2]
theorem zup_2 (z : Nat → Int32) (i : Nat) (x : Int32) : upd (upd z i x) i (z i) = z := by
  funext k
  unfold upd
  by_cases h : k = i
  · rw [if_pos h, h]
  · rw [if_neg h, if_neg h]
theorem zup_o {z : Nat → Int32} {i k : Nat} {x : Int32} (h : k ≠ i) : upd z i x k = z k := if_neg h
theorem zfi_n {v : Nat} (h : v < 6) : zfi v = nI v := by unfold zfi; rw [if_neg (by omega)]
theorem zn6 {v : Nat} (h : v < 6) : ¬ nI v = -6 := (by decide : ∀ v : Nat, v < 6 → ¬ nI v = -6) v h
theorem zset_z {p : Nat → Bool} {i : Nat} (h : p i = false) : zset p i ||| nI 0 = zset p (i + 1) := by
  rw [← zset_f h]
  exact Int32.or_zero
theorem zqs_add (wt f : Nat → Int32) (a x : Nat) : ∀ y, zqs wt f a (x + y) = zqs wt f a x + zqs wt f (a + x) y
  | 0 => by show zqs wt f a x = zqs wt f a x + 0; rw [Int32.add_zero]
  | y + 1 => by
    show zqs wt f a (x + y) + zw wt f (a + (x + y)) = zqs wt f a x + (zqs wt f (a + x) y + zw wt f (a + x + y))
    rw [zqs_add wt f a x y, Int32.add_assoc, Nat.add_assoc]
theorem zqs_4 {wt f : Nat → Int32} {n : Nat} (h4 : n % 4 = 0) : zqw wt n f 0 + zqw wt n f 1 + zqw wt n f 2 + zqw wt n f 3 = zqs wt f 0 n := by
  rw [zqw_4 h4, zqw_4 h4, zqw_4 h4, zqw_4 h4]
  obtain ⟨m, hm⟩ : ∃ m, n = m + m + m + m := ⟨n / 4, by omega⟩
  rw [show n / 4 = m by omega, hm, zqs_add, zqs_add, zqs_add]
  rw [show 0 * m = 0 by omega, show 1 * m = 0 + m by omega, show 2 * m = 0 + (m + m) by omega, show 3 * m = 0 + (m + m + m) by omega]
theorem zin_m1 (x : Int32) : zin x 0 4294967295 = false := decide_eq_false fun q => by
  have h1 := Int32.le_iff_toInt_le.mp q.1
  have h2 := Int32.le_iff_toInt_le.mp q.2
  have e1 : (nI 0).toInt = 0 := rfl
  have e2 : (nI 4294967295).toInt = -1 := by decide
  omega
/-- the image is another one than all before -/
def zne (n : Nat) (f : Nat → Int32) (lv i : Nat) : Nat → Bool := zall (fun u => decide (¬ zdx (zimg n f (zchg lv i n)) (zimg n f (zchg lv u n)) n = 0))
theorem zmn_l {F : Nat → Nat} {a i : Nat} (h : zmn F a i ≤ F i) : zmn F a i = zmn F a (i + 1) := by show _ = min _ _; omega
theorem zmn_r {F : Nat → Nat} {a i : Nat} (h : F i < zmn F a i) : F i = zmn F a (i + 1) := by show _ = min _ _; omega
theorem zmn_16 {F : Nat → Nat} {a b : Nat} (h : F 0 ≤ a ∧ F 0 ≤ b) : ∀ k, zmn F a (k + 1) = zmn F b (k + 1)
  | 0 => by show min a (F 0) = min b (F 0); omega
  | k + 1 => by show min (zmn F a (k + 1)) _ = min (zmn F b (k + 1)) _; rw [zmn_16 h k]
/-- a slot's bit is set behind all quarter turns so far -/
def zsta (S : Int32) (n s : Nat) : Nat → Bool := zall (fun q => decide (S >>> (nI ((s + q * n / 4) % n) &&& 31) &&& nI 1 = nI 1))
theorem zall_f1 {p : Nat → Bool} {i : Nat} (h : zall p i = false) : zall p (i + 1) = false := by show (zall p i && p i) = false; rw [h]; rfl
theorem zall_f2 {p : Nat → Bool} {i : Nat} (h : p i = false) : zall p (i + 1) = false := zall_no (Nat.lt_succ_self i) h
/-- signs are laid -/
def zsw (z g : Nat → Int32) (u : Nat) : Nat → Int32 := fun k => if 113 ≤ k ∧ k < 113 + u then g (k - 113) else z k
theorem zsw_0 (z g : Nat → Int32) : zsw z g 0 = z := by funext k; unfold zsw; rw [if_neg (by omega)]
theorem zsw_s (z g : Nat → Int32) (u : Nat) : upd (zsw z g u) (113 + u) (g u) = zsw z g (u + 1) := by
  funext k
  unfold upd zsw
  by_cases h : k = 113 + u
  · subst h; rw [if_pos rfl, if_pos (by omega)]; exact congrArg g (by omega)
  · rw [if_neg h]
    by_cases h2 : 113 ≤ k ∧ k < 113 + u
    · rw [if_pos h2, if_pos (by omega)]
    · rw [if_neg h2, if_neg (by omega)]
theorem zsw_o {z g : Nat → Int32} {u k : Nat} (h : k < 113 ∨ 113 + u ≤ k) : zsw z g u k = z k := if_neg (by omega)
theorem zmr_sw {z g : Nat → Int32} {u r n : Nat} {f : Nat → Int32} (hr : r < 6) (hn : n ≤ 16) (h : zmr z r n f) : zmr (zsw z g u) r n f :=
  ⟨by rw [zsw_o (by omega)]; exact h.1, fun s hs => by rw [zsw_o (by omega)]; exact h.2 s hs⟩
theorem zmr_o {z z' : Nat → Int32} {r n : Nat} {f : Nat → Int32} (hr : r < 6) (hn : n ≤ 16) (e : ∀ k, 10 ≤ k → k < 112 → z' k = z k) (h : zmr z r n f) : zmr z' r n f :=
  ⟨by rw [e _ (by omega) (by omega)]; exact h.1, fun s hs => by rw [e _ (by omega) (by omega)]; exact h.2 s hs⟩
/-- an entry's row is laid -/
def zew (z g : Nat → Int32) (b n u : Nat) : Nat → Int32 := fun k => if b ≤ k ∧ k < b + u then (if k - b < n then g (k - b) else 0) else z k
theorem zew_0 (z g : Nat → Int32) (b n : Nat) : zew z g b n 0 = z := by funext k; unfold zew; rw [if_neg (by omega)]
theorem zew_s {z g : Nat → Int32} {b n u : Nat} {x : Int32} (hx : x = if u < n then g u else 0) : upd (zew z g b n u) (b + u) x = zew z g b n (u + 1) := by
  funext k
  unfold upd zew
  by_cases h : k = b + u
  · subst h; rw [if_pos rfl, if_pos (by omega), show b + u - b = u by omega]; exact hx
  · rw [if_neg h]
    by_cases h2 : b ≤ k ∧ k < b + u
    · rw [if_pos h2, if_pos (show b ≤ k ∧ k < b + (u + 1) by omega)]
    · rw [if_neg h2, if_neg (by omega)]
/-- copied from another array -/
def zcp (z past : Nat → Int32) (b u : Nat) : Nat → Int32 := fun k => if k < u then past (b + k) else z k
theorem zcp_0 (z past : Nat → Int32) (b : Nat) : zcp z past b 0 = z := by funext k; unfold zcp; rw [if_neg (by omega)]
theorem zcp_s (z past : Nat → Int32) (b u : Nat) : upd (zcp z past b u) u (past (b + u)) = zcp z past b (u + 1) := by
  funext k
  unfold upd zcp
  by_cases h : k = u
  · subst h; rw [if_pos rfl, if_pos (by omega)]
  · rw [if_neg h]
    by_cases h2 : k < u
    · rw [if_pos h2, if_pos (by omega)]
    · rw [if_neg h2, if_neg (by omega)]
theorem zct_ps (sz : Nat → Nat) (n : Nat) : zct (fun b => decide (0 < sz b)) n = zct (fun t => decide (sz t ≠ 0)) n :=
  zct_cong fun i _ => decide_eq_decide.mpr (by omega)
/-- a ring is of an entry's class, as the model says it -/
def zis (m : Nat) (g : Nat → Int32) (n : Nat) (f : Nat → Int32) : Bool := decide (m = n) && zall (fun s => decide (zimg n f (zls n f 1) s = zimg m g (zls m g 1) s)) n
theorem zdist {n i : Nat} {f g : Nat → Int32} (hn : 0 < n ∧ n ≤ 16) (hi : i = znc 2 n) : (some (Value.int (nI (zmd n f g 2 (znc 2 n)))) : Option Value) = some (.int (nI (zmn (fun u9 => zdf n f (zchg 2 u9 n) g) 16 i))) := by
  obtain ⟨k9, hk9⟩ : ∃ k9, znc 2 n = k9 + 1 := ⟨znc 2 n - 1, by have := znc_pos (lv := 2) hn.1; omega⟩
  rw [hi, hk9]
  have e := zmn_16 (F := fun u9 => zdf n f (zchg 2 u9 n) g) (a := n) (b := 16) ⟨zdf_le _ _ _ _, Nat.le_trans (zdf_le _ _ _ _) hn.2⟩ k9
  show some (Value.int (nI (zmn (fun u9 => zdf n f (zchg 2 u9 n) g) n (k9 + 1)))) = _
  rw [e]
