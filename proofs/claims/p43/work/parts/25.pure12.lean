/-! texts -/
abbrev zPs := Nat × Nat × (Nat → Int32)
def zrl (nb : Nat) : Nat := if nb = 0 then 1 else nb
/-- a digit is taken -/
def zdk (tt nb d : Nat) : Bool := decide (10 * nb + d ≠ 0 ∧ tt + (if 10 * nb + d = 1 then 10 else 10 * nb + d) ≤ 16)
/-- a run is taken -/
def zrk (tt nb : Nat) (x : Int32) : Bool := zin x 0 5 && decide (nb ≠ 1 ∧ tt + zrl nb ≤ 16)
def zrn (f : Nat → Int32) (tt i : Nat) (x : Int32) : Nat → Int32 := fun s => if tt ≤ s ∧ s < tt + i then x else f s
theorem zrn_0 (f : Nat → Int32) (tt : Nat) (x : Int32) : zrn f tt 0 x = f := by funext s; unfold zrn; rw [if_neg (by omega)]
theorem zrn_s (f : Nat → Int32) (tt i : Nat) (x : Int32) : upd (zrn f tt i x) (tt + i) x = zrn f tt (i + 1) x := by
  funext s
  unfold upd zrn
  by_cases h : s = tt + i
  · rw [if_pos h, if_pos (by omega)]
  · rw [if_neg h]
    by_cases h2 : tt ≤ s ∧ s < tt + i
    · rw [if_pos h2, if_pos (by omega)]
    · rw [if_neg h2, if_neg (by omega)]
/-- the kind of a code, -1 for none -/
def zkc (w : Nat) : Int32 := if w = 45 then nI 0 else if 97 ≤ w ∧ w ≤ 101 then nI (w - 97 + 1) else -1
def zdg (w : Nat) : Bool := decide (48 ≤ w ∧ w ≤ 57)
/-- one character: is it taken, and what was read then -/
def zpk (s : zPs) (w : Nat) : Bool := if zdg w then zdk s.1 s.2.1 (w - 48) else zrk s.1 s.2.1 (zkc w)
def zps (s : zPs) (w : Nat) : zPs :=
  if zpk s w then (if zdg w then (s.1, 10 * s.2.1 + (w - 48), s.2.2) else (s.1 + zrl s.2.1, 0, zrn s.2.2 s.1 (zrl s.2.1) (zkc w))) else s
def zpf (cw : Nat → Nat) : Nat → zPs
  | 0 => (0, 0, fun _ => 0)
  | i + 1 => zps (zpf cw i) (cw i)
def zpe (cw : Nat → Nat) (i : Nat) : Bool := !zpk (zpf cw i) (cw i)
/-- where the text ends: the first character that is not taken -/
def zpl (cw : Nat → Nat) (ln : Nat) : Nat := zff (zpe cw) ln
/-- the whole is a text -/
def zpt (cw : Nat → Nat) (ln : Nat) : Bool := decide (zpl cw ln = ln ∧ (zpf cw ln).2.1 = 0) && zsz (nI (zpf cw ln).1)
theorem zps_b {s : zPs} {w : Nat} (h : s.1 ≤ 16 ∧ s.2.1 ≤ 16) : (zps s w).1 ≤ 16 ∧ (zps s w).2.1 ≤ 16 := by
  unfold zps
  split
  · rename_i hk
    unfold zpk at hk
    split
    · rename_i hd
      rw [if_pos hd] at hk
      have h9 := of_decide_eq_true hk
      refine ⟨h.1, ?_⟩
      show 10 * s.2.1 + (w - 48) ≤ 16
      have h8 := h9.2
      split at h8 <;> omega
    · rename_i hd
      rw [if_neg hd] at hk
      have h9 := of_decide_eq_true (Bool.and_eq_true_iff.mp hk).2
      exact ⟨h9.2, Nat.zero_le _⟩
  · exact h
theorem zpf_b (cw : Nat → Nat) : ∀ i, (zpf cw i).1 ≤ 16 ∧ (zpf cw i).2.1 ≤ 16
  | 0 => ⟨Nat.zero_le _, Nat.zero_le _⟩
  | i + 1 => zps_b (zpf_b cw i)
theorem zrl_1 {nb : Nat} (h : nb = 0) : nI 1 = nI (zrl nb) := by unfold zrl; rw [if_pos h]
theorem zrl_2 {nb : Nat} (h : ¬ nb = 0) : nI nb = nI (zrl nb) := by unfold zrl; rw [if_neg h]
theorem zrl_3 {nb : Nat} (h : nb ≤ 16) : 1 ≤ zrl nb ∧ zrl nb ≤ 16 := by unfold zrl; split <;> omega
theorem zdk_y {tt nb d l : Nat} (h : ¬ 10 * nb + d = 0) (e : l = if 10 * nb + d = 1 then 10 else 10 * nb + d) (h2 : tt + l ≤ 16) : zdk tt nb d = true := decide_eq_true ⟨h, by rw [← e]; exact h2⟩
theorem zdk_n1 {tt nb d : Nat} (h : 10 * nb + d = 0) : zdk tt nb d = false := decide_eq_false fun q => q.1 h
theorem zdk_n2 {tt nb d l : Nat} (e : l = if 10 * nb + d = 1 then 10 else 10 * nb + d) (h2 : ¬ tt + l ≤ 16) : zdk tt nb d = false := decide_eq_false fun q => h2 (by rw [e]; exact q.2)
theorem zrk_n1 {tt nb : Nat} {x : Int32} (h : zin x 0 5 = false) : zrk tt nb x = false := by unfold zrk; rw [h]; rfl
theorem zrk_n2 {tt nb : Nat} {x : Int32} (h : ¬ (nb ≠ 1 ∧ tt + zrl nb ≤ 16)) : zrk tt nb x = false := by unfold zrk; rw [decide_eq_false h, Bool.and_false]
theorem zrk_y {tt nb : Nat} {x : Int32} (h : zin x 0 5 = true) (h2 : nb ≠ 1 ∧ tt + zrl nb ≤ 16) : zrk tt nb x = true := by unfold zrk; rw [h, decide_eq_true h2]; rfl
/-- the text object with its codes -/
def zTxt (E : zEnv) (t c ln : Nat) (cd : Nat → Int32) (tt nb : Nat) (H : Heap) : Prop := zat E t (.inr (4, [.int (nI ln), .ref c, .int (nI tt), .int (nI nb)])) H ∧ zat E c (.inl (zI E, 60, .inl cd)) H
theorem zpl_is {cw : Nat → Nat} {ln i : Nat} (h : i < ln) (h1 : ∀ j, j < i → zpe cw j = false) (h2 : zpk (zpf cw i) (cw i) = false) : zpl cw ln = i := zff_is h h1 (by unfold zpe; rw [h2]; rfl)
theorem zpl_no {cw : Nat → Nat} {ln : Nat} (h1 : ∀ j, j < ln → zpe cw j = false) : zpl cw ln = ln := zff_no h1
theorem zpe_s {cw : Nat → Nat} {i : Nat} (h1 : ∀ j, j < i → zpe cw j = false) (h2 : zpk (zpf cw i) (cw i) = true) : ∀ j, j < i + 1 → zpe cw j = false := fun j hj => by
  rcases Nat.lt_or_ge j i with q | q
  · exact h1 j q
  · rw [show j = i by omega]; unfold zpe; rw [h2]; rfl
theorem zpk_d {s : zPs} {w : Nat} (h : zdg w = true) : zpk s w = zdk s.1 s.2.1 (w - 48) := by unfold zpk; rw [if_pos h]
theorem zpk_r {s : zPs} {w : Nat} (h : zdg w = false) : zpk s w = zrk s.1 s.2.1 (zkc w) := by unfold zpk; rw [if_neg (by rw [h]; decide)]
theorem zps_d {s : zPs} {w : Nat} (h : zdg w = true) (h2 : zdk s.1 s.2.1 (w - 48) = true) : zps s w = (s.1, 10 * s.2.1 + (w - 48), s.2.2) := by
  unfold zps; rw [if_pos (by rw [zpk_d h]; exact h2), if_pos h]
theorem zps_r {s : zPs} {w : Nat} (h : zdg w = false) (h2 : zrk s.1 s.2.1 (zkc w) = true) : zps s w = (s.1 + zrl s.2.1, 0, zrn s.2.2 s.1 (zrl s.2.1) (zkc w)) := by
  unfold zps; rw [if_pos (by rw [zpk_r h]; exact h2), if_neg (by rw [h]; decide)]
/-- cells of the text and of the trial change -/
theorem zX_tt {E : zEnv} {ad : Nat → Nat} {nw sv : zS} {an : Bool} {hs : Nat → zS} {ct ln : Nat} {cd : Nat → Int32} {π : Nat → Nat} {tn tt nb : Nat} {tf : Nat → Int32} {H H1 : Heap} {ln' n' tt' nb' : Nat} {f' : Nat → Int32} (hi : zInj ad) (hp : zPi π) (h : zCX E ad nw sv an hs ct ln cd π tn tt nb tf H) (e : ∀ q, ¬ (q = ad 289 ∨ q = ad 291 ∨ q = ad 292) → H1[q]? = H[q]?) (hn : zTxt E (ad 289) (ad 290) ln' cd tt' nb' H1) (hn2 : zRing E (ad 291) (ad 292) n' f' H1) : zCX E ad nw sv an hs ct ln' cd π n' tt' nb' f' H1 := by
  obtain ⟨a1, a2, a3, a4, a5, -, -, -, -⟩ := h
  have e : ∀ q, (∀ k, (k = 289 ∨ k = 291 ∨ k = 292) → q ≠ ad k) → H1[q]? = H[q]? := fun q hq => e q (fun z => z.elim (hq 289 (Or.inl rfl)) (fun z => z.elim (hq 291 (Or.inr (Or.inl rfl))) (hq 292 (Or.inr (Or.inr rfl)))))
  have hK : ∀ k, (k = 289 ∨ k = 291 ∨ k = 292) → k < 293 := fun k h => by omega
  exact ⟨zK_st hi (by decide) hK e (fun o _ => by omega) a1, zK_st hi (by decide) hK e (fun o _ => by omega) a2, fun i h => zK_st hi (by have := hp.1 i h; omega) hK e (fun o _ => by have := hp.1 i h; omega) (a3 i h), zK_at hi (by decide) hK e (by decide) a4, zK_at hi (by decide) hK e (by decide) a5, hn.1, hn.2, hn2.1, hn2.2⟩
theorem zdg_b {w : Nat} (h : zdg w = true) : 48 ≤ w ∧ w ≤ 57 := of_decide_eq_true h
theorem zps_n {s : zPs} {w : Nat} (h : zpk s w = false) : zps s w = s := by unfold zps; rw [if_neg (by rw [h]; decide)]
theorem zps_dd {s : zPs} {w : Nat} (h : zdg w = true) : zps s w = (s.1, (if zdk s.1 s.2.1 (w - 48) then 10 * s.2.1 + (w - 48) else s.2.1), s.2.2) := by
  by_cases q : zdk s.1 s.2.1 (w - 48) = true
  · rw [if_pos q, zps_d h q]
  · rw [if_neg q, zps_n (by rw [zpk_d h]; simpa using q)]
theorem zps_rr {s : zPs} {w : Nat} (h : zdg w = false) : zps s w = ((if zrk s.1 s.2.1 (zkc w) then s.1 + zrl s.2.1 else s.1), (if zrk s.1 s.2.1 (zkc w) then 0 else s.2.1), (if zrk s.1 s.2.1 (zkc w) then zrn s.2.2 s.1 (zrl s.2.1) (zkc w) else s.2.2)) := by
  by_cases q : zrk s.1 s.2.1 (zkc w) = true
  · rw [if_pos q, if_pos q, if_pos q, zps_r h q]
  · rw [if_neg q, if_neg q, if_neg q, zps_n (by rw [zpk_r h]; simpa using q)]
theorem zpf_n {cw : Nat → Nat} {i : Nat} (h : zpk (zpf cw i) (cw i) = false) : zpf cw (i + 1) = zpf cw i := zps_n h
theorem zpl_le (cw : Nat → Nat) (ln : Nat) : zpl cw ln ≤ ln := zff_le _ _
theorem zpt_h {cw : Nat → Nat} {ln : Nat} (h : zpt cw ln = true) : zpl cw ln = ln := (of_decide_eq_true (Bool.and_eq_true_iff.mp h).1).1
theorem zpt_l {cw : Nat → Nat} {ln : Nat} (h : zpt cw ln = true) : (decide (ln = ln ∧ (zpf cw ln).2.1 = 0) && zsz (nI (zpf cw ln).1)) = zpt cw ln := by
  unfold zpt; rw [zpt_h h]
theorem zpt_e (cw : Nat → Nat) (ln : Nat) : (decide (zpl cw ln = ln ∧ (zpf cw (zpl cw ln)).2.1 = 0) && zsz (nI (zpf cw (zpl cw ln)).1)) = zpt cw ln := by
  unfold zpt
  by_cases q : zpl cw ln = ln
  · rw [q]
  · rw [decide_eq_false (fun z => q z.1), decide_eq_false (fun z => q z.1)]; rfl
