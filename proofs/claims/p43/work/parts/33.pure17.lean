theorem zi2c {w : Nat} (h : w ≤ 126) : ((nI w).toUInt32 % 65536).toInt32 = nI w := (by decide +kernel : ∀ w : Nat, w < 127 → ((nI w).toUInt32 % 65536).toInt32 = nI w) w (by omega)
theorem zbu_s {buf cd : Nat → Int32} {ln : Nat} {x : Int32} (h : ∀ j, j < ln → buf j = cd j) : ∀ j, j < ln + 1 → upd buf ln x j = upd cd ln x j := fun j hj => by
  unfold upd
  by_cases q : j = ln
  · rw [if_pos q, if_pos q]
  · rw [if_neg q, if_neg q]; exact h j (by omega)
/-- copied from the same places of another array -/
def zcq (z k : Nat → Int32) (u : Nat) : Nat → Int32 := fun j => if j < u then k j else z j
theorem zcq_0 (z k : Nat → Int32) : zcq z k 0 = z := by funext j; unfold zcq; rw [if_neg (by omega)]
theorem zcq_s (z k : Nat → Int32) (u : Nat) : upd (zcq z k u) u (k u) = zcq z k (u + 1) := by
  funext j
  unfold upd zcq
  by_cases h : j = u
  · subst h; rw [if_pos rfl, if_pos (by omega)]
  · rw [if_neg h]
    by_cases h2 : j < u
    · rw [if_pos h2, if_pos (by omega)]
    · rw [if_neg h2, if_neg (by omega)]
theorem zno_s {p : Nat → Bool} {t : Nat} (h : ∀ u, u < t → p u = false) (h2 : p t = false) : ∀ u, u < t + 1 → p u = false := fun u hu => by
  rcases Nat.lt_or_ge u t with q | q
  · exact h u q
  · rw [show u = t by omega]; exact h2
/-- reading a character -/
theorem zkc_0 : zkc 45 = nI 0 := rfl
theorem zkc_1 {w : Nat} (h : 97 ≤ w ∧ w ≤ 101) : zkc w = nI (w - 97 + 1) := by unfold zkc; rw [if_neg (by omega), if_pos h]
theorem zkc_n {w : Nat} (h : w ≠ 45) (h2 : ¬ (97 ≤ w ∧ w ≤ 101)) : zin (zkc w) 0 5 = false := by unfold zkc; rw [if_neg h, if_neg h2]; decide
theorem zrn_e {td f : Nat → Int32} {tm k : Nat} {x : Int32} (h : ∀ j, j < tm → td j = f j) : ∀ j, j < tm + k → zrn td tm k x j = zrn f tm k x j := fun j hj => by
  unfold zrn
  by_cases q : tm ≤ j ∧ j < tm + k
  · rw [if_pos q, if_pos q]
  · rw [if_neg q, if_neg q]; exact h j (by omega)
theorem zps_k {s : zPs} {w : Nat} (h : ∀ j, j < s.1 → zk (s.2.2 j)) : ∀ j, j < (zps s w).1 → zk ((zps s w).2.2 j) := by
  cases q : zdg w with
  | true => rw [zps_dd q]; exact h
  | false =>
    cases q2 : zrk s.1 s.2.1 (zkc w) with
    | false => rw [zps_n (by rw [zpk_r q]; exact q2)]; exact h
    | true =>
      rw [zps_r q q2]
      intro j hj
      show zk (zrn s.2.2 s.1 (zrl s.2.1) (zkc w) j)
      unfold zrn
      by_cases q3 : s.1 ≤ j ∧ j < s.1 + zrl s.2.1
      · rw [if_pos q3]
        obtain ⟨k, -, h5, e⟩ := zin_of (by decide) (Bool.and_eq_true_iff.mp q2).1 (by decide)
        exact ⟨k, h5, e⟩
      · rw [if_neg q3]
        have hj : j < s.1 + zrl s.2.1 := hj
        exact h j (by omega)
theorem zpf_k (cw : Nat → Nat) : ∀ i, ∀ j, j < (zpf cw i).1 → zk ((zpf cw i).2.2 j)
  | 0 => fun j hj => absurd hj (Nat.not_lt_zero j)
  | i + 1 => zps_k (zpf_k cw i)
theorem zn60 {v : Nat} (h : v ≤ 60) : ¬ nI v = -6 := (by decide : ∀ v : Nat, v < 61 → ¬ nI v = -6) v (by omega)
theorem zpt_2 {cw : Nat → Nat} {ln : Nat} (h : zpt cw ln = true) : (zpf cw ln).2.1 = 0 ∧ zsz (nI (zpf cw ln).1) = true := ⟨(of_decide_eq_true (Bool.and_eq_true_iff.mp h).1).2, (Bool.and_eq_true_iff.mp h).2⟩
theorem zpt_f {cw : Nat → Nat} {ln : Nat} (h : zpl cw ln = ln) (h1 : (zpf cw ln).2.1 = 0) (h2 : zsz (nI (zpf cw ln).1) = true) : zpt cw ln = true := by
  unfold zpt; rw [decide_eq_true ⟨h, h1⟩, h2]; rfl
