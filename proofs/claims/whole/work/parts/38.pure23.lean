theorem zew_o {z g : Nat → Int32} {b n u k : Nat} (h : k < b ∨ b + u ≤ k) : zew z g b n u k = z k := if_neg (by omega)
theorem zmr_ew {z g : Nat → Int32} {b n u r m : Nat} {f : Nat → Int32} {x : Int32} (hr : r < 6) (hm : m ≤ 16) (hb : 120 ≤ b) (h : zmr z r m f) : zmr (zew (upd z b x) g (b + 1) n u) r m f :=
  zmr_o hr hm (fun k a c => (zew_o (Or.inl (by omega))).trans (zup_o (by omega))) h
theorem zRep_n3 {z : Nat → Int32} {v : zS} {n : Nat} {f : Nat → Int32} (hok : zOkB v) (hl : zNl v < 10) (hn : n ≤ 16) (h : zRep z v) :
    zRep (upd (upd (upd (zew (upd z (120 + 18 * zNl v) (nI n)) (zimg n f (zls n f 1)) (120 + 18 * zNl v + 1) n 16) (120 + 18 * zNl v + 17) (nI 0)) 119 (nI (zNl v + 1))) (120 + 18 * zNl v + 17) (nI (0 + 1))) (zsTm (zsNl (zsRg v (6 + zNl v) n f) (zNl v + 1)) (upd (zTm v) (zNl v) (nI 1))) := by
  generalize hb : 120 + 18 * zNl v = b
  have hne : ∀ k, k ≠ b + 17 → k ≠ 119 → upd (upd (upd (zew (upd z b (nI n)) (zimg n f (zls n f 1)) (b + 1) n 16) (b + 17) (nI 0)) 119 (nI (zNl v + 1))) (b + 17) (nI (0 + 1)) k = zew (upd z b (nI n)) (zimg n f (zls n f 1)) (b + 1) n 16 k := fun k h1 h2 =>
    (zup_o h1).trans ((zup_o h2).trans (zup_o h1))
  refine zRep_nl hok hl hn (fun q a c => ?_) ?_ ?_ (fun s hs => ?_) ?_ h
  · have a2 : q ≠ b + 17 ∧ q ≠ 119 ∧ (q < b + 1 ∨ b + 1 + 16 ≤ q) ∧ q ≠ b := by
      rcases a with a | ⟨-, a⟩ | a
      · omega
      · exact a.elim
      · omega
    rw [hne q a2.1 a2.2.1]
    exact (zew_o a2.2.2.1).trans (zup_o a2.2.2.2)
  · exact (zup_o (show 119 ≠ b + 17 by omega)).trans zup_s
  · rw [hb, hne b (by omega) (by omega)]
    exact (zew_o (show b < b + 1 ∨ b + 1 + 16 ≤ b by omega)).trans zup_s
  · rw [hb, hne (b + 1 + s) (by omega) (by omega)]
    unfold zew
    rw [if_pos (show b + 1 ≤ b + 1 + s ∧ b + 1 + s < b + 1 + 16 by omega), show b + 1 + s - (b + 1) = s by omega, if_pos hs]
  · rw [hb]; exact zup_s
