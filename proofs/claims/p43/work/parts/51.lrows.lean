/-! rows for longs -/
def zun (rr : Nat → Nat) (j x : Nat) : Nat → Nat := fun t => if t = j then x else rr t
theorem zun_s {rr : Nat → Nat} {j x : Nat} : zun rr j x j = x := if_pos rfl
theorem zun_n {rr : Nat → Nat} {j x t : Nat} (h : t ≠ j) : zun rr j x t = rr t := if_neg h
section ZLROW
variable {p : Program} {l : Launch} {e : Env} {R : Room} {s : State} {m : MethodId} {args : Array Value} {below : List Frame} {meth : Method} {c : Code} {H H0 : Heap} {locs : List Loc} {cells slots : Nat} {Q : State → Prop} {cc : ByteArray} {pc : Nat} {ls : Array Slot} {rest : List Value} {E : zEnv} {A : Nat → Prop}
theorem z_lshl (hx : p.tables.exec = Jvm.exec) (hb : c.code = cc) {a k : Nat} (hd : decode cc pc = .ok (.lshl, 1)) (h : k < 64) (kk : W p l e R s m args below meth c H locs cells slots Q (F0 m (pc + 1) ls (.long (lN (a * 2 ^ k)) :: rest))) : W p l e R s m args below meth c H locs cells slots Q (F0 m pc ls (.int (nI k) :: .long (lN a) :: rest)) := lv_lshl hx hb hd (wb_shl a h) kk
theorem z_lshr (hx : p.tables.exec = Jvm.exec) (hb : c.code = cc) {a k : Nat} (hd : decode cc pc = .ok (.lshr, 1)) (h : a < 2 ^ 62 ∧ k < 64) (kk : W p l e R s m args below meth c H locs cells slots Q (F0 m (pc + 1) ls (.long (lN (a / 2 ^ k)) :: rest))) : W p l e R s m args below meth c H locs cells slots Q (F0 m pc ls (.int (nI k) :: .long (lN a) :: rest)) := lv_lshr hx hb hd (zl_shr h.1 h.2) kk
theorem z_land (hx : p.tables.exec = Jvm.exec) (hb : c.code = cc) {a b : Nat} (hd : decode cc pc = .ok (.land, 1)) (h : a < 2 ^ 64 ∧ b < 2 ^ 64) (kk : W p l e R s m args below meth c H locs cells slots Q (F0 m (pc + 1) ls (.long (lN (a &&& b)) :: rest))) : W p l e R s m args below meth c H locs cells slots Q (F0 m pc ls (.long (lN b) :: .long (lN a) :: rest)) := lv_land hx hb hd (z_topl (wb_and h.1 h.2) kk)
theorem z_lor (hx : p.tables.exec = Jvm.exec) (hb : c.code = cc) {a b : Nat} (hd : decode cc pc = .ok (.lor, 1)) (h : a < 2 ^ 64 ∧ b < 2 ^ 64) (kk : W p l e R s m args below meth c H locs cells slots Q (F0 m (pc + 1) ls (.long (lN (a ||| b)) :: rest))) : W p l e R s m args below meth c H locs cells slots Q (F0 m pc ls (.long (lN b) :: .long (lN a) :: rest)) := lv_lor hx hb hd (z_topl (wb_or h.1 h.2) kk)
theorem z_lsub (hx : p.tables.exec = Jvm.exec) (hb : c.code = cc) {a b : Nat} (hd : decode cc pc = .ok (.lsub, 1)) (h : b ≤ a) (kk : W p l e R s m args below meth c H locs cells slots Q (F0 m (pc + 1) ls (.long (lN (a - b)) :: rest))) : W p l e R s m args below meth c H locs cells slots Q (F0 m pc ls (.long (lN b) :: .long (lN a) :: rest)) := lv_lsub hx hb hd (z_topl (lN_sub h) kk)
theorem z_lle (hx : p.tables.exec = Jvm.exec) (hb : c.code = cc) {a b : Nat} {off : Int} {tgt : Nat} (hd : decode cc pc = .ok (.ifCond .le off, 3)) (ht : (pc : Int) + off = (tgt : Int)) (h : a < 2 ^ 63 ∧ b < 2 ^ 63) (kt : a ≤ b → W p l e R s m args below meth c H locs cells slots Q (F0 m tgt ls rest)) (kf : b < a → W p l e R s m args below meth c H locs cells slots Q (F0 m (pc + 3) ls rest)) : W p l e R s m args below meth c H locs cells slots Q (F0 m pc ls (.int (lg_cmp (lN a) (lN b)) :: rest)) := lv_if_le hx hb hd ht (fun z => kt ((zl_le h.1 h.2).mp ((lg_cmp_le _ _).mp z))) (fun z => kf (Nat.lt_of_not_le fun q => z ((lg_cmp_le _ _).mpr ((zl_le h.1 h.2).mpr q))))
theorem z_lge (hx : p.tables.exec = Jvm.exec) (hb : c.code = cc) {a b : Nat} {off : Int} {tgt : Nat} (hd : decode cc pc = .ok (.ifCond .ge off, 3)) (ht : (pc : Int) + off = (tgt : Int)) (h : a < 2 ^ 63 ∧ b < 2 ^ 63) (kt : b ≤ a → W p l e R s m args below meth c H locs cells slots Q (F0 m tgt ls rest)) (kf : a < b → W p l e R s m args below meth c H locs cells slots Q (F0 m (pc + 3) ls rest)) : W p l e R s m args below meth c H locs cells slots Q (F0 m pc ls (.int (lg_cmp (lN a) (lN b)) :: rest)) := lv_if_ge hx hb hd ht (fun z => kt ((zl_le h.2 h.1).mp ((lg_cmp_ge _ _).mp z))) (fun z => kf (Nat.lt_of_not_le fun q => z ((lg_cmp_ge _ _).mpr ((zl_le h.2 h.1).mpr q))))
theorem z_lne (hx : p.tables.exec = Jvm.exec) (hb : c.code = cc) {a b : Nat} {off : Int} {tgt : Nat} (hd : decode cc pc = .ok (.ifCond .ne off, 3)) (ht : (pc : Int) + off = (tgt : Int)) (h : a < 2 ^ 63 ∧ b < 2 ^ 63) (kt : a ≠ b → W p l e R s m args below meth c H locs cells slots Q (F0 m tgt ls rest)) (kf : a = b → W p l e R s m args below meth c H locs cells slots Q (F0 m (pc + 3) ls rest)) : W p l e R s m args below meth c H locs cells slots Q (F0 m pc ls (.int (lg_cmp (lN a) (lN b)) :: rest)) := lv_if_ne hx hb hd ht (fun z => kt (fun q => z ((lg_cmp_eq _ _).mpr ((zl_eq h.1 h.2).mpr q)))) (fun z => kf ((zl_eq h.1 h.2).mp ((lg_cmp_eq _ _).mp z)))
theorem z_leq (hx : p.tables.exec = Jvm.exec) (hb : c.code = cc) {a b : Nat} {off : Int} {tgt : Nat} (hd : decode cc pc = .ok (.ifCond .eq off, 3)) (ht : (pc : Int) + off = (tgt : Int)) (h : a < 2 ^ 63 ∧ b < 2 ^ 63) (kt : a = b → W p l e R s m args below meth c H locs cells slots Q (F0 m tgt ls rest)) (kf : a ≠ b → W p l e R s m args below meth c H locs cells slots Q (F0 m (pc + 3) ls rest)) : W p l e R s m args below meth c H locs cells slots Q (F0 m pc ls (.int (lg_cmp (lN a) (lN b)) :: rest)) := lv_if_eq hx hb hd ht (fun z => kt ((zl_eq h.1 h.2).mp ((lg_cmp_eq _ _).mp z))) (fun z => kf (fun q => z ((lg_cmp_eq _ _).mpr ((zl_eq h.1 h.2).mpr q))))
/-- an array of longs that are numbers -/
abbrev zLo (E : zEnv) (a n : Nat) (rr : Nat → Nat) (H : Heap) : Prop := zat E a (.inl (zC E, n, .inr (.inl (fun t => lN (rr t))))) H
theorem z_lald (hx : p.tables.exec = Jvm.exec) (hb : c.code = cc) (hG : zG E s) {a n j : Nat} {rr : Nat → Nat} (h : zLo E a n rr H) (hj : j < n ∧ n < 2 ^ 31) (hd : decode cc pc = .ok (.laload, 1)) (k : W p l e R s m args below meth c H locs cells slots Q (F0 m (pc + 1) ls (.long (lN (rr j)) :: rest))) : W p l e R s m args below meth c H locs cells slots Q (F0 m pc ls (.int (nI j) :: .ref a :: rest)) := by
  refine va_lald hx hb hG.1 (P1 h) 0 1 rfl rfl (vp_in_nI hj.1 hj.2) hd ?_
  rw [nI_clamp (Nat.lt_trans hj.1 hj.2)]
  exact k
theorem z_last (hx : p.tables.exec = Jvm.exec) (hb : c.code = cc) (hG : zG E s) {a n j x : Nat} {rr : Nat → Nat} (h : zLo E a n rr H) (hj : j < n ∧ n < 2 ^ 31) (hS : va_S A H0 H locs) (hA : A a) (hd : decode cc pc = .ok (.lastore, 1))
    (k : ∀ (H1 : Heap) (locs1 : List Loc), zLo E a n (zun rr j x) H1 → zOnly a H H1 → va_S A H0 H1 locs1 → W p l e R s m args below meth c H1 locs1 cells slots Q (F0 m (pc + 1) ls rest)) : W p l e R s m args below meth c H locs cells slots Q (F0 m pc ls (.long (lN x) :: .int (nI j) :: .ref a :: rest)) := by
  have hin : vp_in (nI j) n := vp_in_nI hj.1 hj.2
  refine W.last hx hb h ((hG.1.2 1 _ rfl).1 n (fun j => .long (lN (rr j)))) (fun q => by cases q) (by show ¬ (_ < 0 ∨ (arrV _ _ _).slots.size ≤ _); rw [arrV_size]; exact hin) rfl rfl hd fun H1 e1 z oq => ?_
  refine k H1 _ ?_ ⟨z, oq⟩ (hS.put z oq hA)
  show H1[a]? = some (vp_cell _ _)
  rw [e1, vp_cell_l, vp_cell_l, arrV_store, nI_clamp (Nat.lt_trans hj.1 hj.2)]
  congr 2
  funext q
  by_cases hq : q = j
  · subst hq; simp [updV, zun]
  · simp [updV, zun, hq]
/-- a new array of longs -/
theorem z_naL (hx : p.tables.exec = Jvm.exec) (hb : c.code = cc) {Ts : List Cond} (hts : ∀ w ∈ Ts, w.before args s = true) (hG : zG E s) (hw : Cond.arrayClass .long ∈ Ts) {n o c1 s1 : Nat} (hn : n ≤ 2000) (ho : H.size = o) (hcs : cells + 1 ≤ c1 ∧ c1 ≤ R.cells ∧ slots + n ≤ s1 ∧ s1 ≤ R.slots) (hS : va_S A H0 H locs) (hd : decode cc pc = .ok (.newarray .long, 2))
    (kk : ∀ H1 : Heap, zLo E o n (fun _ => 0) H1 → H1.size = o + 1 → (∀ q : Nat, q < o → H1[q]? = H[q]?) → va_S A H0 H1 locs → W p l e R s m args below meth c H1 locs c1 s1 Q (F0 m (pc + 2) ls (.ref o :: rest))) : W p l e R s m args below meth c H locs cells slots Q (F0 m pc ls (.int (nI n) :: rest)) := by
  subst ho
  have hr : s.vm.findClass ("[" ++ FieldType.long.toString) = some (zC E) := (hG.1.2 1 _ rfl).2
  refine va_newaK (atype := .long) hx hb (hts _ hw) rfl hd (n := nI n) (N := n) rfl (fun q => vp_in_nI (Nat.lt_succ_self n) (by omega) (Or.inl q)) (nI_clamp (by omega)) (by show n * 8 ≤ 536870912; omega) (by omega) (by omega) rfl fun H1 cA e1 z1 o1 _ hNm => ?_
  have hcA : cA = zC E := Option.some.inj (hNm.symm.trans hr)
  refine W.widen hcs.1 hcs.2.2.1 (kk H1 ?_ z1 o1 (zvS_new hS z1 o1))
  show H1[_]? = some (vp_cell _ _)
  rw [vp_cell_l, ← hcA]
  exact e1
end ZLROW
