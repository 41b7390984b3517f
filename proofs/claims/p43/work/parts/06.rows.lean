/-! writing: one cell changes, the rest of the heap stays -/
section ZWROW
variable {p : Program} {l : Launch} {e : Env} {R : Room} {s : State} {m : MethodId} {args : Array Value} {below : List Frame} {meth : Method} {c : Code} {H H0 : Heap} {locs : List Loc} {cells slots : Nat} {Q : State → Prop} {cc : ByteArray} {pc : Nat} {ls : Array Slot} {rest : List Value} {E : zEnv} {A : Nat → Prop}
/-- H1 is H but for the cell a -/
def zOnly (a : Nat) (H H1 : Heap) : Prop := H1.size = H.size ∧ ∀ q : Nat, q ≠ a → H1[q]? = H[q]?
theorem z_upd_n {f : Nat → Int32} {j n : Nat} {x : Int32} (hj : j < n) (hn : n < 2 ^ 31) : upd f (nI j).toNatClampNeg x = upd f j x := by rw [nI_clamp (Nat.lt_trans hj hn)]
theorem z_iast (hx : p.tables.exec = Jvm.exec) (hb : c.code = cc) (hG : zG E s) {a n j : Nat} {f : Nat → Int32} {x : Int32} (h : zat E a (.inl (zI E, n, .inl f)) H) (hj : j < n ∧ n < 2 ^ 31) (hS : va_S A H0 H locs) (hA : A a) (hd : decode cc pc = .ok (.iastore, 1))
    (k : ∀ (H1 : Heap) (locs1 : List Loc), zat E a (.inl (zI E, n, .inl (upd f j x))) H1 → zOnly a H H1 → va_S A H0 H1 locs1 → W p l e R s m args below meth c H1 locs1 cells slots Q (F0 m (pc + 1) ls rest)) : W p l e R s m args below meth c H locs cells slots Q (F0 m pc ls (.int x :: .int (nI j) :: .ref a :: rest)) := by
  have hin : vp_in (nI j) n := vp_in_nI hj.1 hj.2
  refine W.iast hx hb h ((hG.1.2 0 _ rfl).1 n (fun j => .int (f j))) (fun q => by cases q) (by show ¬ (_ < 0 ∨ (arrV _ _ _).slots.size ≤ _); rw [arrV_size]; exact hin) rfl rfl hd fun H1 e1 z oq => ?_
  refine k H1 _ ?_ ⟨z, oq⟩ (hS.put z oq hA)
  show H1[a]? = some (vp_cell _ _)
  rw [e1, vp_cell_i, vp_cell_i, arrV_store, nI_clamp (Nat.lt_trans hj.1 hj.2)]
  congr 2
  funext q
  by_cases hq : q = j
  · subst hq; simp [updV, upd]
  · simp [updV, upd, hq]
theorem z_aastS (hx : p.tables.exec = Jvm.exec) (hb : c.code = cc) (hG : zG E s) {a n j v : Nat} {f : Nat → Option Nat} {vs : List Value} (h : zat E a (.inl (zSt E, n, .inr (.inr (.inr (.inr f))))) H) (hv : zat E v (.inr (3, vs)) H) (hj : j < n ∧ n < 2 ^ 31) (hS : va_S A H0 H locs) (hA : A a) (hd : decode cc pc = .ok (.aastore, 1))
    (k : ∀ (H1 : Heap) (locs1 : List Loc), zat E a (.inl (zSt E, n, .inr (.inr (.inr (.inr (va_up f j (some v))))))) H1 → zOnly a H H1 → va_S A H0 H1 locs1 → W p l e R s m args below meth c H1 locs1 cells slots Q (F0 m (pc + 1) ls rest)) : W p l e R s m args below meth c H locs cells slots Q (F0 m pc ls (.ref v :: .int (nI j) :: .ref a :: rest)) := by
  have hin : vp_in (nI j) n := vp_in_nI hj.1 hj.2
  have hlt : (nI j).toNatClampNeg < n := by rw [nI_clamp (Nat.lt_trans hj.1 hj.2)]; exact hj.1
  obtain ⟨r', hr', cellV, g1, g2, g3, -⟩ := hv
  have hcls := (hG.1.1 3 _ rfl).2
  obtain ⟨kA, comp, k1, k2, k3, -⟩ := (hG.1.2 3 _ rfl).2
  have hcomp : comp = (zD E).1 3 := Option.some.inj (k3.symm.trans hcls.1)
  subst hcomp
  obtain ⟨kC, hkC, -⟩ := hcls.2
  refine W.aast hx hb h (fun q h => by cases h) (fun h => by cases h) k1 k2 rfl hkC ⟨fun q => hin (Or.inl q), by show _ < (arrV _ _ _).slots.size; rw [arrV_size]; exact hlt⟩ g1 (fun q h => by rw [g3] at h; cases h) (by rw [g2]; exact hkC) (by rw [g2]; exact va_assign hcls) rfl rfl hd fun H1 e1 z oq => ?_
  refine k H1 _ ?_ ⟨z, oq⟩ (hS.put z oq hA)
  show H1[a]? = some (vp_cell _ _)
  rw [e1, vp_cell_q, vp_cell_q, arrV_store, nI_clamp (Nat.lt_trans hj.1 hj.2)]
  congr 2
  funext q
  by_cases hq : q = j
  · subst hq; simp [updV, va_up, va_rf]
  · simp [updV, va_up, hq]
theorem z_put (hx : p.tables.exec = Jvm.exec) (hb : c.code = cc) {own ref C : String} {T : u_T} {N ci index a : Nat} {Ts : List Cond} (hts : ∀ w ∈ Ts, w.before args s = true) (hin : ∀ w ∈ u_ws C T N, w ∈ Ts) {ty0 : Nat → FieldType} (hty : ∀ k, k < N → parseFieldDescriptor (T k).2.2.1 = some (ty0 k)) (hnm : ∀ a, a < N → ∀ b, b < N → a ≠ b → (T a).2.1 ≠ (T b).2.1) (hown : s.vm.findClass own = some m.cls) (hG : zG E s) {fs : List Value} (h : zat E a (.inr (ci, fs)) H) (hc : vwCl[ci]? = some (C, T, N)) (k : Nat) (hk : k < N) (hlink : Cond.fieldLink own index ref (T k).2.1 (T k).2.2.1 ∈ Ts) (hsame : (T k).1 = ref) (hfin : (T k).2.2.2 = false) {v : Value} (hn : narrow (ty0 k) v = v) (hfit : fits (ty0 k) v = true) (hl : k < fs.length) (hS : va_S A H0 H locs) (hA : A a) (hd : decode cc pc = .ok (.putfield index, 3))
    (kk : ∀ (H1 : Heap) (locs1 : List Loc), zat E a (.inr (ci, fs.set k v)) H1 → zOnly a H H1 → va_S A H0 H1 locs1 → W p l e R s m args below meth c H1 locs1 cells slots Q (F0 m (pc + 3) ls rest)) : W p l e R s m args below meth c H locs cells slots Q (F0 m pc ls (v :: .ref a :: rest)) := by
  have hap := va_apart (own := own) hts hin ty0 hty hnm hG.1 hc
  obtain ⟨r, h1, cell, q1, q2, q3, q4⟩ := h
  have hr : r = (C, T, N) := Option.some.inj (h1.symm.trans hc)
  subst hr
  obtain ⟨hS1, hfc, kC, hkC, hkind⟩ := hG.1.1 ci _ hc
  obtain ⟨cf, kf, fi, f, hi, hsl⟩ := hS1 k hk
  have hlay := hts _ (hin _ (u_in_lay hk))
  unfold u_lay at hlay
  rw [if_neg (by rw [hfin]; decide)] at hlay
  have hst := (u_facts hfc hkC (u_lays hts hin hk) hi).1
  have h6 := u_store hfc hkC hkind hlay hi (hty k hk) hn hfit
  refine W.putK hx hb (f := f) ⟨hown, hts _ hlink, ⟨_, _, _, by rw [← hsame]; exact hi⟩, hst⟩ (by rw [q2]; exact h6) q1 q3 (by rw [hsl]; exact k2_hasslot (q4 k hk)) rfl rfl hd fun H' e1 e2 e3 => ?_
  rw [hsl] at e1 ⊢
  exact kk H' _ ⟨_, hc, t_OB.to (V := updV (vp_V fs) k v) ⟨_, e1, q2, q3, t_set q4 hap hk v⟩ (fun j _ => vp_updV_set hl v j)⟩ ⟨e2, e3⟩ (hS.put e2 e3 hA)
theorem z_putN (hx : p.tables.exec = Jvm.exec) (hb : c.code = cc) {own ref C host : String} {T : u_T} {N ci index a : Nat} {Ts : List Cond} (hts : ∀ w ∈ Ts, w.before args s = true) (hin : ∀ w ∈ u_ws C T N, w ∈ Ts) {ty0 : Nat → FieldType} (hty : ∀ k, k < N → parseFieldDescriptor (T k).2.2.1 = some (ty0 k)) (hnm : ∀ a, a < N → ∀ b, b < N → a ≠ b → (T a).2.1 ≠ (T b).2.1) (hown : s.vm.findClass own = some m.cls) (hG : zG E s) {fs : List Value} (h : zat E a (.inr (ci, fs)) H) (hc : vwCl[ci]? = some (C, T, N)) (k : Nat) (hk : k < N) (hlink : (own, index, ref, (T k).2.1, (T k).2.2.1, host) ∈ zNF) (hsame : (T k).1 = ref) (hfin : (T k).2.2.2 = false) {v : Value} (hn : narrow (ty0 k) v = v) (hfit : fits (ty0 k) v = true) (hl : k < fs.length) (hS : va_S A H0 H locs) (hA : A a) (hd : decode cc pc = .ok (.putfield index, 3))
    (kk : ∀ (H1 : Heap) (locs1 : List Loc), zat E a (.inr (ci, fs.set k v)) H1 → zOnly a H H1 → va_S A H0 H1 locs1 → W p l e R s m args below meth c H1 locs1 cells slots Q (F0 m (pc + 3) ls rest)) : W p l e R s m args below meth c H locs cells slots Q (F0 m pc ls (v :: .ref a :: rest)) := by
  have hap := va_apart (own := own) hts hin ty0 hty hnm hG.1 hc
  obtain ⟨r, h1, cell, q1, q2, q3, q4⟩ := h
  have hr : r = (C, T, N) := Option.some.inj (h1.symm.trans hc)
  subst hr
  obtain ⟨hS1, hfc, kC, hkC, hkind⟩ := hG.1.1 ci _ hc
  obtain ⟨cf, kf, fi, f, hi, hsl⟩ := hS1 k hk
  have hlay := hts _ (hin _ (u_in_lay hk))
  unfold u_lay at hlay
  rw [if_neg (by rw [hfin]; decide)] at hlay
  have hst := (u_facts hfc hkC (u_lays hts hin hk) hi).1
  have h6 := u_store hfc hkC hkind hlay hi (hty k hk) hn hfit
  refine va_WputK (host := host) hx hb (f := f) hown (va_Nw.use rfl (hG.2.2 _ hlink)) (by rw [← hsame]; exact hi) hst (by rw [q2]; exact h6) q1 q3 (by rw [hsl]; exact k2_hasslot (q4 k hk)) rfl rfl hd fun H' e1 e2 e3 => ?_
  rw [hsl] at e1 ⊢
  exact kk H' _ ⟨_, hc, t_OB.to (V := updV (vp_V fs) k v) ⟨_, e1, q2, q3, t_set q4 hap hk v⟩ (fun j _ => vp_updV_set hl v j)⟩ ⟨e2, e3⟩ (hS.put e2 e3 hA)
/-- System.arraycopy(x, 0, y, 0, n) between two int arrays -/
theorem z_copy (hx : p.tables.exec = Jvm.exec) (hb : c.code = cc) (hml : c.maxLocals = ls.size) {own : String} {index : Nat} {Ts : List Cond} (hts : ∀ w ∈ Ts, w.before args s = true) (hown : s.vm.findClass own = some m.cls) (hG : zG E s) (hw : Cond.methodLink own index arraycopyName ∈ Ts ∧ Cond.native arraycopyName ∈ Ts ∧ Cond.static arraycopyName ∈ Ts ∧ Cond.initialized "java/lang/System" ∈ Ts) {a0 a n : Nat} {f g : Nat → Int32} (h0 : zat E a0 (.inl (zI E, n, .inl f)) H) (h1 : zat E a (.inl (zI E, n, .inl g)) H) (hn : n < 2 ^ 31) (hS : va_S A H0 H locs) (hA : A a) (hframes : 1 ≤ R.frames) (hlocals : (rest.map fun v => v.category).sum + (nativeFrameWords "java/lang/System" "arraycopy" 5 + 11) ≤ R.locals) (hd : decode cc pc = .ok (.invokestatic index, 3))
    (kk : ∀ (H1 : Heap) (locs1 : List Loc), zat E a (.inl (zI E, n, .inl (va_cpy f g 0 0 n))) H1 → zOnly a H H1 → va_S A H0 H1 locs1 → W p l e R s m args below meth c H1 locs1 cells slots Q (F0 m (pc + 3) ls rest)) : W p l e R s m args below meth c H locs cells slots Q (F0 m pc ls (.int (nI n) :: .int (nI 0) :: .ref a :: .int (nI 0) :: .ref a0 :: rest)) := by
  have z0 : (nI 0).toInt = 0 := nI_toInt (by decide)
  have zn : (nI n).toInt = (n : Int) := nI_toInt hn
  have c0 : (nI 0).toNatClampNeg = 0 := nI_clamp (by decide)
  have cn : (nI n).toNatClampNeg = n := nI_clamp hn
  intro T hT X
  have hc0 : H[a0]? = some (vp_cell (zI E) (n, .inl f)) := h0
  have hc1 : H[a]? = some (vp_cell (zI E) (n, .inl g)) := h1
  obtain ⟨-, k0, hk0, cm0, hkk0⟩ := (hG.1.2 0 _ rfl).1 n (fun j => .int (f j))
  obtain ⟨-, k1, hk1, cm1, hkk1⟩ := (hG.1.2 0 _ rfl).1 n (fun j => .int (g j))
  obtain ⟨vm', X', step⟩ := X.arraycopy hx hown (hts _ hw.1) (hts _ hw.2.1) (hts _ hw.2.2.1) (hts _ hw.2.2.2) (src := a0) (dst := a) (cs := vp_cell (zI E) (n, .inl f)) (cd := vp_cell (zI E) (n, .inl g)) (srcPos := nI 0) (destPos := nI 0) (n := nI n) (by rw [hT]; exact hc0) (by rw [hT]; exact hc1)
    (fun _ h => by cases h) (fun _ h => by cases h) (fun h => by cases h) (fun h => by cases h) hk0 hk1 hkk0 hkk1 (by simp [refKind]) (nI_pos (by decide)) (nI_pos (by decide)) (nI_pos hn)
    (by rw [z0, zn]; show ¬ _ > ((arrV (zI E) n (fun j => .int (f j))).slots.size : Int); rw [arrV_size]; omega)
    (by rw [z0, zn]; show ¬ _ > ((arrV (zI E) n (fun j => .int (g j))).slots.size : Int); rw [arrV_size]; omega)
    (fun vm₁ _ i hi => by
      have e : (vp_cell (zI E) (n, .inl f)).slots.getD ((nI 0).toNatClampNeg + i) .null = .int (f i) := by
        show (arrV (zI E) n (fun j => .int (f j))).slots.getD _ _ = _
        rw [c0, Nat.zero_add, Array.getD_eq_getD_getElem?, arrV_read _ _ (by rw [cn] at hi; omega)]
        rfl
      refine ⟨?_, ?_⟩
      · rw [e]; rfl
      · rw [e]; exact trivial)
    (g := F0 m pc ls (.int (nI n) :: .int (nI 0) :: .ref a :: .int (nI 0) :: .ref a0 :: rest)) rfl (by rw [hml]) (rest := rest) rfl (by rw [hb]; exact hd) hframes (by show 2 * 0 + _ + _ ≤ _; omega)
  have e1 : copied (vp_cell (zI E) (n, .inl f)) (vp_cell (zI E) (n, .inl g)) (nI 0) (nI 0) (nI n) = vp_cell (zI E) (n, .inl (va_cpy f g 0 0 n)) := by
    have q : copied (vp_cell (zI E) (n, .inl f)) (vp_cell (zI E) (n, .inl g)) (nI 0) (nI 0) (nI n) = vp_cell (zI E) (n, .inl (va_cpy f g (nI 0).toNatClampNeg (nI 0).toNatClampNeg (nI n).toNatClampNeg)) := va_copied (fun z => .int z) (zI E) (zI E) f g (by rw [c0, cn]; omega)
    rw [q, c0, cn]
  rw [e1] at X' step
  have hl : a < H.size := (Array.getElem?_eq_some_iff.mp hc1).1
  have hheap : ((T.setVm vm').setCell a (vp_cell (zI E) (n, .inl (va_cpy f g 0 0 n)))).heap = H.setIfInBounds a (vp_cell (zI E) (n, .inl (va_cpy f g 0 0 n))) := by rw [← hT]; rfl
  have oq : ∀ q : Nat, q ≠ a → (H.setIfInBounds a (vp_cell (zI E) (n, .inl (va_cpy f g 0 0 n))))[q]? = H[q]? := fun q hq => by simp [Array.getElem?_setIfInBounds, Ne.symm hq]
  obtain ⟨t, a1, b1⟩ := kk _ _ (show (H.setIfInBounds a _)[a]? = some _ by simp [Array.getElem?_setIfInBounds, hl]) ⟨by simp, oq⟩ ⟨by simp; exact hS.1, fun q g1 g2 => by
      rw [oq q (fun e => g2 (by rw [e]; exact hA))]
      exact hS.2.1 q g1 g2, fun q hq => by
      rcases List.mem_append.mp hq with h | h
      · exact hS.2.2 q h
      · obtain ⟨z, -, hz⟩ := List.mem_map.mp h
        rw [← hz]
        exact hA⟩ _ hheap X'
  exact ⟨t, step t a1, b1⟩
theorem z_min (hx : p.tables.exec = Jvm.exec) (hb : c.code = cc) (hml : c.maxLocals = ls.size) {own : String} {index : Nat} {Ts : List Cond} (hts : ∀ w ∈ Ts, w.before args s = true) (hown : s.vm.findClass own = some m.cls) (hw : Cond.methodLink own index Lib.Math.min.name ∈ Ts ∧ Cond.static Lib.Math.min.name ∈ Ts ∧ Cond.initialized "java/lang/Math" ∈ Ts ∧ Cond.code Lib.Math.min.name Lib.Math.min.code 2 (some .int) ∈ Ts) (hframes : 1 ≤ R.frames) (hlocals : (rest.map fun v => v.category).sum + 13 ≤ R.locals) (hc : cells ≤ R.cells) (hs : slots ≤ R.slots) {a b : Nat} (hab : a < 2 ^ 31 ∧ b < 2 ^ 31) (hd : decode cc pc = .ok (.invokestatic index, 3))
    (kk : W p l e R s m args below meth c H locs cells slots Q (F0 m (pc + 3) ls (.int (nI (min a b)) :: rest))) : W p l e R s m args below meth c H locs cells slots Q (F0 m pc ls (.int (nI b) :: .int (nI a) :: rest)) := by
  refine va_mmin hx hb hml hown (hts _ hw.1) (hts _ hw.2.1) (hts _ hw.2.2.1) (hts _ hw.2.2.2) hframes hlocals hc hs hd (z_top ?_ kk)
  by_cases q : b < a
  · rw [if_pos ((nI_ltI hab.2 hab.1).mpr q), Nat.min_eq_right (Nat.le_of_lt q)]
  · rw [if_neg (fun z => q ((nI_ltI hab.2 hab.1).mp z)), Nat.min_eq_left (Nat.le_of_not_lt q)]
theorem z_abs (hx : p.tables.exec = Jvm.exec) (hb : c.code = cc) (hml : c.maxLocals = ls.size) {own : String} {index : Nat} {Ts : List Cond} (hts : ∀ w ∈ Ts, w.before args s = true) (hown : s.vm.findClass own = some m.cls) (hw : Cond.methodLink own index Lib.Math.abs.name ∈ Ts ∧ Cond.static Lib.Math.abs.name ∈ Ts ∧ Cond.initialized "java/lang/Math" ∈ Ts ∧ Cond.code Lib.Math.abs.name Lib.Math.abs.code 1 (some .int) ∈ Ts) (hframes : 1 ≤ R.frames) (hlocals : (rest.map fun v => v.category).sum + 13 ≤ R.locals) (hc : cells ≤ R.cells) (hs : slots ≤ R.slots) {x : Int32} (hd : decode cc pc = .ok (.invokestatic index, 3))
    (kk : W p l e R s m args below meth c H locs cells slots Q (F0 m (pc + 3) ls (.int (if 0 ≤ x then x else 0 - x) :: rest))) : W p l e R s m args below meth c H locs cells slots Q (F0 m pc ls (.int x :: rest)) :=
  va_mabs hx hb hml hown (hts _ hw.1) (hts _ hw.2.1) (hts _ hw.2.2.1) (hts _ hw.2.2.2) hframes hlocals hc hs hd kk
/-! calls -/
theorem z_recv {a ci : Nat} {q : vw_C} {fs : List Value} (hG : zG E s) (h : zat E a (.inr (ci, fs)) H) (hc : vwCl[ci]? = some q) : ∃ cell : Cell, H[a]? = some cell ∧ cell.vm.isStatics = false ∧ s.vm.findClass q.1 = some cell.cls := va_recv hG.1 (P1 h) (q0 := 0) hc rfl
theorem z_ro {a : Array Value} {r : Option Value} {st0 st1 : List Value} (hr : va_Run p l e R s m args below meth c H locs cells slots 0 0 (F0 m pc ls st0) rest (fun st oc t => oc = .returned r ∧ t.heap = st.heap) (fun _ => False)) (hst : r.toList ++ rest = st1)
    (kk : W p l e R s m args below meth c H locs cells slots Q (F0 m (pc + 3) ls st1)) : W p l e R s m args below meth c H locs cells slots Q (F0 m pc ls st0) := by
  intro T hT X
  obtain ⟨v, st₀, t, T', L, h0, X', hL, e1, e2, ⟨hv, hh⟩, st⟩ := hr T hT X
  cases hv
  subst hst
  obtain ⟨t2, a1, b1⟩ := kk T' (by rw [e1, hh, h0]) (Stand.forget X' (fun q h => (hL q h).elim))
  exact ⟨t2, st t2 a1, b1⟩
theorem z_wr {a : Array Value} {r : Option Value} {Rr : Heap → Prop} {A1 : Nat → Prop} {st0 st1 : List Value} (hr : va_Run p l e R s m args below meth c H locs cells slots 0 0 (F0 m pc ls st0) rest (fun st oc t => (oc = .returned r ∧ Rr t.heap) ∧ t.heap.size = st.heap.size ∧ ∀ q : Nat, ¬ A1 q → t.heap[q]? = st.heap[q]?) A1) (hst : r.toList ++ rest = st1) (hS : va_S A H0 H locs) (hA : ∀ q, A1 q → A q)
    (kk : ∀ (H1 : Heap) (locs1 : List Loc), Rr H1 → H1.size = H.size → (∀ q : Nat, ¬ A1 q → H1[q]? = H[q]?) → va_S A H0 H1 locs1 → W p l e R s m args below meth c H1 locs1 cells slots Q (F0 m (pc + 3) ls st1)) : W p l e R s m args below meth c H locs cells slots Q (F0 m pc ls st0) := by
  intro T hT X
  obtain ⟨v, st₀, t, T', L, h0, X', hL, e1, e2, ⟨⟨hv, hp⟩, hz, hk⟩, st⟩ := hr T hT X
  cases hv
  subst hst
  rw [h0] at hz hk
  obtain ⟨t2, a1, b1⟩ := kk T'.heap (locs ++ L) (by rw [e1]; exact hp) (by rw [e1]; exact hz) (fun q h => by rw [e1]; exact hk q h)
    ⟨by rw [e1, hz]; exact hS.1, fun q h1 h2 => by rw [e1, hk q (fun z => h2 (hA q z))]; exact hS.2.1 q h1 h2, fun q hq => by
      rcases List.mem_append.mp hq with h | h
      · exact hS.2.2 q h
      · exact hA _ (hL q h)⟩ T' rfl X'
  exact ⟨t2, st t2 a1, b1⟩
variable {y : MethodName} {bytes : ByteArray} {maxL nL n index fr lo : Nat} {ret : Option FieldType} {ws ws' : List Cond} {Ts : List Cond} {own C : String} {b : Nat} {As : List Value} {P : Heap → Prop} {r : Option Value} {Rr : Heap → Prop} {A1 : Nat → Prop} {st0 st1 : List Value}
theorem z_preV {ci : Nat} {q : vw_C} {fs : List Value} (hG : zG E s) (hP : P H) (h : zat E b (.inr (ci, fs)) H) (hc : vwCl[ci]? = some q) : PreV s H q.1 b (va_Pc (.ref b :: As) (fun U => P U.heap ∧ zG E U)) As := ⟨zfb, z_recv hG h hc, fun U hU hW => ⟨rfl, by rw [hU]; exact hP, hG.warm hW⟩⟩
theorem z_preS (hG : zG E s) (hP : P H) : PreS s H (va_Pc As (fun U => P U.heap ∧ zG E U)) As := ⟨zfb, fun U hU hW => ⟨rfl, by rw [hU]; exact hP, hG.warm hW⟩⟩
/-- a call of a method of the class's own (or a public one), that only reads -/
theorem z_roV {ci : Nat} {q : vw_C} {fs : List Value} (S : CallFix p m c cc nL s args Ts own) (hG : zG E s) (hM : zRO E y ws fr lo (.ref b :: As) P r) (n : Nat) (hT : GoodIn Ts (wsV own index q.1 y ws)) (hw : ws = Cond.code y bytes maxL ret :: ws') (hd : y.cls = q.1 ∧ y.cls ≠ "java/lang/invoke/MethodHandle" ∧ y.cls ≠ "java/lang/invoke/VarHandle" ∧ (parseMethodDescriptor y.desc).map (fun d => d.parameters.length) = some n) (hR : fr + 1 ≤ R.frames ∧ 8 + (maxL + 11) + lo ≤ R.locals) (hcs : cells ≤ R.cells ∧ slots ≤ R.slots) (hP : P H) (hc : vwCl[ci]? = some q) (h : zat E b (.inr (ci, fs)) H) (hn : As.length = n) (hsize : ls.size = nL) (hst0 : st0 = As.reverse ++ .ref b :: rest) (hst : r.toList ++ rest = st1) (hW : (rest.map fun v => v.category).sum ≤ 8) (hdg : decode cc pc = .ok (.invokevirtual index, 3))
    (kk : W p (zl E) e R s m args below meth c H locs cells slots Q (F0 m (pc + 3) ls st1)) : W p (zl E) e R s m args below meth c H locs cells slots Q (F0 m pc ls st0) :=
  z_ro (a := (Value.ref b :: As).toArray) (va_runV (rest := rest) S hM (cwV n S.2.2.2.2 hT hw rfl rfl hd hR) (z_preV hG hP h hc) rfl hn hsize hst0 (by show 2 * 0 + _ ≤ 8; omega) hdg hcs) hst kk
theorem z_roS (S : CallFix p m c cc nL s args Ts own) (hG : zG E s) (hM : zRO E y ws fr lo As P r) (n : Nat) (hT : GoodIn Ts (wsS own index y ws)) (hw : ws = Cond.code y bytes maxL ret :: ws') (hd : y.cls = own ∧ y.cls ≠ "java/lang/invoke/MethodHandle" ∧ y.cls ≠ "java/lang/invoke/VarHandle" ∧ (parseMethodDescriptor y.desc).map (fun d => d.parameters.length) = some n) (hR : fr + 1 ≤ R.frames ∧ 8 + (maxL + 11) + lo ≤ R.locals) (hcs : cells ≤ R.cells ∧ slots ≤ R.slots) (hP : P H) (hn : As.length = n) (hsize : ls.size = nL) (hst0 : st0 = As.reverse ++ rest) (hst : r.toList ++ rest = st1) (hW : (rest.map fun v => v.category).sum ≤ 8) (hdg : decode cc pc = .ok (.invokestatic index, 3))
    (kk : W p (zl E) e R s m args below meth c H locs cells slots Q (F0 m (pc + 3) ls st1)) : W p (zl E) e R s m args below meth c H locs cells slots Q (F0 m pc ls st0) :=
  z_ro (a := As.toArray) (va_runS (rest := rest) S hM (cwS n S.2.2.2.2 hT hw rfl rfl hd hR) (z_preS hG hP) rfl hn hsize hst0 (by show 2 * 0 + _ ≤ 8; omega) hdg hcs) hst kk
theorem z_roVN {host : String} {ci : Nat} {q : vw_C} {fs : List Value} (S : CallFix p m c cc nL s args Ts own) (hG : zG E s) (hM : zRO E y ws fr lo (.ref b :: As) P r) (n : Nat) (hT : GoodIn Ts ws) (hl : (own, index, y, host) ∈ zNM) (hi : Cond.initialized y.cls ∈ Ts ∧ Cond.instanceMethod y ∈ Ts ∧ Cond.selects q.1 y y ∈ Ts) (hw : ws = Cond.code y bytes maxL ret :: ws') (hd : y.cls ≠ "java/lang/invoke/MethodHandle" ∧ y.cls ≠ "java/lang/invoke/VarHandle" ∧ (parseMethodDescriptor y.desc).map (fun d => d.parameters.length) = some n) (hR : fr + 1 ≤ R.frames ∧ 8 + (maxL + 11) + lo ≤ R.locals) (hcs : cells ≤ R.cells ∧ slots ≤ R.slots) (hP : P H) (hc : vwCl[ci]? = some q) (h : zat E b (.inr (ci, fs)) H) (hn : As.length = n) (hsize : ls.size = nL) (hst0 : st0 = As.reverse ++ .ref b :: rest) (hst : r.toList ++ rest = st1) (hW : (rest.map fun v => v.category).sum ≤ 8) (hdg : decode cc pc = .ok (.invokevirtual index, 3))
    (kk : W p (zl E) e R s m args below meth c H locs cells slots Q (F0 m (pc + 3) ls st1)) : W p (zl E) e R s m args below meth c H locs cells slots Q (F0 m pc ls st0) :=
  z_ro (a := (Value.ref b :: As).toArray) (va_runVN (rest := rest) S hM ⟨va_cnB n S.2.2.2.2 hT hw rfl rfl (hG.2.1 _ hl) (S.2.2.2.2 _ hi.1) hd hR, S.2.2.2.2 _ hi.2.1, S.2.2.2.2 _ hi.2.2⟩ (z_preV hG hP h hc) rfl hn hsize hst0 (by show 2 * 0 + _ ≤ 8; omega) hdg hcs) hst kk
theorem z_roSN {host : String} (S : CallFix p m c cc nL s args Ts own) (hG : zG E s) (hM : zRO E y ws fr lo As P r) (n : Nat) (hT : GoodIn Ts ws) (hl : (own, index, y, host) ∈ zNM) (hi : Cond.initialized y.cls ∈ Ts ∧ Cond.static y ∈ Ts) (hw : ws = Cond.code y bytes maxL ret :: ws') (hd : y.cls ≠ "java/lang/invoke/MethodHandle" ∧ y.cls ≠ "java/lang/invoke/VarHandle" ∧ (parseMethodDescriptor y.desc).map (fun d => d.parameters.length) = some n) (hR : fr + 1 ≤ R.frames ∧ 8 + (maxL + 11) + lo ≤ R.locals) (hcs : cells ≤ R.cells ∧ slots ≤ R.slots) (hP : P H) (hn : As.length = n) (hsize : ls.size = nL) (hst0 : st0 = As.reverse ++ rest) (hst : r.toList ++ rest = st1) (hW : (rest.map fun v => v.category).sum ≤ 8) (hdg : decode cc pc = .ok (.invokestatic index, 3))
    (kk : W p (zl E) e R s m args below meth c H locs cells slots Q (F0 m (pc + 3) ls st1)) : W p (zl E) e R s m args below meth c H locs cells slots Q (F0 m pc ls st0) :=
  z_ro (a := As.toArray) (va_runSN (rest := rest) S hM ⟨va_cnB n S.2.2.2.2 hT hw rfl rfl (hG.2.1 _ hl) (S.2.2.2.2 _ hi.1) hd hR, S.2.2.2.2 _ hi.2, trivial⟩ (z_preS hG hP) rfl hn hsize hst0 (by show 2 * 0 + _ ≤ 8; omega) hdg hcs) hst kk
theorem z_wrV {ci : Nat} {q : vw_C} {fs : List Value} (S : CallFix p m c cc nL s args Ts own) (hG : zG E s) (hM : zWR E y ws fr lo (.ref b :: As) P r Rr A1) (n : Nat) (hT : GoodIn Ts (wsV own index q.1 y ws)) (hw : ws = Cond.code y bytes maxL ret :: ws') (hd : y.cls = q.1 ∧ y.cls ≠ "java/lang/invoke/MethodHandle" ∧ y.cls ≠ "java/lang/invoke/VarHandle" ∧ (parseMethodDescriptor y.desc).map (fun d => d.parameters.length) = some n) (hR : fr + 1 ≤ R.frames ∧ 8 + (maxL + 11) + lo ≤ R.locals) (hcs : cells ≤ R.cells ∧ slots ≤ R.slots) (hP : P H) (hc : vwCl[ci]? = some q) (h : zat E b (.inr (ci, fs)) H) (hn : As.length = n) (hsize : ls.size = nL) (hst0 : st0 = As.reverse ++ .ref b :: rest) (hst : r.toList ++ rest = st1) (hW : (rest.map fun v => v.category).sum ≤ 8) (hdg : decode cc pc = .ok (.invokevirtual index, 3)) (hS : va_S A H0 H locs) (hA : ∀ q, A1 q → A q)
    (kk : ∀ (H1 : Heap) (locs1 : List Loc), Rr H1 → H1.size = H.size → (∀ q : Nat, ¬ A1 q → H1[q]? = H[q]?) → va_S A H0 H1 locs1 → W p (zl E) e R s m args below meth c H1 locs1 cells slots Q (F0 m (pc + 3) ls st1)) : W p (zl E) e R s m args below meth c H locs cells slots Q (F0 m pc ls st0) :=
  z_wr (a := (Value.ref b :: As).toArray) (va_runV (rest := rest) S hM (cwV n S.2.2.2.2 hT hw rfl rfl hd hR) (z_preV hG hP h hc) rfl hn hsize hst0 (by show 2 * 0 + _ ≤ 8; omega) hdg hcs) hst hS hA kk
theorem z_wrVN {host : String} {ci : Nat} {q : vw_C} {fs : List Value} (S : CallFix p m c cc nL s args Ts own) (hG : zG E s) (hM : zWR E y ws fr lo (.ref b :: As) P r Rr A1) (n : Nat) (hT : GoodIn Ts ws) (hl : (own, index, y, host) ∈ zNM) (hi : Cond.initialized y.cls ∈ Ts ∧ Cond.instanceMethod y ∈ Ts ∧ Cond.selects q.1 y y ∈ Ts) (hw : ws = Cond.code y bytes maxL ret :: ws') (hd : y.cls ≠ "java/lang/invoke/MethodHandle" ∧ y.cls ≠ "java/lang/invoke/VarHandle" ∧ (parseMethodDescriptor y.desc).map (fun d => d.parameters.length) = some n) (hR : fr + 1 ≤ R.frames ∧ 8 + (maxL + 11) + lo ≤ R.locals) (hcs : cells ≤ R.cells ∧ slots ≤ R.slots) (hP : P H) (hc : vwCl[ci]? = some q) (h : zat E b (.inr (ci, fs)) H) (hn : As.length = n) (hsize : ls.size = nL) (hst0 : st0 = As.reverse ++ .ref b :: rest) (hst : r.toList ++ rest = st1) (hW : (rest.map fun v => v.category).sum ≤ 8) (hdg : decode cc pc = .ok (.invokevirtual index, 3)) (hS : va_S A H0 H locs) (hA : ∀ q, A1 q → A q)
    (kk : ∀ (H1 : Heap) (locs1 : List Loc), Rr H1 → H1.size = H.size → (∀ q : Nat, ¬ A1 q → H1[q]? = H[q]?) → va_S A H0 H1 locs1 → W p (zl E) e R s m args below meth c H1 locs1 cells slots Q (F0 m (pc + 3) ls st1)) : W p (zl E) e R s m args below meth c H locs cells slots Q (F0 m pc ls st0) :=
  z_wr (a := (Value.ref b :: As).toArray) (va_runVN (rest := rest) S hM ⟨va_cnB n S.2.2.2.2 hT hw rfl rfl (hG.2.1 _ hl) (S.2.2.2.2 _ hi.1) hd hR, S.2.2.2.2 _ hi.2.1, S.2.2.2.2 _ hi.2.2⟩ (z_preV hG hP h hc) rfl hn hsize hst0 (by show 2 * 0 + _ ≤ 8; omega) hdg hcs) hst hS hA kk
end ZWROW
section ZWROW2
variable {p : Program} {l : Launch} {e : Env} {R : Room} {s : State} {m : MethodId} {args : Array Value} {below : List Frame} {meth : Method} {c : Code} {H H0 : Heap} {locs : List Loc} {cells slots : Nat} {Q : State → Prop} {cc : ByteArray} {pc : Nat} {ls : Array Slot} {rest : List Value} {E : zEnv} {A : Nat → Prop} {y : MethodName} {bytes : ByteArray} {maxL nL n index fr lo : Nat} {ret : Option FieldType} {ws ws' : List Cond} {Ts : List Cond} {own C : String} {b : Nat} {As : List Value} {P : Heap → Prop} {r : Option Value} {st0 st1 : List Value}
theorem z_roSX (S : CallFix p m c cc nL s args Ts own) (hG : zG E s) (hM : zRO E y ws fr lo As P r) (n : Nat) (hT : GoodIn Ts (va_wsS own index y ws)) (hw : ws = Cond.code y bytes maxL ret :: ws') (hd : y.cls ≠ "java/lang/invoke/MethodHandle" ∧ y.cls ≠ "java/lang/invoke/VarHandle" ∧ (parseMethodDescriptor y.desc).map (fun d => d.parameters.length) = some n) (hR : fr + 1 ≤ R.frames ∧ 8 + (maxL + 11) + lo ≤ R.locals) (hcs : cells ≤ R.cells ∧ slots ≤ R.slots) (hP : P H) (hn : As.length = n) (hsize : ls.size = nL) (hst0 : st0 = As.reverse ++ rest) (hst : r.toList ++ rest = st1) (hW : (rest.map fun v => v.category).sum ≤ 8) (hdg : decode cc pc = .ok (.invokestatic index, 3))
    (kk : W p (zl E) e R s m args below meth c H locs cells slots Q (F0 m (pc + 3) ls st1)) : W p (zl E) e R s m args below meth c H locs cells slots Q (F0 m pc ls st0) :=
  z_ro (a := As.toArray) (va_runS (rest := rest) S hM (va_cwS n S.2.2.2.2 hT hw rfl rfl hd hR) (z_preS hG hP) rfl hn hsize hst0 (by show 2 * 0 + _ ≤ 8; omega) hdg hcs) hst kk
end ZWROW2
theorem kX0_init : yX0_init.cls = RX0 ∧ yX0_init.cls ≠ "java/lang/invoke/MethodHandle" ∧ yX0_init.cls ≠ "java/lang/invoke/VarHandle" ∧ (parseMethodDescriptor yX0_init.desc).map (fun d => d.parameters.length) = some 0 := by decide +kernel
theorem kX0_becomeNone : yX0_becomeNone.cls = RX0 ∧ yX0_becomeNone.cls ≠ "java/lang/invoke/MethodHandle" ∧ yX0_becomeNone.cls ≠ "java/lang/invoke/VarHandle" ∧ (parseMethodDescriptor yX0_becomeNone.desc).map (fun d => d.parameters.length) = some 0 := by decide +kernel
theorem kX0_becomeLike : yX0_becomeLike.cls = RX0 ∧ yX0_becomeLike.cls ≠ "java/lang/invoke/MethodHandle" ∧ yX0_becomeLike.cls ≠ "java/lang/invoke/VarHandle" ∧ (parseMethodDescriptor yX0_becomeLike.desc).map (fun d => d.parameters.length) = some 1 := by decide +kernel
theorem kX0_addSign : yX0_addSign.cls = RX0 ∧ yX0_addSign.cls ≠ "java/lang/invoke/MethodHandle" ∧ yX0_addSign.cls ≠ "java/lang/invoke/VarHandle" ∧ (parseMethodDescriptor yX0_addSign.desc).map (fun d => d.parameters.length) = some 1 := by decide +kernel
theorem kX0_slotSet : yX0_slotSet.cls = RX0 ∧ yX0_slotSet.cls ≠ "java/lang/invoke/MethodHandle" ∧ yX0_slotSet.cls ≠ "java/lang/invoke/VarHandle" ∧ (parseMethodDescriptor yX0_slotSet.desc).map (fun d => d.parameters.length) = some 1 := by decide +kernel
theorem kX0_isAt : yX0_isAt.cls = RX0 ∧ yX0_isAt.cls ≠ "java/lang/invoke/MethodHandle" ∧ yX0_isAt.cls ≠ "java/lang/invoke/VarHandle" ∧ (parseMethodDescriptor yX0_isAt.desc).map (fun d => d.parameters.length) = some 2 := by decide +kernel
theorem kX1_init : yX1_init.cls = RX1 ∧ yX1_init.cls ≠ "java/lang/invoke/MethodHandle" ∧ yX1_init.cls ≠ "java/lang/invoke/VarHandle" ∧ (parseMethodDescriptor yX1_init.desc).map (fun d => d.parameters.length) = some 0 := by decide +kernel
theorem kX1_becomeLike : yX1_becomeLike.cls = RX1 ∧ yX1_becomeLike.cls ≠ "java/lang/invoke/MethodHandle" ∧ yX1_becomeLike.cls ≠ "java/lang/invoke/VarHandle" ∧ (parseMethodDescriptor yX1_becomeLike.desc).map (fun d => d.parameters.length) = some 1 := by decide +kernel
theorem kX1_entryOf : yX1_entryOf.cls = RX1 ∧ yX1_entryOf.cls ≠ "java/lang/invoke/MethodHandle" ∧ yX1_entryOf.cls ≠ "java/lang/invoke/VarHandle" ∧ (parseMethodDescriptor yX1_entryOf.desc).map (fun d => d.parameters.length) = some 1 := by decide +kernel
theorem kX1_count : yX1_count.cls = RX1 ∧ yX1_count.cls ≠ "java/lang/invoke/MethodHandle" ∧ yX1_count.cls ≠ "java/lang/invoke/VarHandle" ∧ (parseMethodDescriptor yX1_count.desc).map (fun d => d.parameters.length) = some 2 := by decide +kernel
theorem kX2_init : yX2_init.cls = RX2 ∧ yX2_init.cls ≠ "java/lang/invoke/MethodHandle" ∧ yX2_init.cls ≠ "java/lang/invoke/VarHandle" ∧ (parseMethodDescriptor yX2_init.desc).map (fun d => d.parameters.length) = some 0 := by decide +kernel
theorem kX2_becomeEmpty : yX2_becomeEmpty.cls = RX2 ∧ yX2_becomeEmpty.cls ≠ "java/lang/invoke/MethodHandle" ∧ yX2_becomeEmpty.cls ≠ "java/lang/invoke/VarHandle" ∧ (parseMethodDescriptor yX2_becomeEmpty.desc).map (fun d => d.parameters.length) = some 1 := by decide +kernel
theorem kX2_becomeLike : yX2_becomeLike.cls = RX2 ∧ yX2_becomeLike.cls ≠ "java/lang/invoke/MethodHandle" ∧ yX2_becomeLike.cls ≠ "java/lang/invoke/VarHandle" ∧ (parseMethodDescriptor yX2_becomeLike.desc).map (fun d => d.parameters.length) = some 1 := by decide +kernel
theorem kX2_hasSlot : yX2_hasSlot.cls = RX2 ∧ yX2_hasSlot.cls ≠ "java/lang/invoke/MethodHandle" ∧ yX2_hasSlot.cls ≠ "java/lang/invoke/VarHandle" ∧ (parseMethodDescriptor yX2_hasSlot.desc).map (fun d => d.parameters.length) = some 1 := by decide +kernel
theorem kX2_at : yX2_at.cls = RX2 ∧ yX2_at.cls ≠ "java/lang/invoke/MethodHandle" ∧ yX2_at.cls ≠ "java/lang/invoke/VarHandle" ∧ (parseMethodDescriptor yX2_at.desc).map (fun d => d.parameters.length) = some 1 := by decide +kernel
theorem kX2_put : yX2_put.cls = RX2 ∧ yX2_put.cls ≠ "java/lang/invoke/MethodHandle" ∧ yX2_put.cls ≠ "java/lang/invoke/VarHandle" ∧ (parseMethodDescriptor yX2_put.desc).map (fun d => d.parameters.length) = some 2 := by decide +kernel
theorem kX2_exchange : yX2_exchange.cls = RX2 ∧ yX2_exchange.cls ≠ "java/lang/invoke/MethodHandle" ∧ yX2_exchange.cls ≠ "java/lang/invoke/VarHandle" ∧ (parseMethodDescriptor yX2_exchange.desc).map (fun d => d.parameters.length) = some 2 := by decide +kernel
theorem kX2_around : yX2_around.cls = RX2 ∧ yX2_around.cls ≠ "java/lang/invoke/MethodHandle" ∧ yX2_around.cls ≠ "java/lang/invoke/VarHandle" ∧ (parseMethodDescriptor yX2_around.desc).map (fun d => d.parameters.length) = some 1 := by decide +kernel
theorem kX2_charms : yX2_charms.cls = RX2 ∧ yX2_charms.cls ≠ "java/lang/invoke/MethodHandle" ∧ yX2_charms.cls ≠ "java/lang/invoke/VarHandle" ∧ (parseMethodDescriptor yX2_charms.desc).map (fun d => d.parameters.length) = some 0 := by decide +kernel
theorem kX2_charmsOf : yX2_charmsOf.cls = RX2 ∧ yX2_charmsOf.cls ≠ "java/lang/invoke/MethodHandle" ∧ yX2_charmsOf.cls ≠ "java/lang/invoke/VarHandle" ∧ (parseMethodDescriptor yX2_charmsOf.desc).map (fun d => d.parameters.length) = some 1 := by decide +kernel
theorem kX2_kindAfter : yX2_kindAfter.cls = RX2 ∧ yX2_kindAfter.cls ≠ "java/lang/invoke/MethodHandle" ∧ yX2_kindAfter.cls ≠ "java/lang/invoke/VarHandle" ∧ (parseMethodDescriptor yX2_kindAfter.desc).map (fun d => d.parameters.length) = some 2 := by decide +kernel
theorem kX2_differences : yX2_differences.cls = RX2 ∧ yX2_differences.cls ≠ "java/lang/invoke/MethodHandle" ∧ yX2_differences.cls ≠ "java/lang/invoke/VarHandle" ∧ (parseMethodDescriptor yX2_differences.desc).map (fun d => d.parameters.length) = some 2 := by decide +kernel
theorem kX2_leastDifferences : yX2_leastDifferences.cls = RX2 ∧ yX2_leastDifferences.cls ≠ "java/lang/invoke/MethodHandle" ∧ yX2_leastDifferences.cls ≠ "java/lang/invoke/VarHandle" ∧ (parseMethodDescriptor yX2_leastDifferences.desc).map (fun d => d.parameters.length) = some 2 := by decide +kernel
theorem kX2_isAlike : yX2_isAlike.cls = RX2 ∧ yX2_isAlike.cls ≠ "java/lang/invoke/MethodHandle" ∧ yX2_isAlike.cls ≠ "java/lang/invoke/VarHandle" ∧ (parseMethodDescriptor yX2_isAlike.desc).map (fun d => d.parameters.length) = some 2 := by decide +kernel
theorem kX2_leastChange : yX2_leastChange.cls = RX2 ∧ yX2_leastChange.cls ≠ "java/lang/invoke/MethodHandle" ∧ yX2_leastChange.cls ≠ "java/lang/invoke/VarHandle" ∧ (parseMethodDescriptor yX2_leastChange.desc).map (fun d => d.parameters.length) = some 1 := by decide +kernel
theorem kX2_comesFirst : yX2_comesFirst.cls = RX2 ∧ yX2_comesFirst.cls ≠ "java/lang/invoke/MethodHandle" ∧ yX2_comesFirst.cls ≠ "java/lang/invoke/VarHandle" ∧ (parseMethodDescriptor yX2_comesFirst.desc).map (fun d => d.parameters.length) = some 2 := by decide +kernel
theorem kX2_differentRings : yX2_differentRings.cls = RX2 ∧ yX2_differentRings.cls ≠ "java/lang/invoke/MethodHandle" ∧ yX2_differentRings.cls ≠ "java/lang/invoke/VarHandle" ∧ (parseMethodDescriptor yX2_differentRings.desc).map (fun d => d.parameters.length) = some 1 := by decide +kernel
theorem kX2_slotsTurnedInto : yX2_slotsTurnedInto.cls = RX2 ∧ yX2_slotsTurnedInto.cls ≠ "java/lang/invoke/MethodHandle" ∧ yX2_slotsTurnedInto.cls ≠ "java/lang/invoke/VarHandle" ∧ (parseMethodDescriptor yX2_slotsTurnedInto.desc).map (fun d => d.parameters.length) = some 2 := by decide +kernel
theorem kX3_init : yX3_init.cls = RX3 ∧ yX3_init.cls ≠ "java/lang/invoke/MethodHandle" ∧ yX3_init.cls ≠ "java/lang/invoke/VarHandle" ∧ (parseMethodDescriptor yX3_init.desc).map (fun d => d.parameters.length) = some 0 := by decide +kernel
theorem kX3_becomeLike : yX3_becomeLike.cls = RX3 ∧ yX3_becomeLike.cls ≠ "java/lang/invoke/MethodHandle" ∧ yX3_becomeLike.cls ≠ "java/lang/invoke/VarHandle" ∧ (parseMethodDescriptor yX3_becomeLike.desc).map (fun d => d.parameters.length) = some 1 := by decide +kernel
theorem kX3_find : yX3_find.cls = RX3 ∧ yX3_find.cls ≠ "java/lang/invoke/MethodHandle" ∧ yX3_find.cls ≠ "java/lang/invoke/VarHandle" ∧ (parseMethodDescriptor yX3_find.desc).map (fun d => d.parameters.length) = some 1 := by decide +kernel
theorem kX3_freeNumber : yX3_freeNumber.cls = RX3 ∧ yX3_freeNumber.cls ≠ "java/lang/invoke/MethodHandle" ∧ yX3_freeNumber.cls ≠ "java/lang/invoke/VarHandle" ∧ (parseMethodDescriptor yX3_freeNumber.desc).map (fun d => d.parameters.length) = some 0 := by decide +kernel
theorem kX3_ringSet : yX3_ringSet.cls = RX3 ∧ yX3_ringSet.cls ≠ "java/lang/invoke/MethodHandle" ∧ yX3_ringSet.cls ≠ "java/lang/invoke/VarHandle" ∧ (parseMethodDescriptor yX3_ringSet.desc).map (fun d => d.parameters.length) = some 0 := by decide +kernel
theorem kX3_ringsAlike : yX3_ringsAlike.cls = RX3 ∧ yX3_ringsAlike.cls ≠ "java/lang/invoke/MethodHandle" ∧ yX3_ringsAlike.cls ≠ "java/lang/invoke/VarHandle" ∧ (parseMethodDescriptor yX3_ringsAlike.desc).map (fun d => d.parameters.length) = some 2 := by decide +kernel
theorem kX3_charmsHung : yX3_charmsHung.cls = RX3 ∧ yX3_charmsHung.cls ≠ "java/lang/invoke/MethodHandle" ∧ yX3_charmsHung.cls ≠ "java/lang/invoke/VarHandle" ∧ (parseMethodDescriptor yX3_charmsHung.desc).map (fun d => d.parameters.length) = some 1 := by decide +kernel
theorem kX3_boxHasCharmsFor : yX3_boxHasCharmsFor.cls = RX3 ∧ yX3_boxHasCharmsFor.cls ≠ "java/lang/invoke/MethodHandle" ∧ yX3_boxHasCharmsFor.cls ≠ "java/lang/invoke/VarHandle" ∧ (parseMethodDescriptor yX3_boxHasCharmsFor.desc).map (fun d => d.parameters.length) = some 1 := by decide +kernel
theorem kX3_boxHasRoomFor : yX3_boxHasRoomFor.cls = RX3 ∧ yX3_boxHasRoomFor.cls ≠ "java/lang/invoke/MethodHandle" ∧ yX3_boxHasRoomFor.cls ≠ "java/lang/invoke/VarHandle" ∧ (parseMethodDescriptor yX3_boxHasRoomFor.desc).map (fun d => d.parameters.length) = some 1 := by decide +kernel
theorem kX3_takeOut : yX3_takeOut.cls = RX3 ∧ yX3_takeOut.cls ≠ "java/lang/invoke/MethodHandle" ∧ yX3_takeOut.cls ≠ "java/lang/invoke/VarHandle" ∧ (parseMethodDescriptor yX3_takeOut.desc).map (fun d => d.parameters.length) = some 1 := by decide +kernel
theorem kX3_putBack : yX3_putBack.cls = RX3 ∧ yX3_putBack.cls ≠ "java/lang/invoke/MethodHandle" ∧ yX3_putBack.cls ≠ "java/lang/invoke/VarHandle" ∧ (parseMethodDescriptor yX3_putBack.desc).map (fun d => d.parameters.length) = some 1 := by decide +kernel
theorem kX3_weight : yX3_weight.cls = RX3 ∧ yX3_weight.cls ≠ "java/lang/invoke/MethodHandle" ∧ yX3_weight.cls ≠ "java/lang/invoke/VarHandle" ∧ (parseMethodDescriptor yX3_weight.desc).map (fun d => d.parameters.length) = some 3 := by decide +kernel
theorem kX3_quarterWeight : yX3_quarterWeight.cls = RX3 ∧ yX3_quarterWeight.cls ≠ "java/lang/invoke/MethodHandle" ∧ yX3_quarterWeight.cls ≠ "java/lang/invoke/VarHandle" ∧ (parseMethodDescriptor yX3_quarterWeight.desc).map (fun d => d.parameters.length) = some 2 := by decide +kernel
theorem kX3_lean : yX3_lean.cls = RX3 ∧ yX3_lean.cls ≠ "java/lang/invoke/MethodHandle" ∧ yX3_lean.cls ≠ "java/lang/invoke/VarHandle" ∧ (parseMethodDescriptor yX3_lean.desc).map (fun d => d.parameters.length) = some 1 := by decide +kernel
theorem kX4_init : yX4_init.cls = RX4 ∧ yX4_init.cls ≠ "java/lang/invoke/MethodHandle" ∧ yX4_init.cls ≠ "java/lang/invoke/VarHandle" ∧ (parseMethodDescriptor yX4_init.desc).map (fun d => d.parameters.length) = some 0 := by decide +kernel
theorem kX5_init : yX5_init.cls = RX5 ∧ yX5_init.cls ≠ "java/lang/invoke/MethodHandle" ∧ yX5_init.cls ≠ "java/lang/invoke/VarHandle" ∧ (parseMethodDescriptor yX5_init.desc).map (fun d => d.parameters.length) = some 0 := by decide +kernel
theorem kX5_fill : yX5_fill.cls = RX5 ∧ yX5_fill.cls ≠ "java/lang/invoke/MethodHandle" ∧ yX5_fill.cls ≠ "java/lang/invoke/VarHandle" ∧ (parseMethodDescriptor yX5_fill.desc).map (fun d => d.parameters.length) = some 2 := by decide +kernel
theorem kX5_weigh : yX5_weigh.cls = RX5 ∧ yX5_weigh.cls ≠ "java/lang/invoke/MethodHandle" ∧ yX5_weigh.cls ≠ "java/lang/invoke/VarHandle" ∧ (parseMethodDescriptor yX5_weigh.desc).map (fun d => d.parameters.length) = some 2 := by decide +kernel
theorem kX5_kind : yX5_kind.cls = RX5 ∧ yX5_kind.cls ≠ "java/lang/invoke/MethodHandle" ∧ yX5_kind.cls ≠ "java/lang/invoke/VarHandle" ∧ (parseMethodDescriptor yX5_kind.desc).map (fun d => d.parameters.length) = some 2 := by decide +kernel
theorem kX5_make : yX5_make.cls = RX5 ∧ yX5_make.cls ≠ "java/lang/invoke/MethodHandle" ∧ yX5_make.cls ≠ "java/lang/invoke/VarHandle" ∧ (parseMethodDescriptor yX5_make.desc).map (fun d => d.parameters.length) = some 1 := by decide +kernel
theorem kX5_copy : yX5_copy.cls = RX5 ∧ yX5_copy.cls ≠ "java/lang/invoke/MethodHandle" ∧ yX5_copy.cls ≠ "java/lang/invoke/VarHandle" ∧ (parseMethodDescriptor yX5_copy.desc).map (fun d => d.parameters.length) = some 1 := by decide +kernel
theorem kX5_remove : yX5_remove.cls = RX5 ∧ yX5_remove.cls ≠ "java/lang/invoke/MethodHandle" ∧ yX5_remove.cls ≠ "java/lang/invoke/VarHandle" ∧ (parseMethodDescriptor yX5_remove.desc).map (fun d => d.parameters.length) = some 1 := by decide +kernel
theorem kX5_hang : yX5_hang.cls = RX5 ∧ yX5_hang.cls ≠ "java/lang/invoke/MethodHandle" ∧ yX5_hang.cls ≠ "java/lang/invoke/VarHandle" ∧ (parseMethodDescriptor yX5_hang.desc).map (fun d => d.parameters.length) = some 3 := by decide +kernel
theorem kX5_takeOff : yX5_takeOff.cls = RX5 ∧ yX5_takeOff.cls ≠ "java/lang/invoke/MethodHandle" ∧ yX5_takeOff.cls ≠ "java/lang/invoke/VarHandle" ∧ (parseMethodDescriptor yX5_takeOff.desc).map (fun d => d.parameters.length) = some 2 := by decide +kernel
theorem kX5_swap : yX5_swap.cls = RX5 ∧ yX5_swap.cls ≠ "java/lang/invoke/MethodHandle" ∧ yX5_swap.cls ≠ "java/lang/invoke/VarHandle" ∧ (parseMethodDescriptor yX5_swap.desc).map (fun d => d.parameters.length) = some 3 := by decide +kernel
theorem kX5_roll : yX5_roll.cls = RX5 ∧ yX5_roll.cls ≠ "java/lang/invoke/MethodHandle" ∧ yX5_roll.cls ≠ "java/lang/invoke/VarHandle" ∧ (parseMethodDescriptor yX5_roll.desc).map (fun d => d.parameters.length) = some 2 := by decide +kernel
theorem kX5_turn : yX5_turn.cls = RX5 ∧ yX5_turn.cls ≠ "java/lang/invoke/MethodHandle" ∧ yX5_turn.cls ≠ "java/lang/invoke/VarHandle" ∧ (parseMethodDescriptor yX5_turn.desc).map (fun d => d.parameters.length) = some 2 := by decide +kernel
theorem kX5_mirror : yX5_mirror.cls = RX5 ∧ yX5_mirror.cls ≠ "java/lang/invoke/MethodHandle" ∧ yX5_mirror.cls ≠ "java/lang/invoke/VarHandle" ∧ (parseMethodDescriptor yX5_mirror.desc).map (fun d => d.parameters.length) = some 1 := by decide +kernel
theorem kX5_bracelets : yX5_bracelets.cls = RX5 ∧ yX5_bracelets.cls ≠ "java/lang/invoke/MethodHandle" ∧ yX5_bracelets.cls ≠ "java/lang/invoke/VarHandle" ∧ (parseMethodDescriptor yX5_bracelets.desc).map (fun d => d.parameters.length) = some 0 := by decide +kernel
theorem kX5_bracelet : yX5_bracelet.cls = RX5 ∧ yX5_bracelet.cls ≠ "java/lang/invoke/MethodHandle" ∧ yX5_bracelet.cls ≠ "java/lang/invoke/VarHandle" ∧ (parseMethodDescriptor yX5_bracelet.desc).map (fun d => d.parameters.length) = some 2 := by decide +kernel
theorem kX5_slot : yX5_slot.cls = RX5 ∧ yX5_slot.cls ≠ "java/lang/invoke/MethodHandle" ∧ yX5_slot.cls ≠ "java/lang/invoke/VarHandle" ∧ (parseMethodDescriptor yX5_slot.desc).map (fun d => d.parameters.length) = some 2 := by decide +kernel
theorem kX5_quarter : yX5_quarter.cls = RX5 ∧ yX5_quarter.cls ≠ "java/lang/invoke/MethodHandle" ∧ yX5_quarter.cls ≠ "java/lang/invoke/VarHandle" ∧ (parseMethodDescriptor yX5_quarter.desc).map (fun d => d.parameters.length) = some 2 := by decide +kernel
theorem kX5_alike : yX5_alike.cls = RX5 ∧ yX5_alike.cls ≠ "java/lang/invoke/MethodHandle" ∧ yX5_alike.cls ≠ "java/lang/invoke/VarHandle" ∧ (parseMethodDescriptor yX5_alike.desc).map (fun d => d.parameters.length) = some 3 := by decide +kernel
theorem kX5_least : yX5_least.cls = RX5 ∧ yX5_least.cls ≠ "java/lang/invoke/MethodHandle" ∧ yX5_least.cls ≠ "java/lang/invoke/VarHandle" ∧ (parseMethodDescriptor yX5_least.desc).map (fun d => d.parameters.length) = some 3 := by decide +kernel
theorem kX5_orbit : yX5_orbit.cls = RX5 ∧ yX5_orbit.cls ≠ "java/lang/invoke/MethodHandle" ∧ yX5_orbit.cls ≠ "java/lang/invoke/VarHandle" ∧ (parseMethodDescriptor yX5_orbit.desc).map (fun d => d.parameters.length) = some 2 := by decide +kernel
theorem kX5_fixed : yX5_fixed.cls = RX5 ∧ yX5_fixed.cls ≠ "java/lang/invoke/MethodHandle" ∧ yX5_fixed.cls ≠ "java/lang/invoke/VarHandle" ∧ (parseMethodDescriptor yX5_fixed.desc).map (fun d => d.parameters.length) = some 1 := by decide +kernel
theorem kX5_distance : yX5_distance.cls = RX5 ∧ yX5_distance.cls ≠ "java/lang/invoke/MethodHandle" ∧ yX5_distance.cls ≠ "java/lang/invoke/VarHandle" ∧ (parseMethodDescriptor yX5_distance.desc).map (fun d => d.parameters.length) = some 2 := by decide +kernel
theorem kX5_setMotif : yX5_setMotif.cls = RX5 ∧ yX5_setMotif.cls ≠ "java/lang/invoke/MethodHandle" ∧ yX5_setMotif.cls ≠ "java/lang/invoke/VarHandle" ∧ (parseMethodDescriptor yX5_setMotif.desc).map (fun d => d.parameters.length) = some 3 := by decide +kernel
theorem kX5_sign : yX5_sign.cls = RX5 ∧ yX5_sign.cls ≠ "java/lang/invoke/MethodHandle" ∧ yX5_sign.cls ≠ "java/lang/invoke/VarHandle" ∧ (parseMethodDescriptor yX5_sign.desc).map (fun d => d.parameters.length) = some 2 := by decide +kernel
theorem kX5_cutMotif : yX5_cutMotif.cls = RX5 ∧ yX5_cutMotif.cls ≠ "java/lang/invoke/MethodHandle" ∧ yX5_cutMotif.cls ≠ "java/lang/invoke/VarHandle" ∧ (parseMethodDescriptor yX5_cutMotif.desc).map (fun d => d.parameters.length) = some 0 := by decide +kernel
theorem kX5_motif : yX5_motif.cls = RX5 ∧ yX5_motif.cls ≠ "java/lang/invoke/MethodHandle" ∧ yX5_motif.cls ≠ "java/lang/invoke/VarHandle" ∧ (parseMethodDescriptor yX5_motif.desc).map (fun d => d.parameters.length) = some 1 := by decide +kernel
theorem kX5_motifAt : yX5_motifAt.cls = RX5 ∧ yX5_motifAt.cls ≠ "java/lang/invoke/MethodHandle" ∧ yX5_motifAt.cls ≠ "java/lang/invoke/VarHandle" ∧ (parseMethodDescriptor yX5_motifAt.desc).map (fun d => d.parameters.length) = some 1 := by decide +kernel
theorem kX5_staysAt : yX5_staysAt.cls = RX5 ∧ yX5_staysAt.cls ≠ "java/lang/invoke/MethodHandle" ∧ yX5_staysAt.cls ≠ "java/lang/invoke/VarHandle" ∧ (parseMethodDescriptor yX5_staysAt.desc).map (fun d => d.parameters.length) = some 1 := by decide +kernel
theorem kX5_note : yX5_note.cls = RX5 ∧ yX5_note.cls ≠ "java/lang/invoke/MethodHandle" ∧ yX5_note.cls ≠ "java/lang/invoke/VarHandle" ∧ (parseMethodDescriptor yX5_note.desc).map (fun d => d.parameters.length) = some 1 := by decide +kernel
theorem kX5_entries : yX5_entries.cls = RX5 ∧ yX5_entries.cls ≠ "java/lang/invoke/MethodHandle" ∧ yX5_entries.cls ≠ "java/lang/invoke/VarHandle" ∧ (parseMethodDescriptor yX5_entries.desc).map (fun d => d.parameters.length) = some 0 := by decide +kernel
theorem kX5_entry : yX5_entry.cls = RX5 ∧ yX5_entry.cls ≠ "java/lang/invoke/MethodHandle" ∧ yX5_entry.cls ≠ "java/lang/invoke/VarHandle" ∧ (parseMethodDescriptor yX5_entry.desc).map (fun d => d.parameters.length) = some 2 := by decide +kernel
theorem kX5_ifHung : yX5_ifHung.cls = RX5 ∧ yX5_ifHung.cls ≠ "java/lang/invoke/MethodHandle" ∧ yX5_ifHung.cls ≠ "java/lang/invoke/VarHandle" ∧ (parseMethodDescriptor yX5_ifHung.desc).map (fun d => d.parameters.length) = some 3 := by decide +kernel
theorem kX5_bestSwap : yX5_bestSwap.cls = RX5 ∧ yX5_bestSwap.cls ≠ "java/lang/invoke/MethodHandle" ∧ yX5_bestSwap.cls ≠ "java/lang/invoke/VarHandle" ∧ (parseMethodDescriptor yX5_bestSwap.desc).map (fun d => d.parameters.length) = some 1 := by decide +kernel
theorem kX5_record : yX5_record.cls = RX5 ∧ yX5_record.cls ≠ "java/lang/invoke/MethodHandle" ∧ yX5_record.cls ≠ "java/lang/invoke/VarHandle" ∧ (parseMethodDescriptor yX5_record.desc).map (fun d => d.parameters.length) = some 0 := by decide +kernel
theorem kX5_discardOldest : yX5_discardOldest.cls = RX5 ∧ yX5_discardOldest.cls ≠ "java/lang/invoke/MethodHandle" ∧ yX5_discardOldest.cls ≠ "java/lang/invoke/VarHandle" ∧ (parseMethodDescriptor yX5_discardOldest.desc).map (fun d => d.parameters.length) = some 0 := by decide +kernel
theorem kX5_addFromBox : yX5_addFromBox.cls = RX5 ∧ yX5_addFromBox.cls ≠ "java/lang/invoke/MethodHandle" ∧ yX5_addFromBox.cls ≠ "java/lang/invoke/VarHandle" ∧ (parseMethodDescriptor yX5_addFromBox.desc).map (fun d => d.parameters.length) = some 1 := by decide +kernel
theorem kX5_change : yX5_change.cls = RX5 ∧ yX5_change.cls ≠ "java/lang/invoke/MethodHandle" ∧ yX5_change.cls ≠ "java/lang/invoke/VarHandle" ∧ (parseMethodDescriptor yX5_change.desc).map (fun d => d.parameters.length) = some 2 := by decide +kernel
theorem kX5_leanAfterSwap : yX5_leanAfterSwap.cls = RX5 ∧ yX5_leanAfterSwap.cls ≠ "java/lang/invoke/MethodHandle" ∧ yX5_leanAfterSwap.cls ≠ "java/lang/invoke/VarHandle" ∧ (parseMethodDescriptor yX5_leanAfterSwap.desc).map (fun d => d.parameters.length) = some 3 := by decide +kernel
theorem kX5_isCharm : yX5_isCharm.cls = RX5 ∧ yX5_isCharm.cls ≠ "java/lang/invoke/MethodHandle" ∧ yX5_isCharm.cls ≠ "java/lang/invoke/VarHandle" ∧ (parseMethodDescriptor yX5_isCharm.desc).map (fun d => d.parameters.length) = some 1 := by decide +kernel
theorem kX5_isKindOrEmpty : yX5_isKindOrEmpty.cls = RX5 ∧ yX5_isKindOrEmpty.cls ≠ "java/lang/invoke/MethodHandle" ∧ yX5_isKindOrEmpty.cls ≠ "java/lang/invoke/VarHandle" ∧ (parseMethodDescriptor yX5_isKindOrEmpty.desc).map (fun d => d.parameters.length) = some 1 := by decide +kernel
theorem kX5_isSize : yX5_isSize.cls = RX5 ∧ yX5_isSize.cls ≠ "java/lang/invoke/MethodHandle" ∧ yX5_isSize.cls ≠ "java/lang/invoke/VarHandle" ∧ (parseMethodDescriptor yX5_isSize.desc).map (fun d => d.parameters.length) = some 1 := by decide +kernel
theorem kX5_isLevel : yX5_isLevel.cls = RX5 ∧ yX5_isLevel.cls ≠ "java/lang/invoke/MethodHandle" ∧ yX5_isLevel.cls ≠ "java/lang/invoke/VarHandle" ∧ (parseMethodDescriptor yX5_isLevel.desc).map (fun d => d.parameters.length) = some 1 := by decide +kernel
theorem kX5_changeCount : yX5_changeCount.cls = RX5 ∧ yX5_changeCount.cls ≠ "java/lang/invoke/MethodHandle" ∧ yX5_changeCount.cls ≠ "java/lang/invoke/VarHandle" ∧ (parseMethodDescriptor yX5_changeCount.desc).map (fun d => d.parameters.length) = some 2 := by decide +kernel
theorem kX5_changeAt : yX5_changeAt.cls = RX5 ∧ yX5_changeAt.cls ≠ "java/lang/invoke/MethodHandle" ∧ yX5_changeAt.cls ≠ "java/lang/invoke/VarHandle" ∧ (parseMethodDescriptor yX5_changeAt.desc).map (fun d => d.parameters.length) = some 3 := by decide +kernel
theorem kJ6_bitCount_0f7a4 : yJ6_bitCount_0f7a4.cls = RJ6 ∧ yJ6_bitCount_0f7a4.cls ≠ "java/lang/invoke/MethodHandle" ∧ yJ6_bitCount_0f7a4.cls ≠ "java/lang/invoke/VarHandle" ∧ (parseMethodDescriptor yJ6_bitCount_0f7a4.desc).map (fun d => d.parameters.length) = some 1 := by decide +kernel
theorem kJ9_abs_0f7a4 : yJ9_abs_0f7a4.cls = RJ9 ∧ yJ9_abs_0f7a4.cls ≠ "java/lang/invoke/MethodHandle" ∧ yJ9_abs_0f7a4.cls ≠ "java/lang/invoke/VarHandle" ∧ (parseMethodDescriptor yJ9_abs_0f7a4.desc).map (fun d => d.parameters.length) = some 1 := by decide +kernel
theorem kJ9_min_7cf53 : yJ9_min_7cf53.cls = RJ9 ∧ yJ9_min_7cf53.cls ≠ "java/lang/invoke/MethodHandle" ∧ yJ9_min_7cf53.cls ≠ "java/lang/invoke/VarHandle" ∧ (parseMethodDescriptor yJ9_min_7cf53.desc).map (fun d => d.parameters.length) = some 2 := by decide +kernel
