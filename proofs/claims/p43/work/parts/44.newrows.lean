/-! constructors: new cells come one behind the other -/
def zG2 (E : zEnv) (U : State) : Prop := zG E U ∧ va_AO RX2 U ∧ va_AO RX3 U
theorem zG2.warm {E : zEnv} {s U : State} (hW : s.WarmedH U.vm) (h : zG2 E s) : zG2 E U := ⟨h.1.warm hW, va_AO.moved hW.alike h.2.1, va_AO.moved hW.alike h.2.2⟩
theorem zG2.same {E : zEnv} {u U : State} (e : u.vm = U.vm) (h : zG2 E u) : zG2 E U := ⟨h.1.same e, va_AO.moved (by rw [e]; exact Vm.Alike.refl U.vm) h.2.1, va_AO.moved (by rw [e]; exact Vm.Alike.refl U.vm) h.2.2⟩
abbrev zRm2 (fr lo mc ms : Nat) : Room := { frames := fr, cells := mc, slots := ms, locals := lo }
/-- a constructor: the object is the last cell at its start; behind it come its own cells; nothing ahead of it changes -/
def zNW (E : zEnv) (y : MethodName) (ws : List Cond) (fr lo a mc ms : Nat) (P R : Heap → Prop) : Prop :=
  Met (zl E) y ws (zRm2 fr lo mc ms) (va_Pc [.ref a] (fun U => (U.heap.size = a + 1 ∧ P U.heap) ∧ zG2 E U)) (fun _ st oc t => (oc = .returned none ∧ R t.heap) ∧ t.heap.size = a + 1 + mc ∧ ∀ q : Nat, q < a → t.heap[q]? = st.heap[q]?) mc ms (fun q => a ≤ q)
theorem zNW.of {E : zEnv} {y : MethodName} {ws ws' : List Cond} {fr lo a mc ms maxL : Nat} {P R : Heap → Prop} {cc : ByteArray} (hw : ws = Cond.code y cc maxL none :: ws') (hle : (lg_sl [Value.ref a]).length ≤ maxL) (hn : y.name = "<init>")
    (body : ∀ (p : Program) (e : Env) (s : State) (m : MethodId) (args : Array Value) (below : List Frame) (meth : Method) (c : Code) (H : Heap) (Q : State → Prop), CallFix p m c cc maxL s args ws y.cls ∧ zG2 E s → meth.name = "<init>" → H.size = a + 1 → P H →
      (∀ (H1 : Heap) (locs : List Loc) (pc : Nat) (ls : Array Slot), va_S (fun q => a ≤ q) H H1 locs → H1.size = a + 1 + mc → decode cc pc = .ok (.return_, 1) → R H1 → W p (zl E) e (zRm2 fr lo mc ms) s m args below meth c H1 locs mc ms Q (F0 m pc ls [])) →
      ∀ ls : Array Slot, lv_has ls maxL (lv_args 0 [Value.ref a]) → W p (zl E) e (zRm2 fr lo mc ms) s m args below meth c H [] 0 0 Q (F0 m 0 ls [])) (hy : plainName y.cls = true := by decide) : zNW E y ws fr lo a mc ms P R := by
  refine Met.ofW (cc := cc) (maxL := maxL) (ret := none) hy hw ?_
  intro p e s m args below meth c s₁ B hml hv
  obtain ⟨rfl, ⟨hz, hP⟩, hG⟩ := hv
  have hlocks := B.notSynchronized
  have hb := B.bytes
  have hnm : meth.name = y.name := (name_of_methodNamed B.named B.method).1
  rw [lg_entry_eq]
  refine body p e s m _ below meth c s.heap _ ⟨⟨B.exec, B.bytes, hml, findClass_of_methodNamed B.named, atoms_spec B.pre⟩, hG⟩ (hnm.trans hn) hz hP ?_ _ (lv_entry [Value.ref a] hle)
  intro H1 locs pc ls hS hz1 hd hR
  exact W.vret B.exec hb B.returns (fun t ht _ => ⟨⟨rfl, by rw [ht]; exact hR⟩, by rw [ht]; exact hz1, fun q hq => by rw [ht]; exact hS.2.1 q (by omega) (by omega)⟩) hS.2.2 hd
section ZNEW
variable {p : Program} {l : Launch} {e : Env} {R : Room} {s : State} {m : MethodId} {args : Array Value} {below : List Frame} {meth : Method} {c : Code} {H H0 : Heap} {locs : List Loc} {cells slots : Nat} {Q : State → Prop} {cc : ByteArray} {pc : Nat} {ls : Array Slot} {rest : List Value} {E : zEnv} {A : Nat → Prop}
theorem zvS_new {H1 : Heap} (hS : va_S A H0 H locs) (z1 : H1.size = H.size + 1) (o1 : ∀ q : Nat, q < H.size → H1[q]? = H[q]?) : va_S A H0 H1 locs := ⟨Nat.le_trans hS.1 (by omega), fun x h1 h2 => (o1 x (Nat.lt_of_lt_of_le h1 hS.1)).trans (hS.2.1 x h1 h2), hS.2.2⟩
/-- a new object -/
theorem z_nw (hx : p.tables.exec = Jvm.exec) (hb : c.code = cc) {own C : String} {T : u_T} {N ci index : Nat} {Ts : List Cond} (hts : ∀ w ∈ Ts, w.before args s = true) (hin : ∀ w ∈ u_ws C T N, w ∈ Ts) {ty0 : Nat → FieldType} (hty : ∀ k, k < N → parseFieldDescriptor (T k).2.2.1 = some (ty0 k)) (hown : s.vm.findClass own = some m.cls) (hw : Cond.classLink own index C ∈ Ts ∧ Cond.instantiable C N ∈ Ts ∧ Cond.initialized C ∈ Ts) (hG : zG E s) (hc : vwCl[ci]? = some (C, T, N)) {fs : List Value} (hfs : ∀ j, j < N → defaultValue (ty0 j) = vp_V fs j) {o c1 s1 : Nat} (ho : H.size = o) (hcs : cells + 1 ≤ c1 ∧ c1 ≤ R.cells ∧ slots + N ≤ s1 ∧ s1 ≤ R.slots) (hS : va_S A H0 H locs) (hd : decode cc pc = .ok (.new index, 3))
    (kk : ∀ H1 : Heap, zat E o (.inr (ci, fs)) H1 → H1.size = o + 1 → (∀ q : Nat, q < o → H1[q]? = H[q]?) → va_S A H0 H1 locs → W p l e R s m args below meth c H1 locs c1 s1 Q (F0 m (pc + 3) ls (.ref o :: rest))) : W p l e R s m args below meth c H locs cells slots Q (F0 m pc ls rest) := by
  subst ho
  have hKn := hG.1.1 ci _ hc
  refine W.newcK hx hb hown (hts _ hw.1) (hts _ hw.2.1) (hts _ hw.2.2) rfl hd (by omega) (by omega) hKn.2.1 rfl fun H1 kC hkC e1 z1 o1 => ?_
  exact W.widen hcs.1 hcs.2.2.1 (kk H1 ⟨_, hc, (u_born ty0 hts hin hKn hkC e1 hty).to hfs⟩ z1 o1 (zvS_new hS z1 o1))
/-- a new array of ints, of chars -/
theorem z_naI (hx : p.tables.exec = Jvm.exec) (hb : c.code = cc) {Ts : List Cond} (hts : ∀ w ∈ Ts, w.before args s = true) (hG : zG E s) (hw : Cond.arrayClass .int ∈ Ts) {n o c1 s1 : Nat} (hn : n ≤ 2000) (ho : H.size = o) (hcs : cells + 1 ≤ c1 ∧ c1 ≤ R.cells ∧ slots + n ≤ s1 ∧ s1 ≤ R.slots) (hS : va_S A H0 H locs) (hd : decode cc pc = .ok (.newarray .int, 2))
    (kk : ∀ H1 : Heap, zat E o (.inl (zI E, n, .inl (fun _ => 0))) H1 → H1.size = o + 1 → (∀ q : Nat, q < o → H1[q]? = H[q]?) → va_S A H0 H1 locs → W p l e R s m args below meth c H1 locs c1 s1 Q (F0 m (pc + 2) ls (.ref o :: rest))) : W p l e R s m args below meth c H locs cells slots Q (F0 m pc ls (.int (nI n) :: rest)) := by
  subst ho
  have hr : s.vm.findClass ("[" ++ FieldType.int.toString) = some (zI E) := (hG.1.2 0 _ rfl).2
  refine va_newaK (atype := .int) hx hb (hts _ hw) rfl hd (n := nI n) (N := n) rfl (fun q => vp_in_nI (Nat.lt_succ_self n) (by omega) (Or.inl q)) (nI_clamp (by omega)) (by show n * 4 ≤ 536870912; omega) (by omega) (by omega) rfl fun H1 cA e1 z1 o1 _ hNm => ?_
  have hcA : cA = zI E := Option.some.inj (hNm.symm.trans hr)
  refine W.widen hcs.1 hcs.2.2.1 (kk H1 ?_ z1 o1 (zvS_new hS z1 o1))
  show H1[_]? = some (vp_cell _ _)
  rw [vp_cell_i, ← hcA]
  exact e1
/-- a new array of references -/
theorem z_anq (hx : p.tables.exec = Jvm.exec) (hb : c.code = cc) {own C : String} {index i : Nat} {cA : ClassId} {Ts : List Cond} (hts : ∀ w ∈ Ts, w.before args s = true) (hown : s.vm.findClass own = some m.cls) (hw : Cond.classLink own index C ∈ Ts) (hG : zG E s) (hao : va_AO C s) (hi : (zTy E)[i]? = some (cA, .object C)) {n o c1 s1 : Nat} (hn : n ≤ 2000) (ho : H.size = o) (hcs : cells + 1 ≤ c1 ∧ c1 ≤ R.cells ∧ slots + n ≤ s1 ∧ s1 ≤ R.slots) (hS : va_S A H0 H locs) (hd : decode cc pc = .ok (.anewarray index, 3))
    (kk : ∀ H1 : Heap, zat E o (.inl (cA, n, .inr (.inr (.inr (.inr (fun _ => none)))))) H1 → H1.size = o + 1 → (∀ q : Nat, q < o → H1[q]? = H[q]?) → va_S A H0 H1 locs → W p l e R s m args below meth c H1 locs c1 s1 Q (F0 m (pc + 3) ls (.ref o :: rest))) : W p l e R s m args below meth c H locs cells slots Q (F0 m pc ls (.int (nI n) :: rest)) := by
  subst ho
  obtain ⟨kA0, comp0, -, -, -, hr⟩ := (hG.1.2 i _ hi).2
  have hcl : (nI n).toNatClampNeg = n := nI_clamp (by omega)
  refine W.anew hx hb hown (hts _ hw) (va_AO.use hao) rfl hd (n := nI n) rfl (fun q => vp_in_nI (Nat.lt_succ_self n) (by omega) (Or.inl q)) (by rw [hcl]; omega) (by omega) (by rw [hcl]; omega) fun cB kA comp f1 f2 f3 f4 => ?_
  have hcB : cB = cA := Option.some.inj (f1.symm.trans hr)
  rw [hcl]
  generalize hH1 : H.push ({ cls := cB, slots := Array.replicate n .null, vm := .none } : Cell) = H1
  have z1 : H1.size = H.size + 1 := by rw [← hH1, Array.size_push]
  have e1 : H1[H.size]? = some (arrV cB n (fun _ => .null)) := by rw [← hH1, Array.getElem?_push_size, ← arrV_new]
  have o1 : ∀ q : Nat, q < H.size → H1[q]? = H[q]? := fun q hq => by rw [← hH1, Array.getElem?_push, if_neg (Nat.ne_of_lt hq)]
  refine W.widen hcs.1 hcs.2.2.1 (kk H1 ?_ z1 o1 (zvS_new hS z1 o1))
  show H1[_]? = some (vp_cell _ _)
  rw [vp_cell_q, ← hcB]
  exact e1
/-- a final field, in the class's own constructor -/
theorem z_putF (hx : p.tables.exec = Jvm.exec) (hb : c.code = cc) {own C : String} {T : u_T} {N ci index a : Nat} {Ts : List Cond} (hts : ∀ w ∈ Ts, w.before args s = true) (hin : ∀ w ∈ u_ws C T N, w ∈ Ts) {ty0 : Nat → FieldType} (hty : ∀ k, k < N → parseFieldDescriptor (T k).2.2.1 = some (ty0 k)) (hnm : ∀ a, a < N → ∀ b, b < N → a ≠ b → (T a).2.1 ≠ (T b).2.1) (hown : s.vm.findClass own = some m.cls) (hG : zG E s) {fs : List Value} (h : zat E a (.inr (ci, fs)) H) (hc : vwCl[ci]? = some (C, T, N)) (k : Nat) (hk : k < N) (hlink : Cond.fieldLink own index own (T k).2.1 (T k).2.2.1 ∈ Ts) (hsame : (T k).1 = own) (hfin : (T k).2.2.2 = true) (hin2 : meth.name = "<init>") {v : Value} (hn : narrow (ty0 k) v = v) (hfit : fits (ty0 k) v = true) (hl : k < fs.length) (hS : va_S A H0 H locs) (hA : A a) (hd : decode cc pc = .ok (.putfield index, 3))
    (kk : ∀ (H1 : Heap) (locs1 : List Loc), zat E a (.inr (ci, fs.set k v)) H1 → zOnly a H H1 → va_S A H0 H1 locs1 → W p l e R s m args below meth c H1 locs1 cells slots Q (F0 m (pc + 3) ls rest)) : W p l e R s m args below meth c H locs cells slots Q (F0 m pc ls (v :: .ref a :: rest)) := by
  have hap := va_apart (own := own) hts hin ty0 hty hnm hG.1 hc
  obtain ⟨r, h1, cell, q1, q2, q3, q4⟩ := h
  have hr : r = (C, T, N) := Option.some.inj (h1.symm.trans hc)
  subst hr
  obtain ⟨hS1, hfc, kC, hkC, hkind⟩ := hG.1.1 ci _ hc
  obtain ⟨cf, kf, fi, f, hi, hsl⟩ := hS1 k hk
  have hlay := hts _ (hin _ (u_in_lay hk))
  unfold u_lay at hlay
  rw [if_pos hfin] at hlay
  have hst := (u_facts hfc hkC (u_lays hts hin hk) hi).1
  have hcf : m.cls = cf := by
    obtain ⟨_, _, c', _, _, _, -, -, hf', -, -, -, hown2, -⟩ := Cond.laysFinal_spec hlay
    have e1 : c' = cf := by have := hi.symm.trans hf'; simp at this; exact this.1.symm
    rw [hsame] at hown2
    rw [← e1]; exact Option.some.inj (hown.symm.trans hown2)
  have h6 := u_fits hfc hkC hkind (Or.inr hlay) hi (hty k hk) hn hfit
  refine W.putFinK hx hb hown (hts _ hlink) (by rw [← hsame]; exact hi) hst hcf hin2 (by rw [q2]; exact h6) q1 q3 (by rw [hsl]; exact k2_hasslot (q4 k hk)) rfl rfl hd fun H' e1 e2 e3 => ?_
  rw [hsl] at e1 ⊢
  exact kk H' _ ⟨_, hc, t_OB.to (V := updV (vp_V fs) k v) ⟨_, e1, q2, q3, t_set q4 hap hk v⟩ (fun j _ => vp_updV_set hl v j)⟩ ⟨e2, e3⟩ (hS.put e2 e3 hA)
theorem z_aastR (hx : p.tables.exec = Jvm.exec) (hb : c.code = cc) (hG : zG E s) {a n j v : Nat} {f : Nat → Option Nat} {vs : List Value} (h : zat E a (.inl (zRg E, n, .inr (.inr (.inr (.inr f))))) H) (hv : zat E v (.inr (2, vs)) H) (hj : j < n ∧ n < 2 ^ 31) (hS : va_S A H0 H locs) (hA : A a) (hd : decode cc pc = .ok (.aastore, 1))
    (k : ∀ (H1 : Heap) (locs1 : List Loc), zat E a (.inl (zRg E, n, .inr (.inr (.inr (.inr (va_up f j (some v))))))) H1 → zOnly a H H1 → va_S A H0 H1 locs1 → W p l e R s m args below meth c H1 locs1 cells slots Q (F0 m (pc + 1) ls rest)) : W p l e R s m args below meth c H locs cells slots Q (F0 m pc ls (.ref v :: .int (nI j) :: .ref a :: rest)) := by
  have hin : vp_in (nI j) n := vp_in_nI hj.1 hj.2
  have hlt : (nI j).toNatClampNeg < n := by rw [nI_clamp (Nat.lt_trans hj.1 hj.2)]; exact hj.1
  obtain ⟨r', hr', cellV, g1, g2, g3, -⟩ := hv
  have hcls := (hG.1.1 2 _ rfl).2
  obtain ⟨kA, comp, k1, k2, k3, -⟩ := (hG.1.2 2 _ rfl).2
  have hcomp : comp = (zD E).1 2 := Option.some.inj (k3.symm.trans hcls.1)
  subst hcomp
  obtain ⟨kC, hkC, -⟩ := hcls.2
  refine W.aast hx hb h (fun q h => by cases h) (fun h => by cases h) k1 k2 rfl hkC ⟨fun q => hin (Or.inl q), by show _ < (arrV _ _ _).slots.size; rw [arrV_size]; exact hlt⟩ g1 (fun q h => by rw [g3] at h; cases h) (by rw [g2]; exact hkC) (by rw [g2]; exact va_assign hcls) rfl rfl hd fun H1 e1 z oq => ?_
  refine k H1 _ ?_ ⟨z, oq⟩ (hS.put z oq hA)
  show H1[a]? = some (vp_cell _ _)
  rw [e1, vp_cell_q, vp_cell_q, arrV_store, nI_clamp (Nat.lt_trans hj.1 hj.2)]
  congr 2
  funext q
  by_cases hq : q = j
  · subst hq; simp [updV, va_up, va_rf]
  · simp [updV, va_up, hq]
/-- Object's own constructor -/
theorem z_oi (hx : p.tables.exec = Jvm.exec) (hb : c.code = cc) (hml : c.maxLocals = ls.size) {own : String} {index a : Nat} {Ts : List Cond} (hts : ∀ w ∈ Ts, w.before args s = true) (hown : s.vm.findClass own = some m.cls) (h1 : Cond.methodLink own index Lib.objectInit ∈ Ts) (h2 : Cond.instanceMethod Lib.objectInit ∈ Ts) (h3 : Cond.code Lib.objectInit ⟨#[0xb1]⟩ 1 none ∈ Ts) (hR : 1 ≤ R.frames ∧ 12 ≤ R.locals) (hd : decode cc pc = .ok (.invokespecial index, 3))
    (kk : W p l e R s m args below meth c H locs cells slots Q (F0 m (pc + 3) ls [])) : W p l e R s m args below meth c H locs cells slots Q (F0 m pc ls [.ref a]) :=
  W.objInit hx hb hown (hts _ h1) (hts _ h2) (hts _ h3) rfl hml.symm rfl hd hR.1 hR.2 kk
variable {y : MethodName} {bytes : ByteArray} {maxL nL index fr lo o mc ms c1 s1 : Nat} {ws ws' : List Cond} {Ts : List Cond} {own : String} {P Rr : Heap → Prop}
theorem z_nw0 {a : Array Value} {g : JFrame} {g2 : JFrame} (hr : va_Run p l e R s m args below meth c H locs cells slots mc ms g rest (fun st oc t => (oc = .returned none ∧ Rr t.heap) ∧ t.heap.size = o + 1 + mc ∧ ∀ q : Nat, q < o → t.heap[q]? = st.heap[q]?) (fun q => o ≤ q)) (hg2 : { g with pc := g.pc + 3, stack := rest } = g2) (ho : H.size = o + 1) (hcs : cells + mc ≤ c1 ∧ slots + ms ≤ s1) (hS : va_S A H0 H locs) (hA : ∀ q, o ≤ q → A q)
    (kk : ∀ (H1 : Heap) (locs1 : List Loc), Rr H1 → H1.size = o + 1 + mc → (∀ q : Nat, q < o → H1[q]? = H[q]?) → va_S A H0 H1 locs1 → W p l e R s m args below meth c H1 locs1 c1 s1 Q g2) : W p l e R s m args below meth c H locs cells slots Q g := by
  intro T hT X
  obtain ⟨v, st₀, t, T', L, h0, X', hL, e1, e2, ⟨⟨hv, hp⟩, hz, hk⟩, st⟩ := hr T hT X
  cases hv
  subst hg2
  rw [h0] at hk
  have hS1 := hS.1
  obtain ⟨t2, a1, b1⟩ := W.widen hcs.1 hcs.2 (kk T'.heap (locs ++ L) (by rw [e1]; exact hp) (by rw [e1]; exact hz) (fun q h => by rw [e1]; exact hk q h)
    ⟨by rw [e1, hz]; omega, fun q h1 h2 => by
      rw [e1, hk q (Nat.lt_of_not_le fun z => h2 (hA q z))]; exact hS.2.1 q h1 h2, fun q hq => by
      rcases List.mem_append.mp hq with h | h
      · exact hS.2.2 q h
      · exact hA _ (hL q h)⟩) T' rfl X'
  exact ⟨t2, st t2 a1, b1⟩
/-- a nest mate's constructor -/
theorem z_ni {host : String} (S : CallFix p m c cc nL s args Ts own) (hG : zG2 E s) (hM : zNW E y ws fr lo o mc ms P Rr) (hT : GoodIn Ts ws) (hl : (own, index, y, host) ∈ zNM) (hi : Cond.initialized y.cls ∈ Ts ∧ Cond.instanceMethod y ∈ Ts) (hw : ws = Cond.code y bytes maxL none :: ws') (hd : y.cls ≠ "java/lang/invoke/MethodHandle" ∧ y.cls ≠ "java/lang/invoke/VarHandle" ∧ (parseMethodDescriptor y.desc).map (fun d => d.parameters.length) = some 0) (hyn : y.name = "<init>") (hR : fr + 1 ≤ R.frames ∧ 8 + (maxL + 11) + lo ≤ R.locals) (hP : P H) (ho : H.size = o + 1) (hcs : (cells + mc ≤ c1 ∧ slots + ms ≤ s1) ∧ c1 ≤ R.cells ∧ s1 ≤ R.slots) (hsize : ls.size = nL) (hW : (rest.map fun v => v.category).sum ≤ 8) (hdg : decode cc pc = .ok (.invokespecial index, 3)) (hS : va_S A H0 H locs) (hA : ∀ q, o ≤ q → A q)
    (kk : ∀ (H1 : Heap) (locs1 : List Loc), Rr H1 → H1.size = o + 1 + mc → (∀ q : Nat, q < o → H1[q]? = H[q]?) → va_S A H0 H1 locs1 → W p (zl E) e R s m args below meth c H1 locs1 c1 s1 Q (F0 m (pc + 3) ls rest)) : W p (zl E) e R s m args below meth c H locs cells slots Q (F0 m pc ls (.ref o :: rest)) :=
  z_nw0 (a := [Value.ref o].toArray) (va_runIN (As := []) (b := o) (rest := rest) (g := F0 m pc ls (.ref o :: rest)) S hM ⟨va_cnB 0 S.2.2.2.2 hT hw rfl rfl (hG.1.2.1 _ hl) (S.2.2.2.2 _ hi.1) hd hR, hyn, S.2.2.2.2 _ hi.2⟩ ⟨fun _ _ _ _ h => ⟨h.1, h.2.1, h.2.2.same rfl⟩, fun U hU hW => ⟨rfl, ⟨by rw [hU]; exact ho, by rw [hU]; exact hP⟩, hG.warm hW⟩⟩ rfl rfl hsize rfl (by show 2 * 0 + _ ≤ 8; omega) hdg ⟨by omega, by omega⟩) rfl ho hcs.1 hS hA kk
/-- a public constructor -/
theorem z_np (S : CallFix p m c cc nL s args Ts own) (hG : zG2 E s) (hM : zNW E y ws fr lo o mc ms P Rr) (hT : GoodIn Ts ws) (hi : Cond.initialized y.cls ∈ Ts ∧ Cond.instanceMethod y ∈ Ts ∧ Cond.methodLink own index y ∈ Ts) (hw : ws = Cond.code y bytes maxL none :: ws') (hd : y.cls ≠ "java/lang/invoke/MethodHandle" ∧ y.cls ≠ "java/lang/invoke/VarHandle" ∧ (parseMethodDescriptor y.desc).map (fun d => d.parameters.length) = some 0) (hyn : y.name = "<init>") (hR : fr + 1 ≤ R.frames ∧ 8 + (maxL + 11) + lo ≤ R.locals) (hP : P H) (ho : H.size = o + 1) (hcs : (cells + mc ≤ c1 ∧ slots + ms ≤ s1) ∧ c1 ≤ R.cells ∧ s1 ≤ R.slots) (hsize : ls.size = nL) (hW : (rest.map fun v => v.category).sum ≤ 8) (hdg : decode cc pc = .ok (.invokespecial index, 3)) (hS : va_S A H0 H locs) (hA : ∀ q, o ≤ q → A q)
    (kk : ∀ (H1 : Heap) (locs1 : List Loc), Rr H1 → H1.size = o + 1 + mc → (∀ q : Nat, q < o → H1[q]? = H[q]?) → va_S A H0 H1 locs1 → W p (zl E) e R s m args below meth c H1 locs1 c1 s1 Q (F0 m (pc + 3) ls rest)) : W p (zl E) e R s m args below meth c H locs cells slots Q (F0 m pc ls (.ref o :: rest)) :=
  z_nw0 (a := [Value.ref o].toArray) (va_runI (As := []) (b := o) (rest := rest) (g := F0 m pc ls (.ref o :: rest)) S hM (cwI 0 S.2.2.2.2 hT hw rfl rfl (S.2.2.2.2 _ hi.1) (S.2.2.2.2 _ hi.2.2) (S.2.2.2.2 _ hi.2.1) hyn hd hR) ⟨fun _ _ _ _ h => ⟨h.1, h.2.1, h.2.2.same rfl⟩, fun U hU hW => ⟨rfl, ⟨by rw [hU]; exact ho, by rw [hU]; exact hP⟩, hG.warm hW⟩⟩ rfl rfl hsize rfl (by show 2 * 0 + _ ≤ 8; omega) hdg ⟨by omega, by omega⟩) rfl ho hcs.1 hS hA kk
end ZNEW
