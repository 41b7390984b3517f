/-! the nest mates' words, and what every contract takes along -/
def zNM : List (String × Nat × MethodName × String) := [("CharmBracelets", 9, (⟨"CharmBracelets$State", "<init>", "()V"⟩ : MethodName), "CharmBracelets"), ("CharmBracelets$State", 26, (⟨"CharmBracelets$Motif", "<init>", "()V"⟩ : MethodName), "CharmBracelets"), ("CharmBracelets$State", 33, (⟨"CharmBracelets$NotedList", "<init>", "()V"⟩ : MethodName), "CharmBracelets"), ("CharmBracelets$NotedList", 21, (⟨"CharmBracelets$Ring", "<init>", "()V"⟩ : MethodName), "CharmBracelets"), ("CharmBracelets$State", 38, (⟨"CharmBracelets$Ring", "<init>", "()V"⟩ : MethodName), "CharmBracelets"), ("CharmBracelets", 25, (⟨"CharmBracelets$Text", "<init>", "()V"⟩ : MethodName), "CharmBracelets"), ("CharmBracelets", 32, (⟨"CharmBracelets$Ring", "<init>", "()V"⟩ : MethodName), "CharmBracelets"), ("CharmBracelets", 234, (⟨"CharmBracelets$State", "becomeLike", "(LCharmBracelets$State;)V"⟩ : MethodName), "CharmBracelets"), ("CharmBracelets$State", 45, (⟨"CharmBracelets$Ring", "becomeLike", "(LCharmBracelets$Ring;)V"⟩ : MethodName), "CharmBracelets"), ("CharmBracelets$State", 49, (⟨"CharmBracelets$Motif", "becomeLike", "(LCharmBracelets$Motif;)V"⟩ : MethodName), "CharmBracelets"), ("CharmBracelets$State", 52, (⟨"CharmBracelets$NotedList", "becomeLike", "(LCharmBracelets$NotedList;)V"⟩ : MethodName), "CharmBracelets"), ("CharmBracelets$NotedList", 26, (⟨"CharmBracelets$Ring", "becomeLike", "(LCharmBracelets$Ring;)V"⟩ : MethodName), "CharmBracelets"), ("CharmBracelets", 58, (⟨"CharmBracelets$Ring", "becomeEmpty", "(I)V"⟩ : MethodName), "CharmBracelets"), ("CharmBracelets", 244, (⟨"CharmBracelets$State", "boxHasCharmsFor", "(LCharmBracelets$Ring;)Z"⟩ : MethodName), "CharmBracelets"), ("CharmBracelets$State", 63, (⟨"CharmBracelets$Ring", "charmsOf", "(I)I"⟩ : MethodName), "CharmBracelets"), ("CharmBracelets", 247, (⟨"CharmBracelets$State", "freeNumber", "()I"⟩ : MethodName), "CharmBracelets"), ("CharmBracelets", 250, (⟨"CharmBracelets$State", "takeOut", "(LCharmBracelets$Ring;)V"⟩ : MethodName), "CharmBracelets"), ("CharmBracelets", 215, (⟨"CharmBracelets$Ring", "becomeLike", "(LCharmBracelets$Ring;)V"⟩ : MethodName), "CharmBracelets"), ("CharmBracelets", 66, (⟨"CharmBracelets$State", "find", "(I)LCharmBracelets$Ring;"⟩ : MethodName), "CharmBracelets"), ("CharmBracelets", 70, (⟨"CharmBracelets$State", "boxHasRoomFor", "(LCharmBracelets$Ring;)Z"⟩ : MethodName), "CharmBracelets"), ("CharmBracelets", 74, (⟨"CharmBracelets$Ring", "charms", "()I"⟩ : MethodName), "CharmBracelets"), ("CharmBracelets", 78, (⟨"CharmBracelets$State", "putBack", "(LCharmBracelets$Ring;)V"⟩ : MethodName), "CharmBracelets"), ("CharmBracelets$State", 67, (⟨"CharmBracelets$Ring", "becomeEmpty", "(I)V"⟩ : MethodName), "CharmBracelets"), ("CharmBracelets", 82, (⟨"CharmBracelets$Ring", "hasSlot", "(I)Z"⟩ : MethodName), "CharmBracelets"), ("CharmBracelets", 85, (⟨"CharmBracelets$Ring", "at", "(I)I"⟩ : MethodName), "CharmBracelets"), ("CharmBracelets", 88, (⟨"CharmBracelets$Ring", "put", "(II)V"⟩ : MethodName), "CharmBracelets"), ("CharmBracelets", 92, (⟨"CharmBracelets$Ring", "exchange", "(II)V"⟩ : MethodName), "CharmBracelets"), ("CharmBracelets", 95, (⟨"CharmBracelets$State", "lean", "(LCharmBracelets$Ring;)I"⟩ : MethodName), "CharmBracelets"), ("CharmBracelets$State", 71, (⟨"CharmBracelets$Ring", "at", "(I)I"⟩ : MethodName), "CharmBracelets"), ("CharmBracelets$State", 74, (⟨"CharmBracelets", "isCharm", "(I)Z"⟩ : MethodName), "CharmBracelets"), ("CharmBracelets", 137, (⟨"CharmBracelets$Ring", "differences", "(ILCharmBracelets$Ring;)I"⟩ : MethodName), "CharmBracelets"), ("CharmBracelets", 130, (⟨"CharmBracelets$Ring", "kindAfter", "(II)I"⟩ : MethodName), "CharmBracelets"), ("CharmBracelets", 127, (⟨"CharmBracelets$Ring", "leastChange", "(I)I"⟩ : MethodName), "CharmBracelets"), ("CharmBracelets$Ring", 43, (⟨"CharmBracelets", "changeCount", "(II)I"⟩ : MethodName), "CharmBracelets"), ("CharmBracelets$Ring", 46, (⟨"CharmBracelets", "changeAt", "(III)I"⟩ : MethodName), "CharmBracelets"), ("CharmBracelets", 160, (⟨"CharmBracelets$Motif", "becomeNone", "()V"⟩ : MethodName), "CharmBracelets"), ("CharmBracelets", 165, (⟨"CharmBracelets$Ring", "around", "(I)I"⟩ : MethodName), "CharmBracelets"), ("CharmBracelets", 168, (⟨"CharmBracelets$Motif", "addSign", "(I)V"⟩ : MethodName), "CharmBracelets"), ("CharmBracelets", 171, (⟨"CharmBracelets$Motif", "slotSet", "(LCharmBracelets$Ring;)I"⟩ : MethodName), "CharmBracelets"), ("CharmBracelets$Motif", 34, (⟨"CharmBracelets$Ring", "around", "(I)I"⟩ : MethodName), "CharmBracelets"), ("CharmBracelets$Motif", 38, (⟨"CharmBracelets$Ring", "at", "(I)I"⟩ : MethodName), "CharmBracelets"), ("CharmBracelets", 195, (⟨"CharmBracelets$NotedList", "entryOf", "(LCharmBracelets$Ring;)I"⟩ : MethodName), "CharmBracelets"), ("CharmBracelets$NotedList", 36, (⟨"CharmBracelets$Ring", "isAlike", "(LCharmBracelets$Ring;I)Z"⟩ : MethodName), "CharmBracelets"), ("CharmBracelets", 200, (⟨"CharmBracelets$NotedList", "count", "(ILCharmBracelets$Ring;)V"⟩ : MethodName), "CharmBracelets"), ("CharmBracelets", 51, (⟨"CharmBracelets$State", "charmsHung", "(I)I"⟩ : MethodName), "CharmBracelets"), ("CharmBracelets", 212, (⟨"CharmBracelets$State", "ringsAlike", "(LCharmBracelets$Ring;I)I"⟩ : MethodName), "CharmBracelets"), ("CharmBracelets$State", 59, (⟨"CharmBracelets$Ring", "isAlike", "(LCharmBracelets$Ring;I)Z"⟩ : MethodName), "CharmBracelets"), ("CharmBracelets", 110, (⟨"CharmBracelets$State", "ringSet", "()I"⟩ : MethodName), "CharmBracelets"), ("CharmBracelets", 117, (⟨"CharmBracelets$State", "quarterWeight", "(LCharmBracelets$Ring;I)I"⟩ : MethodName), "CharmBracelets"), ("CharmBracelets", 113, (⟨"CharmBracelets$State", "weight", "(LCharmBracelets$Ring;II)I"⟩ : MethodName), "CharmBracelets"), ("CharmBracelets", 134, (⟨"CharmBracelets$Ring", "differentRings", "(I)I"⟩ : MethodName), "CharmBracelets"), ("CharmBracelets", 188, (⟨"CharmBracelets$Ring", "slotsTurnedInto", "(II)I"⟩ : MethodName), "CharmBracelets"), ("CharmBracelets", 123, (⟨"CharmBracelets$Ring", "isAlike", "(LCharmBracelets$Ring;I)Z"⟩ : MethodName), "CharmBracelets"), ("CharmBracelets", 141, (⟨"CharmBracelets$Ring", "leastDifferences", "(LCharmBracelets$Ring;I)I"⟩ : MethodName), "CharmBracelets")]
def zNF : List (String × Nat × String × String × String × String) := [("CharmBracelets", 179, "CharmBracelets$Motif", "length", "I", "CharmBracelets"), ("CharmBracelets", 185, "CharmBracelets$Motif", "signs", "[I", "CharmBracelets"), ("CharmBracelets$State", 55, "CharmBracelets$Ring", "size", "I", "CharmBracelets"), ("CharmBracelets$Motif", 25, "CharmBracelets$Ring", "size", "I", "CharmBracelets"), ("CharmBracelets", 98, "CharmBracelets$Ring", "size", "I", "CharmBracelets"), ("CharmBracelets", 204, "CharmBracelets$NotedList", "length", "I", "CharmBracelets"), ("CharmBracelets", 205, "CharmBracelets$NotedList", "firsts", "[LCharmBracelets$Ring;", "CharmBracelets"), ("CharmBracelets", 209, "CharmBracelets$NotedList", "times", "[I", "CharmBracelets"), ("CharmBracelets", 44, "CharmBracelets$State", "box", "[I", "CharmBracelets"), ("CharmBracelets", 48, "CharmBracelets$State", "weights", "[I", "CharmBracelets"), ("CharmBracelets", 253, "CharmBracelets$State", "rings", "[LCharmBracelets$Ring;", "CharmBracelets"), ("CharmBracelets", 156, "CharmBracelets$State", "motif", "LCharmBracelets$Motif;", "CharmBracelets"), ("CharmBracelets", 191, "CharmBracelets$State", "list", "LCharmBracelets$NotedList;", "CharmBracelets")]
def zNest (U : State) : Prop := (∀ q ∈ zNM, va_Nw (.methodLinkNest q.1 q.2.1 q.2.2.1 q.2.2.2) U) ∧ ∀ q ∈ zNF, va_Nw (.fieldLinkNest q.1 q.2.1 q.2.2.1 q.2.2.2.1 q.2.2.2.2.1 q.2.2.2.2.2) U
theorem zNest.warm {s U : State} (hW : s.WarmedH U.vm) (h : zNest s) : zNest U := ⟨fun q hq => va_Nw.warmM hW (h.1 q hq), fun q hq => va_Nw.warmF hW (h.2 q hq)⟩
theorem zNest.same {u U : State} (e : u.vm = U.vm) (h : zNest u) : zNest U := ⟨fun q hq => va_Nw.same rfl e (h.1 q hq), fun q hq => va_Nw.same rfl e (h.2 q hq)⟩
abbrev zEnv : Type := Launch × va_G × ClassId × ClassId × ClassId × ClassId
abbrev zl (E : zEnv) : Launch := E.1
abbrev zD (E : zEnv) : va_G := E.2.1
abbrev zI (E : zEnv) : ClassId := E.2.2.1
abbrev zC (E : zEnv) : ClassId := E.2.2.2.1
abbrev zRg (E : zEnv) : ClassId := E.2.2.2.2.1
abbrev zSt (E : zEnv) : ClassId := E.2.2.2.2.2
abbrev zTy (E : zEnv) : List (ClassId × FieldType) := [(zI E, .int), (zC E, .long), (zRg E, .object RX2), (zSt E, .object RX3)]
def zG (E : zEnv) (U : State) : Prop := va_K (zD E) vwCl (zTy E) U ∧ zNest U
theorem zG.warm {E : zEnv} {s U : State} (hW : s.WarmedH U.vm) (h : zG E s) : zG E U := ⟨va_K.moved hW.alike h.1, h.2.warm hW⟩
theorem zG.same {E : zEnv} {u U : State} (e : u.vm = U.vm) (h : zG E u) : zG E U := ⟨va_K.moved (by rw [e]; exact Vm.Alike.refl U.vm) h.1, h.2.same e⟩
/-- one cell -/
abbrev zat (E : zEnv) (a : Nat) (x : va_E) (H : Heap) : Prop := va_at (zD E) vwCl (a, x) H
theorem P1 {E : zEnv} {q : Nat × va_E} {H : Heap} (h : va_at (zD E) vwCl q H) : va_P (zD E) vwCl [q] H := fun k x hx => by
  rcases k with _ | k
  · cases hx; exact h
  · simp at hx
abbrev zRm (fr lo : Nat) : Room := { frames := fr, cells := 0, slots := 0, locals := lo }
def zb (b : Bool) : Int32 := if b then 1 else 0
theorem zfb {E : zEnv} {av : List Value} {P : Heap → Prop} : FrameBlind (va_Pc av (fun U => P U.heap ∧ zG E U)) := fun _ _ _ _ h => ⟨h.1, h.2.1, h.2.2.same rfl⟩
/-- a method that only reads: its answer is r -/
def zRO (E : zEnv) (y : MethodName) (ws : List Cond) (fr lo : Nat) (av : List Value) (P : Heap → Prop) (r : Option Value) : Prop :=
  Met (zl E) y ws (zRm fr lo) (va_Pc av (fun U => P U.heap ∧ zG E U)) (fun _ st oc t => oc = .returned r ∧ t.heap = st.heap) 0 0 (fun _ => False)
/-- a method that writes at A: its answer is r, the new heap is as R says, off A nothing has changed -/
def zWR (E : zEnv) (y : MethodName) (ws : List Cond) (fr lo : Nat) (av : List Value) (P : Heap → Prop) (r : Option Value) (R : Heap → Prop) (A : Nat → Prop) : Prop :=
  Met (zl E) y ws (zRm fr lo) (va_Pc av (fun U => P U.heap ∧ zG E U)) (fun _ st oc t => (oc = .returned r ∧ R t.heap) ∧ t.heap.size = st.heap.size ∧ ∀ q : Nat, ¬ A q → t.heap[q]? = st.heap[q]?) 0 0 A
section ZOF
variable {E : zEnv} {y : MethodName} {ws ws' : List Cond} {fr lo : Nat} {av : List Value} {P : Heap → Prop} {r : Option Value} {R : Heap → Prop} {A : Nat → Prop} {cc : ByteArray} {maxL : Nat}
/-- what a body may use: the machine's facts -/
abbrev zFx (E : zEnv) (y : MethodName) (ws : List Cond) (cc : ByteArray) (maxL : Nat) (p : Program) (s : State) (m : MethodId) (args : Array Value) (c : Code) : Prop :=
  CallFix p m c cc maxL s args ws y.cls ∧ zG E s
theorem zRO.ofI (hw : ws = Cond.code y cc maxL (some .int) :: ws') (hle : (lg_sl av).length ≤ maxL)
    (body : ∀ (p : Program) (e : Env) (s : State) (m : MethodId) (args : Array Value) (below : List Frame) (meth : Method) (c : Code) (H : Heap) (Q : State → Prop), zFx E y ws cc maxL p s m args c → P H →
      (∀ (pc : Nat) (ls : Array Slot) (v : Int32), decode cc pc = .ok (.ireturn, 1) → r = some (.int v) → W p (zl E) e (zRm fr lo) s m args below meth c H [] 0 0 Q (F0 m pc ls [.int v])) →
      ∀ ls : Array Slot, lv_has ls maxL (lv_args 0 av) → W p (zl E) e (zRm fr lo) s m args below meth c H [] 0 0 Q (F0 m 0 ls [])) (hy : plainName y.cls = true := by decide) : zRO E y ws fr lo av P r := by
  refine Met.ofW (cc := cc) (maxL := maxL) (ret := some .int) hy hw ?_
  intro p e s m args below meth c s₁ B hml hv
  obtain ⟨rfl, hP, hG⟩ := hv
  have hlocks := B.notSynchronized
  have hb := B.bytes
  rw [lg_entry_eq]
  refine body p e s m _ below meth c s.heap _ ⟨⟨B.exec, B.bytes, hml, findClass_of_methodNamed B.named, atoms_spec B.pre⟩, hG⟩ hP ?_ _ (lv_entry av hle)
  intro pc ls v hd hr
  exact W.iret B.exec hb B.returns (fun t ht _ => ⟨by rw [hr], ht⟩) (fun _ h => by cases h) hd
theorem zRO.ofZ (hw : ws = Cond.code y cc maxL (some .boolean) :: ws') (hle : (lg_sl av).length ≤ maxL)
    (body : ∀ (p : Program) (e : Env) (s : State) (m : MethodId) (args : Array Value) (below : List Frame) (meth : Method) (c : Code) (H : Heap) (Q : State → Prop), zFx E y ws cc maxL p s m args c → P H →
      (∀ (pc : Nat) (ls : Array Slot) (v : Int32), decode cc pc = .ok (.ireturn, 1) → (v = 0 ∨ v = 1) → r = some (.int v) → W p (zl E) e (zRm fr lo) s m args below meth c H [] 0 0 Q (F0 m pc ls [.int v])) →
      ∀ ls : Array Slot, lv_has ls maxL (lv_args 0 av) → W p (zl E) e (zRm fr lo) s m args below meth c H [] 0 0 Q (F0 m 0 ls [])) (hy : plainName y.cls = true := by decide) : zRO E y ws fr lo av P r := by
  refine Met.ofW (cc := cc) (maxL := maxL) (ret := some .boolean) hy hw ?_
  intro p e s m args below meth c s₁ B hml hv
  obtain ⟨rfl, hP, hG⟩ := hv
  have hlocks := B.notSynchronized
  have hb := B.bytes
  rw [lg_entry_eq]
  refine body p e s m _ below meth c s.heap _ ⟨⟨B.exec, B.bytes, hml, findClass_of_methodNamed B.named, atoms_spec B.pre⟩, hG⟩ hP ?_ _ (lv_entry av hle)
  intro pc ls v hd hv hr
  exact W.zret (ty := .boolean) B.exec hb B.returns (by rcases hv with rfl | rfl <;> rfl) (fun t ht _ => ⟨by rw [hr], ht⟩) (fun _ h => by cases h) hd
theorem zRO.ofL (hw : ws = Cond.code y cc maxL (some .long) :: ws') (hle : (lg_sl av).length ≤ maxL)
    (body : ∀ (p : Program) (e : Env) (s : State) (m : MethodId) (args : Array Value) (below : List Frame) (meth : Method) (c : Code) (H : Heap) (Q : State → Prop), zFx E y ws cc maxL p s m args c → P H →
      (∀ (pc : Nat) (ls : Array Slot) (v : Int64), decode cc pc = .ok (.lreturn, 1) → r = some (.long v) → W p (zl E) e (zRm fr lo) s m args below meth c H [] 0 0 Q (F0 m pc ls [.long v])) →
      ∀ ls : Array Slot, lv_has ls maxL (lv_args 0 av) → W p (zl E) e (zRm fr lo) s m args below meth c H [] 0 0 Q (F0 m 0 ls [])) (hy : plainName y.cls = true := by decide) : zRO E y ws fr lo av P r := by
  refine Met.ofW (cc := cc) (maxL := maxL) (ret := some .long) hy hw ?_
  intro p e s m args below meth c s₁ B hml hv
  obtain ⟨rfl, hP, hG⟩ := hv
  have hlocks := B.notSynchronized
  have hb := B.bytes
  rw [lg_entry_eq]
  refine body p e s m _ below meth c s.heap _ ⟨⟨B.exec, B.bytes, hml, findClass_of_methodNamed B.named, atoms_spec B.pre⟩, hG⟩ hP ?_ _ (lv_entry av hle)
  intro pc ls v hd hr
  exact W.lret B.exec hb B.returns (fun t ht _ => ⟨by rw [hr], ht⟩) (fun _ h => by cases h) hd
theorem zRO.ofA {nm : String} (hw : ws = Cond.code y cc maxL (some (.object nm)) :: ws') (hle : (lg_sl av).length ≤ maxL)
    (body : ∀ (p : Program) (e : Env) (s : State) (m : MethodId) (args : Array Value) (below : List Frame) (meth : Method) (c : Code) (H : Heap) (Q : State → Prop), zFx E y ws cc maxL p s m args c → P H →
      (∀ (pc : Nat) (ls : Array Slot) (v : Value), decode cc pc = .ok (.areturn, 1) → (v = .null ∨ ∃ a, v = .ref a) → r = some v → W p (zl E) e (zRm fr lo) s m args below meth c H [] 0 0 Q (F0 m pc ls [v])) →
      ∀ ls : Array Slot, lv_has ls maxL (lv_args 0 av) → W p (zl E) e (zRm fr lo) s m args below meth c H [] 0 0 Q (F0 m 0 ls [])) (hy : plainName y.cls = true := by decide) : zRO E y ws fr lo av P r := by
  refine Met.ofW (cc := cc) (maxL := maxL) (ret := some (.object nm)) hy hw ?_
  intro p e s m args below meth c s₁ B hml hv
  obtain ⟨rfl, hP, hG⟩ := hv
  have hlocks := B.notSynchronized
  have hb := B.bytes
  rw [lg_entry_eq]
  refine body p e s m _ below meth c s.heap _ ⟨⟨B.exec, B.bytes, hml, findClass_of_methodNamed B.named, atoms_spec B.pre⟩, hG⟩ hP ?_ _ (lv_entry av hle)
  intro pc ls v hd hv hr
  exact W.aret B.exec hb B.returns (Or.inl ⟨nm, rfl⟩) hv (fun t ht _ => ⟨by rw [hr], ht⟩) (fun _ h => by cases h) hd
/-- a writer's frame, at its end -/
theorem zFrm {A : Nat → Prop} {H0 H : Heap} {locs : List Loc} (hS : va_S A H0 H locs) (hz : H.size = H0.size) : ∀ q : Nat, ¬ A q → H[q]? = H0[q]? := by
  intro q hq
  by_cases h : q < H0.size
  · exact hS.2.1 q h hq
  · rw [Array.getElem?_eq_none (by omega), Array.getElem?_eq_none (by omega)]
theorem zWR.ofI (hw : ws = Cond.code y cc maxL (some .int) :: ws') (hle : (lg_sl av).length ≤ maxL)
    (body : ∀ (p : Program) (e : Env) (s : State) (m : MethodId) (args : Array Value) (below : List Frame) (meth : Method) (c : Code) (H : Heap) (Q : State → Prop), zFx E y ws cc maxL p s m args c → P H →
      (∀ (H1 : Heap) (locs : List Loc) (pc : Nat) (ls : Array Slot) (v : Int32), va_S A H H1 locs → H1.size = H.size → decode cc pc = .ok (.ireturn, 1) → r = some (.int v) → R H1 → W p (zl E) e (zRm fr lo) s m args below meth c H1 locs 0 0 Q (F0 m pc ls [.int v])) →
      ∀ ls : Array Slot, lv_has ls maxL (lv_args 0 av) → W p (zl E) e (zRm fr lo) s m args below meth c H [] 0 0 Q (F0 m 0 ls [])) (hy : plainName y.cls = true := by decide) : zWR E y ws fr lo av P r R A := by
  refine Met.ofW (cc := cc) (maxL := maxL) (ret := some .int) hy hw ?_
  intro p e s m args below meth c s₁ B hml hv
  obtain ⟨rfl, hP, hG⟩ := hv
  have hlocks := B.notSynchronized
  have hb := B.bytes
  rw [lg_entry_eq]
  refine body p e s m _ below meth c s.heap _ ⟨⟨B.exec, B.bytes, hml, findClass_of_methodNamed B.named, atoms_spec B.pre⟩, hG⟩ hP ?_ _ (lv_entry av hle)
  intro H1 locs pc ls v hS hz hd hr hR
  exact W.iret B.exec hb B.returns (fun t ht _ => ⟨⟨by rw [hr], by rw [ht]; exact hR⟩, by rw [ht]; exact hz, by rw [ht]; exact zFrm hS hz⟩) hS.2.2 hd
theorem zWR.ofZ (hw : ws = Cond.code y cc maxL (some .boolean) :: ws') (hle : (lg_sl av).length ≤ maxL)
    (body : ∀ (p : Program) (e : Env) (s : State) (m : MethodId) (args : Array Value) (below : List Frame) (meth : Method) (c : Code) (H : Heap) (Q : State → Prop), zFx E y ws cc maxL p s m args c → P H →
      (∀ (H1 : Heap) (locs : List Loc) (pc : Nat) (ls : Array Slot) (v : Int32), va_S A H H1 locs → H1.size = H.size → decode cc pc = .ok (.ireturn, 1) → (v = 0 ∨ v = 1) → r = some (.int v) → R H1 → W p (zl E) e (zRm fr lo) s m args below meth c H1 locs 0 0 Q (F0 m pc ls [.int v])) →
      ∀ ls : Array Slot, lv_has ls maxL (lv_args 0 av) → W p (zl E) e (zRm fr lo) s m args below meth c H [] 0 0 Q (F0 m 0 ls [])) (hy : plainName y.cls = true := by decide) : zWR E y ws fr lo av P r R A := by
  refine Met.ofW (cc := cc) (maxL := maxL) (ret := some .boolean) hy hw ?_
  intro p e s m args below meth c s₁ B hml hv
  obtain ⟨rfl, hP, hG⟩ := hv
  have hlocks := B.notSynchronized
  have hb := B.bytes
  rw [lg_entry_eq]
  refine body p e s m _ below meth c s.heap _ ⟨⟨B.exec, B.bytes, hml, findClass_of_methodNamed B.named, atoms_spec B.pre⟩, hG⟩ hP ?_ _ (lv_entry av hle)
  intro H1 locs pc ls v hS hz hd hv hr hR
  exact W.zret (ty := .boolean) B.exec hb B.returns (by rcases hv with rfl | rfl <;> rfl) (fun t ht _ => ⟨⟨by rw [hr], by rw [ht]; exact hR⟩, by rw [ht]; exact hz, by rw [ht]; exact zFrm hS hz⟩) hS.2.2 hd
theorem zWR.ofV (hw : ws = Cond.code y cc maxL none :: ws') (hle : (lg_sl av).length ≤ maxL)
    (body : ∀ (p : Program) (e : Env) (s : State) (m : MethodId) (args : Array Value) (below : List Frame) (meth : Method) (c : Code) (H : Heap) (Q : State → Prop), zFx E y ws cc maxL p s m args c → P H →
      (∀ (H1 : Heap) (locs : List Loc) (pc : Nat) (ls : Array Slot), va_S A H H1 locs → H1.size = H.size → decode cc pc = .ok (.return_, 1) → R H1 → W p (zl E) e (zRm fr lo) s m args below meth c H1 locs 0 0 Q (F0 m pc ls [])) →
      ∀ ls : Array Slot, lv_has ls maxL (lv_args 0 av) → W p (zl E) e (zRm fr lo) s m args below meth c H [] 0 0 Q (F0 m 0 ls [])) (hy : plainName y.cls = true := by decide) : zWR E y ws fr lo av P none R A := by
  refine Met.ofW (cc := cc) (maxL := maxL) (ret := none) hy hw ?_
  intro p e s m args below meth c s₁ B hml hv
  obtain ⟨rfl, hP, hG⟩ := hv
  have hlocks := B.notSynchronized
  have hb := B.bytes
  rw [lg_entry_eq]
  refine body p e s m _ below meth c s.heap _ ⟨⟨B.exec, B.bytes, hml, findClass_of_methodNamed B.named, atoms_spec B.pre⟩, hG⟩ hP ?_ _ (lv_entry av hle)
  intro H1 locs pc ls hS hz hd hR
  exact W.vret B.exec hb B.returns (fun t ht _ => ⟨⟨rfl, by rw [ht]; exact hR⟩, by rw [ht]; exact hz, by rw [ht]; exact zFrm hS hz⟩) hS.2.2 hd
end ZOF
/-! the rows: numbers are nI of a Nat wherever they can be -/
section ZROW
variable {p : Program} {l : Launch} {e : Env} {R : Room} {s : State} {m : MethodId} {args : Array Value} {below : List Frame} {meth : Method} {c : Code} {H H0 : Heap} {locs : List Loc} {cells slots : Nat} {Q : State → Prop} {cc : ByteArray} {pc : Nat} {ls : Array Slot} {rest : List Value} {E : zEnv}
theorem z_top {x y : Int32} (h : x = y) (k : W p l e R s m args below meth c H locs cells slots Q (F0 m pc ls (.int y :: rest))) : W p l e R s m args below meth c H locs cells slots Q (F0 m pc ls (.int x :: rest)) := by rw [h]; exact k
theorem z_topl {x y : Int64} (h : x = y) (k : W p l e R s m args below meth c H locs cells slots Q (F0 m pc ls (.long y :: rest))) : W p l e R s m args below meth c H locs cells slots Q (F0 m pc ls (.long x :: rest)) := by rw [h]; exact k
theorem z_iadd (hx : p.tables.exec = Jvm.exec) (hb : c.code = cc) {a b : Nat} (hd : decode cc pc = .ok (.iadd, 1)) (k : W p l e R s m args below meth c H locs cells slots Q (F0 m (pc + 1) ls (.int (nI (a + b)) :: rest))) : W p l e R s m args below meth c H locs cells slots Q (F0 m pc ls (.int (nI b) :: .int (nI a) :: rest)) := lv_iadd hx hb hd (z_top (nI_add a b) k)
theorem z_isub (hx : p.tables.exec = Jvm.exec) (hb : c.code = cc) {a b : Nat} (hd : decode cc pc = .ok (.isub, 1)) (h : b ≤ a) (k : W p l e R s m args below meth c H locs cells slots Q (F0 m (pc + 1) ls (.int (nI (a - b)) :: rest))) : W p l e R s m args below meth c H locs cells slots Q (F0 m pc ls (.int (nI b) :: .int (nI a) :: rest)) := lv_isub hx hb hd (z_top (pk_sub h) k)
theorem z_imul (hx : p.tables.exec = Jvm.exec) (hb : c.code = cc) {a b : Nat} (hd : decode cc pc = .ok (.imul, 1)) (k : W p l e R s m args below meth c H locs cells slots Q (F0 m (pc + 1) ls (.int (nI (a * b)) :: rest))) : W p l e R s m args below meth c H locs cells slots Q (F0 m pc ls (.int (nI b) :: .int (nI a) :: rest)) := lv_imul hx hb hd (z_top (pk_mul a b) k)
theorem z_idiv (hx : p.tables.exec = Jvm.exec) (hb : c.code = cc) {a b : Nat} (hd : decode cc pc = .ok (.idiv, 1)) (h : a < 2 ^ 31 ∧ 0 < b ∧ b < 2 ^ 31) (k : W p l e R s m args below meth c H locs cells slots Q (F0 m (pc + 1) ls (.int (nI (a / b)) :: rest))) : W p l e R s m args below meth c H locs cells slots Q (F0 m pc ls (.int (nI b) :: .int (nI a) :: rest)) := lv_idiv hx hb hd (nI_ne0 h.2.1 h.2.2) (z_top (pk_div h.1 h.2.1 h.2.2) k)
theorem z_irem (hx : p.tables.exec = Jvm.exec) (hb : c.code = cc) {a b : Nat} (hd : decode cc pc = .ok (.irem, 1)) (h : a < 2 ^ 31 ∧ 0 < b ∧ b < 2 ^ 31) (k : W p l e R s m args below meth c H locs cells slots Q (F0 m (pc + 1) ls (.int (nI (a % b)) :: rest))) : W p l e R s m args below meth c H locs cells slots Q (F0 m pc ls (.int (nI b) :: .int (nI a) :: rest)) := lv_irem hx hb hd (nI_ne0 h.2.1 h.2.2) (z_top (pk_rem h.1 h.2.1 h.2.2) k)
theorem z_inc1 (n : Nat) : nI n + Int32.ofInt 1 = nI (n + 1) := (nI_1 n)
theorem z_inc4 (n : Nat) : nI n + Int32.ofInt 4 = nI (n + 4) := (nI_add n 4)
theorem z_dec1 (n : Nat) : nI (n + 1) + Int32.ofInt (-1) = nI n := pk_m1 n
theorem z_cge (hx : p.tables.exec = Jvm.exec) (hb : c.code = cc) {a b : Nat} {off : Int} {tgt : Nat} (hd : decode cc pc = .ok (.if_icmp .ge off, 3)) (ht : (pc : Int) + off = (tgt : Int)) (h : a < 2 ^ 31 ∧ b < 2 ^ 31) (kt : b ≤ a → W p l e R s m args below meth c H locs cells slots Q (F0 m tgt ls rest)) (kf : a < b → W p l e R s m args below meth c H locs cells slots Q (F0 m (pc + 3) ls rest)) : W p l e R s m args below meth c H locs cells slots Q (F0 m pc ls (.int (nI b) :: .int (nI a) :: rest)) := lv_icmp_ge hx hb hd ht (fun z => kt ((nI_leI h.2 h.1).mp z)) (fun z => kf (Nat.lt_of_not_le fun q => z ((nI_leI h.2 h.1).mpr q)))
theorem z_clt (hx : p.tables.exec = Jvm.exec) (hb : c.code = cc) {a b : Nat} {off : Int} {tgt : Nat} (hd : decode cc pc = .ok (.if_icmp .lt off, 3)) (ht : (pc : Int) + off = (tgt : Int)) (h : a < 2 ^ 31 ∧ b < 2 ^ 31) (kt : a < b → W p l e R s m args below meth c H locs cells slots Q (F0 m tgt ls rest)) (kf : b ≤ a → W p l e R s m args below meth c H locs cells slots Q (F0 m (pc + 3) ls rest)) : W p l e R s m args below meth c H locs cells slots Q (F0 m pc ls (.int (nI b) :: .int (nI a) :: rest)) := lv_icmp_lt hx hb hd ht (fun z => kt ((nI_ltI h.1 h.2).mp z)) (fun z => kf (Nat.le_of_not_lt fun q => z ((nI_ltI h.1 h.2).mpr q)))
theorem z_cgt (hx : p.tables.exec = Jvm.exec) (hb : c.code = cc) {a b : Nat} {off : Int} {tgt : Nat} (hd : decode cc pc = .ok (.if_icmp .gt off, 3)) (ht : (pc : Int) + off = (tgt : Int)) (h : a < 2 ^ 31 ∧ b < 2 ^ 31) (kt : b < a → W p l e R s m args below meth c H locs cells slots Q (F0 m tgt ls rest)) (kf : a ≤ b → W p l e R s m args below meth c H locs cells slots Q (F0 m (pc + 3) ls rest)) : W p l e R s m args below meth c H locs cells slots Q (F0 m pc ls (.int (nI b) :: .int (nI a) :: rest)) := lv_icmp_gt hx hb hd ht (fun z => kt ((nI_ltI h.2 h.1).mp z)) (fun z => kf (Nat.le_of_not_lt fun q => z ((nI_ltI h.2 h.1).mpr q)))
theorem z_cle (hx : p.tables.exec = Jvm.exec) (hb : c.code = cc) {a b : Nat} {off : Int} {tgt : Nat} (hd : decode cc pc = .ok (.if_icmp .le off, 3)) (ht : (pc : Int) + off = (tgt : Int)) (h : a < 2 ^ 31 ∧ b < 2 ^ 31) (kt : a ≤ b → W p l e R s m args below meth c H locs cells slots Q (F0 m tgt ls rest)) (kf : b < a → W p l e R s m args below meth c H locs cells slots Q (F0 m (pc + 3) ls rest)) : W p l e R s m args below meth c H locs cells slots Q (F0 m pc ls (.int (nI b) :: .int (nI a) :: rest)) := lv_icmp_le hx hb hd ht (fun z => kt ((nI_leI h.1 h.2).mp z)) (fun z => kf (Nat.lt_of_not_le fun q => z ((nI_leI h.1 h.2).mpr q)))
theorem z_ceq (hx : p.tables.exec = Jvm.exec) (hb : c.code = cc) {a b : Nat} {off : Int} {tgt : Nat} (hd : decode cc pc = .ok (.if_icmp .eq off, 3)) (ht : (pc : Int) + off = (tgt : Int)) (h : a < 2 ^ 31 ∧ b < 2 ^ 31) (kt : a = b → W p l e R s m args below meth c H locs cells slots Q (F0 m tgt ls rest)) (kf : a ≠ b → W p l e R s m args below meth c H locs cells slots Q (F0 m (pc + 3) ls rest)) : W p l e R s m args below meth c H locs cells slots Q (F0 m pc ls (.int (nI b) :: .int (nI a) :: rest)) := lv_icmp_eq hx hb hd ht (fun z => kt ((nI_eq h.1 h.2).mp z)) (fun z => kf (fun q => z ((nI_eq h.1 h.2).mpr q)))
theorem z_cne (hx : p.tables.exec = Jvm.exec) (hb : c.code = cc) {a b : Nat} {off : Int} {tgt : Nat} (hd : decode cc pc = .ok (.if_icmp .ne off, 3)) (ht : (pc : Int) + off = (tgt : Int)) (h : a < 2 ^ 31 ∧ b < 2 ^ 31) (kt : a ≠ b → W p l e R s m args below meth c H locs cells slots Q (F0 m tgt ls rest)) (kf : a = b → W p l e R s m args below meth c H locs cells slots Q (F0 m (pc + 3) ls rest)) : W p l e R s m args below meth c H locs cells slots Q (F0 m pc ls (.int (nI b) :: .int (nI a) :: rest)) := lv_icmp_ne hx hb hd ht (fun z => kt (fun q => z ((nI_eq h.1 h.2).mpr q))) (fun z => kf ((nI_eq h.1 h.2).mp z))
theorem z_feq (hx : p.tables.exec = Jvm.exec) (hb : c.code = cc) {a : Nat} {off : Int} {tgt : Nat} (hd : decode cc pc = .ok (.ifCond .eq off, 3)) (ht : (pc : Int) + off = (tgt : Int)) (h : a < 2 ^ 31) (kt : a = 0 → W p l e R s m args below meth c H locs cells slots Q (F0 m tgt ls rest)) (kf : a ≠ 0 → W p l e R s m args below meth c H locs cells slots Q (F0 m (pc + 3) ls rest)) : W p l e R s m args below meth c H locs cells slots Q (F0 m pc ls (.int (nI a) :: rest)) := lv_if_eq hx hb hd ht (fun z => kt ((nI_eq h (by decide : 0 < 2 ^ 31)).mp z)) (fun z => kf (fun q => z (by rw [q]; rfl)))
theorem z_fne (hx : p.tables.exec = Jvm.exec) (hb : c.code = cc) {a : Nat} {off : Int} {tgt : Nat} (hd : decode cc pc = .ok (.ifCond .ne off, 3)) (ht : (pc : Int) + off = (tgt : Int)) (h : a < 2 ^ 31) (kt : a ≠ 0 → W p l e R s m args below meth c H locs cells slots Q (F0 m tgt ls rest)) (kf : a = 0 → W p l e R s m args below meth c H locs cells slots Q (F0 m (pc + 3) ls rest)) : W p l e R s m args below meth c H locs cells slots Q (F0 m pc ls (.int (nI a) :: rest)) := lv_if_ne hx hb hd ht (fun z => kt (fun q => z (by rw [q]; rfl))) (fun z => kf ((nI_eq h (by decide : 0 < 2 ^ 31)).mp z))
theorem z_flt (hx : p.tables.exec = Jvm.exec) (hb : c.code = cc) {a : Nat} {off : Int} {tgt : Nat} (hd : decode cc pc = .ok (.ifCond .lt off, 3)) (ht : (pc : Int) + off = (tgt : Int)) (h : a < 2 ^ 31) (kf : W p l e R s m args below meth c H locs cells slots Q (F0 m (pc + 3) ls rest)) : W p l e R s m args below meth c H locs cells slots Q (F0 m pc ls (.int (nI a) :: rest)) := lv_if_lt hx hb hd ht (fun z => absurd z (nI_pos h)) (fun _ => kf)
theorem z_fge (hx : p.tables.exec = Jvm.exec) (hb : c.code = cc) {a : Nat} {off : Int} {tgt : Nat} (hd : decode cc pc = .ok (.ifCond .ge off, 3)) (ht : (pc : Int) + off = (tgt : Int)) (h : a < 2 ^ 31) (kt : W p l e R s m args below meth c H locs cells slots Q (F0 m tgt ls rest)) : W p l e R s m args below meth c H locs cells slots Q (F0 m pc ls (.int (nI a) :: rest)) := lv_if_ge hx hb hd ht (fun _ => kt) (fun z => absurd (nI_pos' h) z)
theorem z_fgt (hx : p.tables.exec = Jvm.exec) (hb : c.code = cc) {a : Nat} {off : Int} {tgt : Nat} (hd : decode cc pc = .ok (.ifCond .gt off, 3)) (ht : (pc : Int) + off = (tgt : Int)) (h : a < 2 ^ 31) (kt : 0 < a → W p l e R s m args below meth c H locs cells slots Q (F0 m tgt ls rest)) (kf : a = 0 → W p l e R s m args below meth c H locs cells slots Q (F0 m (pc + 3) ls rest)) : W p l e R s m args below meth c H locs cells slots Q (F0 m pc ls (.int (nI a) :: rest)) := lv_if_gt hx hb hd ht (fun z => kt ((nI_ltI (by decide : 0 < 2 ^ 31) h).mp z)) (fun z => kf (Decidable.byContradiction fun q => z ((nI_ltI (by decide : 0 < 2 ^ 31) h).mpr (Nat.pos_of_ne_zero q))))
theorem z_fle (hx : p.tables.exec = Jvm.exec) (hb : c.code = cc) {a : Nat} {off : Int} {tgt : Nat} (hd : decode cc pc = .ok (.ifCond .le off, 3)) (ht : (pc : Int) + off = (tgt : Int)) (h : a < 2 ^ 31) (kt : a = 0 → W p l e R s m args below meth c H locs cells slots Q (F0 m tgt ls rest)) (kf : 0 < a → W p l e R s m args below meth c H locs cells slots Q (F0 m (pc + 3) ls rest)) : W p l e R s m args below meth c H locs cells slots Q (F0 m pc ls (.int (nI a) :: rest)) := lv_if_le hx hb hd ht (fun z => kt (by have h1 := (nI_leI h (by decide : 0 < 2 ^ 31)).mp z; omega)) (fun z => kf (by have h1 : ¬ a ≤ 0 := fun q => z ((nI_leI h (by decide : 0 < 2 ^ 31)).mpr q); omega))
theorem z_beq (hx : p.tables.exec = Jvm.exec) (hb : c.code = cc) {b : Bool} {off : Int} {tgt : Nat} (hd : decode cc pc = .ok (.ifCond .eq off, 3)) (ht : (pc : Int) + off = (tgt : Int)) (kt : b = false → W p l e R s m args below meth c H locs cells slots Q (F0 m tgt ls rest)) (kf : b = true → W p l e R s m args below meth c H locs cells slots Q (F0 m (pc + 3) ls rest)) : W p l e R s m args below meth c H locs cells slots Q (F0 m pc ls (.int (zb b) :: rest)) := lv_if_eq hx hb hd ht (fun z => kt (by cases b; rfl; exact absurd z (by decide))) (fun z => kf (by cases b; exact absurd rfl z; rfl))
theorem z_bne (hx : p.tables.exec = Jvm.exec) (hb : c.code = cc) {b : Bool} {off : Int} {tgt : Nat} (hd : decode cc pc = .ok (.ifCond .ne off, 3)) (ht : (pc : Int) + off = (tgt : Int)) (kt : b = true → W p l e R s m args below meth c H locs cells slots Q (F0 m tgt ls rest)) (kf : b = false → W p l e R s m args below meth c H locs cells slots Q (F0 m (pc + 3) ls rest)) : W p l e R s m args below meth c H locs cells slots Q (F0 m pc ls (.int (zb b) :: rest)) := lv_if_ne hx hb hd ht (fun z => kt (by cases b; exact absurd rfl z; rfl)) (fun z => kf (by cases b; rfl; exact absurd z (by decide)))
/-- reading -/
theorem z_iald (hx : p.tables.exec = Jvm.exec) (hb : c.code = cc) (hG : zG E s) {a n j : Nat} {f : Nat → Int32} (h : zat E a (.inl (zI E, n, .inl f)) H) (hj : j < n ∧ n < 2 ^ 31) (hd : decode cc pc = .ok (.iaload, 1)) (k : W p l e R s m args below meth c H locs cells slots Q (F0 m (pc + 1) ls (.int (f j) :: rest))) : W p l e R s m args below meth c H locs cells slots Q (F0 m pc ls (.int (nI j) :: .ref a :: rest)) := by
  refine va_iald hx hb hG.1 (P1 h) 0 0 rfl rfl (vp_in_nI hj.1 hj.2) hd ?_
  rw [nI_clamp (Nat.lt_trans hj.1 hj.2)]
  exact k
theorem z_aaldR (hx : p.tables.exec = Jvm.exec) (hb : c.code = cc) (hG : zG E s) {a n j v : Nat} {f : Nat → Option Nat} (h : zat E a (.inl (zRg E, n, .inr (.inr (.inr (.inr f))))) H) (hj : j < n ∧ n < 2 ^ 31) (hv : f j = some v) (hd : decode cc pc = .ok (.aaload, 1)) (k : W p l e R s m args below meth c H locs cells slots Q (F0 m (pc + 1) ls (.ref v :: rest))) : W p l e R s m args below meth c H locs cells slots Q (F0 m pc ls (.int (nI j) :: .ref a :: rest)) := by
  refine va_aldq hx hb hG.1 (P1 h) 0 2 rfl rfl (vp_in_nI hj.1 hj.2) hd ?_
  rw [nI_clamp (Nat.lt_trans hj.1 hj.2), hv]
  exact k
theorem z_aaldS (hx : p.tables.exec = Jvm.exec) (hb : c.code = cc) (hG : zG E s) {a n j v : Nat} {f : Nat → Option Nat} (h : zat E a (.inl (zSt E, n, .inr (.inr (.inr (.inr f))))) H) (hj : j < n ∧ n < 2 ^ 31) (hv : f j = some v) (hd : decode cc pc = .ok (.aaload, 1)) (k : W p l e R s m args below meth c H locs cells slots Q (F0 m (pc + 1) ls (.ref v :: rest))) : W p l e R s m args below meth c H locs cells slots Q (F0 m pc ls (.int (nI j) :: .ref a :: rest)) := by
  refine va_aldq hx hb hG.1 (P1 h) 0 3 rfl rfl (vp_in_nI hj.1 hj.2) hd ?_
  rw [nI_clamp (Nat.lt_trans hj.1 hj.2), hv]
  exact k
theorem z_alenI (hx : p.tables.exec = Jvm.exec) (hb : c.code = cc) (hG : zG E s) {a n : Nat} {f : Nat → Int32} (h : zat E a (.inl (zI E, n, .inl f)) H) (hd : decode cc pc = .ok (.arraylength, 1)) (k : W p l e R s m args below meth c H locs cells slots Q (F0 m (pc + 1) ls (.int (nI n) :: rest))) : W p l e R s m args below meth c H locs cells slots Q (F0 m pc ls (.ref a :: rest)) := va_alen (v := nI n) hx hb hG.1 (P1 h) 0 0 rfl rfl rfl hd k
theorem z_alenR (hx : p.tables.exec = Jvm.exec) (hb : c.code = cc) (hG : zG E s) {a n : Nat} {f : Nat → Option Nat} (h : zat E a (.inl (zRg E, n, .inr (.inr (.inr (.inr f))))) H) (hd : decode cc pc = .ok (.arraylength, 1)) (k : W p l e R s m args below meth c H locs cells slots Q (F0 m (pc + 1) ls (.int (nI n) :: rest))) : W p l e R s m args below meth c H locs cells slots Q (F0 m pc ls (.ref a :: rest)) := va_alen (v := nI n) hx hb hG.1 (P1 h) 0 2 rfl rfl rfl hd k
theorem z_alenS (hx : p.tables.exec = Jvm.exec) (hb : c.code = cc) (hG : zG E s) {a n : Nat} {f : Nat → Option Nat} (h : zat E a (.inl (zSt E, n, .inr (.inr (.inr (.inr f))))) H) (hd : decode cc pc = .ok (.arraylength, 1)) (k : W p l e R s m args below meth c H locs cells slots Q (F0 m (pc + 1) ls (.int (nI n) :: rest))) : W p l e R s m args below meth c H locs cells slots Q (F0 m pc ls (.ref a :: rest)) := va_alen (v := nI n) hx hb hG.1 (P1 h) 0 3 rfl rfl rfl hd k
theorem z_get (hx : p.tables.exec = Jvm.exec) (hb : c.code = cc) {own ref C : String} {T : u_T} {N ci index a : Nat} {Ts : List Cond} (hts : ∀ w ∈ Ts, w.before args s = true) (hin : ∀ w ∈ u_ws C T N, w ∈ Ts) (hown : s.vm.findClass own = some m.cls) (hG : zG E s) {fs : List Value} (h : zat E a (.inr (ci, fs)) H) (hc : vwCl[ci]? = some (C, T, N)) (k : Nat) (hk : k < N) (hlink : Cond.fieldLink own index ref (T k).2.1 (T k).2.2.1 ∈ Ts) (hsame : (T k).1 = ref) {v : Value} (hv : fs[k]? = some v) (hd : decode cc pc = .ok (.getfield index, 3)) (kk : W p l e R s m args below meth c H locs cells slots Q (F0 m (pc + 3) ls (v :: rest))) : W p l e R s m args below meth c H locs cells slots Q (F0 m pc ls (.ref a :: rest)) :=
  va_get (D := zD E) hx hb hts hin hown hG.1 (P1 h) 0 rfl hc k hk (hts _ hlink) (fun _ h9 => by rw [← hsame]; exact h9) hv hd kk
theorem z_getN (hx : p.tables.exec = Jvm.exec) (hb : c.code = cc) {own ref C host : String} {T : u_T} {N ci index a : Nat} {Ts : List Cond} (hts : ∀ w ∈ Ts, w.before args s = true) (hin : ∀ w ∈ u_ws C T N, w ∈ Ts) (hown : s.vm.findClass own = some m.cls) (hG : zG E s) {fs : List Value} (h : zat E a (.inr (ci, fs)) H) (hc : vwCl[ci]? = some (C, T, N)) (k : Nat) (hk : k < N) (hlink : (own, index, ref, (T k).2.1, (T k).2.2.1, host) ∈ zNF) (hsame : (T k).1 = ref) {v : Value} (hv : fs[k]? = some v) (hd : decode cc pc = .ok (.getfield index, 3)) (kk : W p l e R s m args below meth c H locs cells slots Q (F0 m (pc + 3) ls (v :: rest))) : W p l e R s m args below meth c H locs cells slots Q (F0 m pc ls (.ref a :: rest)) :=
  va_getN (D := zD E) (host := host) hx hb hts hin hown hG.1 (P1 h) 0 rfl hc k hk (va_Nw.use rfl (hG.2.2 _ hlink)) (fun _ h9 => by rw [← hsame]; exact h9) hv hd kk
end ZROW
