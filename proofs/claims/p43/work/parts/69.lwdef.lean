/-! the law: its script, its calls, what holds in its loop -/
def zcel (xs : Nat → Int32) (L k : Nat) : Int32 := if k < L then xs k else 32452867 * nI k + 15485863
set_option maxHeartbeats 4000000 in
set_option maxRecDepth 100000 in
theorem c_L_cell (E : zEnv) {b L k : Nat} {xs : Nat → Int32} (hL : L ≤ 260) (hk : k ≤ 200) : Met (zl E) yL_cell wsL_cell (zRm 0 0) (va_Pc [.ref b, .int (nI k)] (fun U => va_X b L xs U U.heap ∧ zG E U)) (fun _ st oc t => oc = .returned (some (.int (zcel xs L k))) ∧ t.heap = st.heap) 0 0 (fun _ => False) := by
  refine Met.ofW (cc := cL_cell) (maxL := 2) (ret := some .int) (by decide) rfl ?_
  intro p e s m args below meth c s₁ B hml hv
  obtain ⟨rfl, hX, hG⟩ := hv
  have hlocks := B.notSynchronized
  have hb := B.bytes
  have hx := B.exec
  have hown := findClass_of_methodNamed B.named
  have hts := atoms_spec B.pre
  obtain ⟨scr, h1, h2, h3, h4, h5⟩ := hX
  have hl := lv_entry ([.ref b, .int (nI k)]) (n := 2) (Nat.le_of_ble_eq_true rfl)
  rw [lg_entry_eq]
  generalize (lg_sl ([.ref b, .int (nI k)]) ++ List.replicate (2 - (lg_sl ([.ref b, .int (nI k)])).length) Slot.unset).toArray = ls at hl ⊢
  have hl : lv_has ls 2 [(0, .ref b), (1, .int (nI k))] := hl
  refine lv_iload_n hx hb dL_cell_0 rfl (lv_at hl 1 rfl) ?_
  refine lv_aload_n hx hb dL_cell_1 rfl (lv_at hl 0 rfl) ?_
  refine W.alen (n := nI L) hx hb h1 h2 (by rw [h4] <;> rfl) rfl rfl dL_cell_2 ?_
  show W p (zl E) e (zRm 0 0) s m _ below meth c s.heap [] 0 0 _ (F0 m 3 ls [.int (nI L), .int (nI k)])
  refine z_cge (tgt := 12) hx hb dL_cell_3 (by decide) ⟨by omega, by omega⟩ (fun c_1 => ?_) (fun c_1 => ?_)
  · refine lv_ldc (v := 32452867) hx hb hown (hts (.constant RL 7 (32452867)) (by decide +kernel)) dL_cell_12 ?_
    refine lv_iload_n hx hb dL_cell_14 rfl (lv_at hl 1 rfl) ?_
    refine lv_imul hx hb dL_cell_15 ?_
    refine lv_ldc (v := 15485863) hx hb hown (hts (.constant RL 8 (15485863)) (by decide +kernel)) dL_cell_16 ?_
    refine lv_iadd hx hb dL_cell_18 ?_
    refine W.iret hx hb B.returns (fun t ht _ => ⟨?_, ht⟩) (fun _ h => by cases h) dL_cell_19
    unfold zcel
    rw [if_neg (by omega)]
  · refine lv_aload_n hx hb dL_cell_6 rfl (lv_at hl 0 rfl) ?_
    refine lv_iload_n hx hb dL_cell_7 rfl (lv_at hl 1 rfl) ?_
    refine W.iald (v := .int (xs k)) hx hb h1 h2 h3 (by rw [h4]; exact vp_in_nI c_1 (by omega)) (by rw [nI_clamp (by omega)]; exact h5 k c_1) rfl rfl dL_cell_8 ?_
    show W p (zl E) e (zRm 0 0) s m _ below meth c s.heap [] 0 0 _ (F0 m 9 ls [.int (xs k)])
    refine lv_goto (tgt := 19) hx hb dL_cell_9 (by decide) ?_
    refine W.iret hx hb B.returns (fun t ht _ => ⟨?_, ht⟩) (fun _ h => by cases h) dL_cell_19
    unfold zcel
    rw [if_pos c_1]
section ZLCALL
variable {p : Program} {l : Launch} {e : Env} {R : Room} {s : State} {m : MethodId} {args : Array Value} {below : List Frame} {meth : Method} {c : Code} {H H0 : Heap} {locs : List Loc} {cells slots : Nat} {Q : State → Prop} {cc : ByteArray} {pc : Nat} {ls : Array Slot} {rest : List Value} {E : zEnv} {A A1 : Nat → Prop} {y : MethodName} {bytes : ByteArray} {maxL nL index fr lo : Nat} {ret : Option FieldType} {ws ws' : List Cond} {Ts : List Cond} {own C : String} {b : Nat} {As : List Value} {P Rr : Heap → Prop} {r : Option Value} {st0 st1 : List Value}
theorem z_wrSX (S : CallFix p m c cc nL s args Ts own) (hG : zG E s) (hM : zWR E y ws fr lo As P r Rr A1) (n : Nat) (hT : GoodIn Ts (va_wsS own index y ws)) (hw : ws = Cond.code y bytes maxL ret :: ws') (hd : y.cls ≠ "java/lang/invoke/MethodHandle" ∧ y.cls ≠ "java/lang/invoke/VarHandle" ∧ (parseMethodDescriptor y.desc).map (fun d => d.parameters.length) = some n) (hR : fr + 1 ≤ R.frames ∧ 8 + (maxL + 11) + lo ≤ R.locals) (hcs : cells ≤ R.cells ∧ slots ≤ R.slots) (hP : P H) (hn : As.length = n) (hsize : ls.size = nL) (hst0 : st0 = As.reverse ++ rest) (hst : r.toList ++ rest = st1) (hW : (rest.map fun v => v.category).sum ≤ 8) (hdg : decode cc pc = .ok (.invokestatic index, 3)) (hS : va_S A H0 H locs) (hA : ∀ q, A1 q → A q)
    (kk : ∀ (H1 : Heap) (locs1 : List Loc), Rr H1 → H1.size = H.size → (∀ q : Nat, ¬ A1 q → H1[q]? = H[q]?) → va_S A H0 H1 locs1 → W p (zl E) e R s m args below meth c H1 locs1 cells slots Q (F0 m (pc + 3) ls st1)) : W p (zl E) e R s m args below meth c H locs cells slots Q (F0 m pc ls st0) :=
  z_wr (a := As.toArray) (va_runS (rest := rest) S hM (va_cwS n S.2.2.2.2 hT hw rfl rfl hd hR) (z_preS hG hP) rfl hn hsize hst0 (by show 2 * 0 + _ ≤ 8; omega) hdg hcs) hst hS hA kk
/-- a number of the script -/
theorem z_cell {b L k : Nat} {xs : Nat → Int32} (S : CallFix p m c cc nL s args Ts own) (hG : zG E s) (hL : L ≤ 260) (hk : k ≤ 200) (hX : va_X b L xs s H0) (hbl : b < H0.size) (hbA : ¬ A b) (hS : va_S A H0 H locs) (hT : GoodIn Ts (va_wsS own index yL_cell wsL_cell)) (hR : 0 + 1 ≤ R.frames ∧ 8 + (2 + 11) + 0 ≤ R.locals) (hcs : cells ≤ R.cells ∧ slots ≤ R.slots) (hsize : ls.size = nL) (hW : (rest.map fun v => v.category).sum ≤ 8) (hdg : decode cc pc = .ok (.invokestatic index, 3))
    (kk : W p (zl E) e R s m args below meth c H locs cells slots Q (F0 m (pc + 3) ls (.int (zcel xs L k) :: rest))) : W p (zl E) e R s m args below meth c H locs cells slots Q (F0 m pc ls (.int (nI k) :: .ref b :: rest)) := by
  have hXH : va_X b L xs s H := hX.kept (hS.2.1 b hbl hbA)
  refine z_ro (a := [Value.ref b, .int (nI k)].toArray) (va_runS (As := [.ref b, .int (nI k)]) (rest := rest) S (c_L_cell E (b := b) (L := L) (k := k) (xs := xs) hL hk) (va_cwS 2 S.2.2.2.2 hT rfl rfl rfl kL_cell.2 hR) ⟨fun _ _ _ _ h => ⟨h.1, va_X.moved (Vm.Alike.refl _) h.2.1, h.2.2.same rfl⟩, fun U hU hW => ⟨rfl, by rw [hU]; exact va_X.moved hW.alike hXH, hG.warm hW⟩⟩ rfl rfl hsize rfl (by show 2 * 0 + _ ≤ 8; omega) hdg hcs) rfl kk
end ZLCALL
/-- the law's own facts -/
def zLF (E : zEnv) (p : Program) (s : State) (m : MethodId) (c : Code) (b L : Nat) (xs : Nat → Int32) : Prop := CallFix p m c code 22 s #[Value.ref b] wsL_law RL ∧ zG E s ∧ va_X b L xs s s.heap ∧ b < s.heap.size ∧ L ≤ 260
/-- where the object and the five rows lie -/
def zLA (ad : Nat → Nat) (ra ba ga ea ca : Nat) (s : State) : Prop := zInj ad ∧ (∀ q, zAC ad q → s.heap.size ≤ q) ∧ (∀ q, (q = ra ∨ q = ba ∨ q = ga ∨ q = ea ∨ q = ca) → ¬ zAC ad q) ∧ (∀ q, (q = ra ∨ q = ba ∨ q = ga ∨ q = ea ∨ q = ca) → s.heap.size ≤ q) ∧ (ba = ra + 1 ∧ ga = ra + 2 ∧ ea = ra + 3 ∧ ca = ra + 4)
/-- the object's world and the rows, at the loop's head -/
def zLS (E : zEnv) (ad : Nat → Nat) (ra ba ga ea ca : Nat) (s : State) (τ : zT) (rr : Nat → Nat) (bb gg : Nat → Int32) (ee : Nat → Nat) (cc : Nat → Int32) (H : Heap) (locs : List Loc) : Prop :=
  zInv τ ∧ zCWt E ad τ H ∧ zRows E ra ba ga ea ca rr bb gg ee cc H ∧ zRel τ.1 rr bb gg ee cc ∧ va_S (fun q => s.heap.size ≤ q) s.heap H locs
abbrev zLW (p : Program) (e : Env) (s : State) (m : MethodId) (b : Nat) (below : List Frame) (meth : Method) (c : Code) (E : zEnv) (Q : State → Prop) (H : Heap) (locs : List Loc) (pc : Nat) (ls : Array Slot) (st : List Value) : Prop := W p (zl E) e room_1 s m #[Value.ref b] below meth c H locs 600000 7302250 Q (F0 m pc ls st)
/-- from the loop's head on -/
def zLG (p : Program) (e : Env) (s : State) (m : MethodId) (b : Nat) (below : List Frame) (meth : Method) (c : Code) (E : zEnv) (ad : Nat → Nat) (ra ba ga ea ca : Nat) (Q : State → Prop) (i pc : Nat) : Prop :=
  ∀ (τ : zT) (rr : Nat → Nat) (bb gg : Nat → Int32) (ee : Nat → Nat) (cc : Nat → Int32) (H : Heap) (locs : List Loc), zLS E ad ra ba ga ea ca s τ rr bb gg ee cc H locs → ∀ ls : Array Slot, lv_has ls 22 [(0, .ref b), (1, .ref (ad 287)), (2, .ref ra), (3, .ref ba), (4, .ref ga), (5, .ref ea), (6, .ref ca), (7, .int (nI (zNl τ.1))), (8, .int (nI i))] → zLW p e s m b below meth c E Q H locs pc ls []
/-- from the place where the 22 kinds of a round come together -/
def zLJ (p : Program) (e : Env) (s : State) (m : MethodId) (b : Nat) (below : List Frame) (meth : Method) (c : Code) (E : zEnv) (ad : Nat → Nat) (ra ba ga ea ca : Nat) (Q : State → Prop) (i : Nat) : Prop :=
  ∀ (τ : zT) (rr : Nat → Nat) (bb gg : Nat → Int32) (ee : Nat → Nat) (cc : Nat → Int32) (H : Heap) (locs : List Loc), zLS E ad ra ba ga ea ca s τ rr bb gg ee cc H locs → ∀ n9 : Nat, n9 < 6 → ∀ ls : Array Slot, lv_has ls 22 [(0, .ref b), (1, .ref (ad 287)), (2, .ref ra), (3, .ref ba), (4, .ref ga), (5, .ref ea), (6, .ref ca), (7, .int (nI (zNl τ.1))), (8, .int (nI i)), (11, .int (nI n9)), (14, .int (nI 1))] → zLW p e s m b below meth c E Q H locs 1734 ls []
theorem zCW_kept {E : zEnv} {ad : Nat → Nat} {nw sv : zS} {an : Bool} {hs : Nat → zS} {ct ln : Nat} {cd : Nat → Int32} {H H1 : Heap} (h : zCW E ad nw sv an hs ct ln cd H) (e : ∀ q, zAC ad q → H1[q]? = H[q]?) : zCW E ad nw sv an hs ct ln cd H1 := zCWt_kept (τ := (nw, sv, an, hs, ct, ln, cd)) h e
