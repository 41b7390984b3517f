/-! THE CLAIM OUT OF ONE WALK OF THE LAW'S BODY. Your part is whole_start (and what it stands on); all else here is the same for every law, but numbers. -/
def R_law : String := "CharmBraceletsLaw"
def lw_P (b : Addr) (xs : List Int32) (args : Array Value) (s : State) : Prop := args = #[.ref b] ∧ s.IntsAt b xs ∧ xs.length ≤ 260 ∧ (Jvm.Cond.and given_1 narrow_1).before args s = true
def lw_Q (_ : Array Value) (s : State) (o : Outcome) (t : State) : Prop := o = .returned (some (.int 1)) ∧ Framed s o t [] 600000 7302250
def lw_Z (below : List Frame) (a : Array Value) (s : State) : State → Prop := fun t => ∃ o, t.status = .running ∧ Ended t below o ∧ lw_Q a s o t
/-- the law's own end, with 1 on the stack, nothing written that was there before, its room as the claim has it -/
theorem lw_ret {p : Program} {l : Launch} {e : Env} {s : State} {m : MethodId} {below : List Frame} {meth : Method} {c : Code} {b : Nat} (hx : p.tables.exec = Jvm.exec) (hb : c.code = code) (hr : meth.sig.returnType = ret) (hlocks : meth.locks = false) {pc : Nat} {H : Heap} {ls : Array Slot} (hdg : decode code pc = .ok (.ireturn, 1)) : W p l e room_1 s m #[Value.ref b] below meth c H [] 600000 7302250 (lw_Z below #[Value.ref b] s) (F0 m pc ls [.int 1]) := by
  intro T hT X
  obtain ⟨fs, hret, hrun, hended, hW, hframe⟩ := X.leave (v := some (.int 1)) (hlocks := hlocks) (fun h => by rw [hr] at h; cases h)
  have hmeth' : T.vm.method? m = some meth := X.method'
  refine ⟨T.setFrames fs, ?_, .returned (some (.int 1)), hrun, hended, rfl, ⟨_, rfl⟩, hW, hframe⟩
  jvm_step X.here [X.here.top, hx, hb, hdg, hmeth', hr, ret, narrow_b1]
  (try refine ⟨rfl, ?_⟩); (try refine ⟨rfl, ?_⟩)
  first | (intro acts; rw [hret _ acts rfl rfl rfl]) | rw [hret _ _ rfl rfl rfl]
  exact Steps.refl _
/-- what holds at the law's entry: the machine, the code, the tables' words (any of lw_tbl by 'hts w (by decide +kernel)'), the script of L ints xs at the cell b, what the Statement gives of the start (any of its parts by flat_of_before) -/
def lw_At (p : Program) (s : State) (m : MethodId) (meth : Method) (c : Code) (b L : Nat) (xs : Nat → Int32) : Prop :=
  p.tables.exec = Jvm.exec ∧ c.code = code ∧ meth.sig.returnType = ret ∧ c.maxLocals = 22 ∧ s.vm.findClass R_law = some m.cls ∧ (∀ w ∈ lw_tbl, w.before #[Value.ref b] s = true) ∧ va_X b L xs s s.heap ∧ b < s.heap.size ∧ meth.locks = false ∧ (Jvm.Cond.and given_1 narrow_1).before #[Value.ref b] s = true
theorem zgf_lt {k : Nat} (h : k < 293) : zgf k < 293 := by
  unfold zgf zof
  split
  · split <;> (try split) <;> omega
  · split
    · split <;> (try split) <;> omega
    · split
      · split <;> (try split) <;> omega
      · split <;> (try split) <;> (try split) <;> (try split) <;> (try split) <;> omega
theorem zNM_in : ∀ q ∈ zNM, Cond.methodLinkNest q.1 q.2.1 q.2.2.1 q.2.2.2 ∈ lw_tbl := by decide +kernel
theorem zNF_in : ∀ q ∈ zNF, Cond.fieldLinkNest q.1 q.2.1 q.2.2.1 q.2.2.2.1 q.2.2.2.2.1 q.2.2.2.2.2 ∈ lw_tbl := by decide +kernel
set_option maxHeartbeats 4000000 in
set_option maxRecDepth 100000 in
/-- the machine's facts at the law's entry: classes, arrays, nest mates -/
theorem zE_of {s : State} {b : Nat} (l : Launch) (hts : ∀ w ∈ lw_tbl, w.before #[Value.ref b] s = true) : ∃ E : zEnv, zl E = l ∧ zG2 E s := by
  obtain ⟨c0, i0, k0⟩ := u_known (C := RX0) (T := TX0) (N := 2) (n := 2) hts inX0 (hts (.instantiable RX0 2) (by decide +kernel))
  obtain ⟨c1, i1, k1⟩ := u_known (C := RX1) (T := TX1) (N := 3) (n := 3) hts inX1 (hts (.instantiable RX1 3) (by decide +kernel))
  obtain ⟨c2, i2, k2⟩ := u_known (C := RX2) (T := TX2) (N := 2) (n := 2) hts inX2 (hts (.instantiable RX2 2) (by decide +kernel))
  obtain ⟨c3, i3, k3⟩ := u_known (C := RX3) (T := TX3) (N := 5) (n := 5) hts inX3 (hts (.instantiable RX3 5) (by decide +kernel))
  obtain ⟨c4, i4, k4⟩ := u_known (C := RX4) (T := TX4) (N := 4) (n := 4) hts inX4 (hts (.instantiable RX4 4) (by decide +kernel))
  obtain ⟨c5, i5, k5⟩ := u_known (C := RX5) (T := TX5) (N := 7) (n := 7) hts inX5 (hts (.instantiable RX5 7) (by decide +kernel))
  obtain ⟨cI, kI, oI, a1, a2, a3⟩ := Cond.arrayClass_spec (hts (.arrayClass .int) (by decide +kernel))
  obtain ⟨cC, kC, oC, b1, b2, b3⟩ := Cond.arrayClass_spec (hts (.arrayClass .long) (by decide +kernel))
  have w2 := hts (.arrayOver (.object RX2)) (by decide +kernel)
  have w3 := hts (.arrayOver (.object RX3)) (by decide +kernel)
  obtain ⟨pR, cR, kR, r1, r2, r3, r4, r5⟩ := Cond.arrayOver_spec w2
  obtain ⟨pS, cS, kS, s1, s2, s3, s4, s5⟩ := Cond.arrayOver_spec w3
  refine ⟨(l, (fun k => if k = 0 then c0 else if k = 1 then c1 else if k = 2 then c2 else if k = 3 then c3 else if k = 4 then c4 else c5, fun k => if k = 0 then i0 else if k = 1 then i1 else if k = 2 then i2 else if k = 3 then i3 else if k = 4 then i4 else i5), cI, cC, cR, cS), rfl, ⟨⟨?_, ?_⟩, ⟨fun q hq => va_Nw.of rfl (hts _ (zNM_in q hq)), fun q hq => va_Nw.of rfl (hts _ (zNF_in q hq))⟩⟩, va_AO.of w2, va_AO.of w3⟩
  · intro k q hq
    match k, hq with
    | 0, hq => cases hq; exact k0
    | 1, hq => cases hq; exact k1
    | 2, hq => cases hq; exact k2
    | 3, hq => cases hq; exact k3
    | 4, hq => cases hq; exact k4
    | 5, hq => cases hq; exact k5
    | k + 6, hq => simp [vwCl] at hq
  · intro k q hq
    match k, hq with
    | 0, hq => cases hq; exact ⟨fun n z => ⟨(fun k h => by cases h), kI, a2, oI, a3⟩, a1⟩
    | 1, hq => cases hq; exact ⟨fun n z => ⟨(fun k h => by cases h), kC, b2, oC, b3⟩, b1⟩
    | 2, hq => cases hq; exact ⟨fun n z => ⟨(fun k h => by cases h), kR, r3, pR, r4⟩, kR, pR, r3, r4, r1, r5⟩
    | 3, hq => cases hq; exact ⟨fun n z => ⟨(fun k h => by cases h), kS, s3, pS, s4⟩, kS, pS, s3, s4, s1, s5⟩
    | k + 4, hq => simp at hq
theorem zLA_of (s : State) : zLA (fun k => s.heap.size + zgf k) (s.heap.size + 293) (s.heap.size + 294) (s.heap.size + 295) (s.heap.size + 296) (s.heap.size + 297) s := by
  refine ⟨zgf_inj2 _, fun q ⟨k, hk, e9⟩ => ?_, fun q h ⟨k, hk, e9⟩ => ?_, fun q h => by omega, by omega, by omega, by omega, by omega⟩
  · have e9 : q = s.heap.size + zgf k := e9
    omega
  · have e9 : q = s.heap.size + zgf k := e9
    have := zgf_lt hk
    omega
set_option maxHeartbeats 4000000 in
set_option maxRecDepth 100000 in
theorem lw_init {p : Program} {e : Env} {s : State} {m : MethodId} {b L : Nat} {xs : Nat → Int32} {below : List Frame} {meth : Method} {c : Code} {E : zEnv} {ad : Nat → Nat} {ra ba ga ea ca : Nat} {Q : State → Prop}  (F : zLF E p s m c b L xs) (D : zLA ad ra ba ga ea ca s) (kk : zLG p e s m b below meth c E ad ra ba ga ea ca Q 0 75) {H : Heap} {locs : List Loc} (hCW0 : zCWt E ad zt0 H) (hr1 : zLo E ra 6 (fun _ => 0) H) (hr2 : zat E ba (.inl (zI E, 10, .inl (fun _ => 0))) H) (hr3 : zat E ga (.inl (zI E, 7, .inl (fun _ => 0))) H) (hr4 : zLo E ea 10 (fun _ => 0) H) (hr5 : zat E ca (.inl (zI E, 10, .inl (fun _ => 0))) H) (hS : va_S (fun q => s.heap.size ≤ q) s.heap H locs) {ls : Array Slot} (hl : lv_has ls 22 [(0, .ref (b)), (1, .ref (ad 287)), (2, .ref (ra)), (3, .ref (ba)), (4, .ref (ga)), (5, .ref (ea)), (6, .ref (ca))]) : zLW p e s m b below meth c E Q H locs 36 ls [] := by
  obtain ⟨S, hG, hX, hbl, hL⟩ := id F
  obtain ⟨hinj, hA1, hdis, hge, hd1, hd2, hd3, hd4⟩ := id D
  obtain ⟨hx, hb, hml9, hown, hts⟩ := id S
  have hbA : ¬ (fun q : Nat => s.heap.size ≤ q) b := Nat.not_le.mpr hbl
  have hCW : zCW E ad zv0 zv0 false (fun _ => zv0) 0 0 (fun _ => 0) H := hCW0
  obtain ⟨f5, h5⟩ := zCW_recv hCW
  have hz : H.size = H.size := rfl
  refine lv_iconst (v := nI (0)) hx hb dL_law_36 (by decide) ?_
  refine lv_istore (lv' := [(7, .int (nI (0))), (0, .ref (b)), (1, .ref (ad 287)), (2, .ref (ra)), (3, .ref (ba)), (4, .ref (ga)), (5, .ref (ea)), (6, .ref (ca))]) hx hb dL_law_37 hl (by decide) rfl (fun ls hl => ?_)
  refine lv_iconst (v := nI (0)) hx hb dL_law_39 (by decide) ?_
  refine lv_istore (lv' := [(8, .int (nI (0))), (7, .int (nI (0))), (0, .ref (b)), (1, .ref (ad 287)), (2, .ref (ra)), (3, .ref (ba)), (4, .ref (ga)), (5, .ref (ea)), (6, .ref (ca))]) hx hb dL_law_40 hl (by decide) rfl (fun ls hl => ?_)
  have L42 : ∀ (dd : Nat) (j : Nat), 5 - j < dd → (j ≤ 5) → ∀ (Hn : Heap) (locs : List Loc) (hS : va_S (fun q => s.heap.size ≤ q) s.heap Hn locs) (hz : Hn.size = H.size) (hCW : zCW E ad zv0 zv0 false (fun _ => zv0) 0 0 (fun _ => 0) Hn) (hr1 : zLo E ra 6 (fun _ => 0) Hn) (hr2 : zat E ba (.inl (zI E, 10, .inl (zb1 j))) Hn) (hr3 : zat E ga (.inl (zI E, 7, .inl (fun _ => 0))) Hn) (hr4 : zLo E ea 10 (fun _ => 0) Hn) (hr5 : zat E ca (.inl (zI E, 10, .inl (fun _ => 0))) Hn) (ls : Array Slot), lv_has ls 22 [(0, .ref (b)), (1, .ref (ad 287)), (2, .ref (ra)), (3, .ref (ba)), (4, .ref (ga)), (5, .ref (ea)), (6, .ref (ca)), (7, .int (nI (0))), (8, .int (nI (j)))] → zLW p e s m b below meth c E Q Hn locs 42 ls [] := by
    intro dd
    induction dd with
    | zero => intro j hdd; exact absurd hdd (Nat.not_lt_zero _)
    | succ dd ih42 =>
      intro j hdd42 hj Hn locs hS hz hCW hr1 hr2 hr3 hr4 hr5 ls hl
      obtain ⟨f5, h5⟩ := zCW_recv hCW
      refine lv_iload hx hb dL_law_42 (lv_at hl 8 rfl) ?_
      refine lv_iconst (v := nI (5)) hx hb dL_law_44 (by decide) ?_
      refine z_cge (tgt := 72) hx hb dL_law_45 (by decide) ⟨by omega, by omega⟩ (fun c_1 => ?_) (fun c_1 => ?_)
      · refine lv_iconst (v := nI (0)) hx hb dL_law_72 (by decide) ?_
        refine lv_istore (lv' := [(8, .int (nI (0))), (0, .ref (b)), (1, .ref (ad 287)), (2, .ref (ra)), (3, .ref (ba)), (4, .ref (ga)), (5, .ref (ea)), (6, .ref (ca)), (7, .int (nI (0)))]) hx hb dL_law_73 hl (by decide) rfl (fun ls hl => ?_)
        rw [show j = 5 by omega] at hr2
        exact kk zt0 (fun _ => 0) (zb1 5) (fun _ => 0) (fun _ => 0) (fun _ => 0) _ _ ⟨zInv_0, hCW, ⟨hr1, hr2, hr3, hr4, hr5⟩, zRel_0, hS⟩ ls (lv_sub hl [1, 2, 3, 4, 5, 6, 7, 8, 0] rfl)
      · refine lv_aload_n hx hb dL_law_48 rfl (lv_at hl 3 rfl) ?_
        refine lv_iload hx hb dL_law_49 (lv_at hl 8 rfl) ?_
        refine lv_bipush (v := nI (12)) hx hb dL_law_51 (by decide) ?_
        refine z_iast (j := j) hx hb hG hr2 ⟨by omega, by omega⟩ hS (hge _ (Or.inr (Or.inl rfl))) dL_law_53 (fun Hn locs h_2 o_3 hS => ?_)
        have hCW := zCW_kept hCW (fun q hq => o_3.2 q (fun e9 => hdis q (by rw [e9]; exact Or.inr (Or.inl rfl)) hq))
        have hr1 := va_at.kept hr1 (o_3.2 _ (by omega))
        have hr2 := h_2
        have hr3 := va_at.kept hr3 (o_3.2 _ (by omega))
        have hr4 := va_at.kept hr4 (o_3.2 _ (by omega))
        have hr5 := va_at.kept hr5 (o_3.2 _ (by omega))
        obtain ⟨f5, h5⟩ := zCW_recv hCW
        have hz : Hn.size = H.size := o_3.1.trans hz
        refine lv_aload_n hx hb dL_law_54 rfl (lv_at hl 3 rfl) ?_
        refine lv_iconst (v := nI (5)) hx hb dL_law_55 (by decide) ?_
        refine lv_iload hx hb dL_law_56 (lv_at hl 8 rfl) ?_
        refine z_iadd hx hb dL_law_58 ?_
        refine lv_iconst (v := nI (2)) hx hb dL_law_59 (by decide) ?_
        refine lv_iload hx hb dL_law_60 (lv_at hl 8 rfl) ?_
        refine z_imul hx hb dL_law_62 ?_
        refine lv_iconst (v := nI (2)) hx hb dL_law_63 (by decide) ?_
        refine z_iadd hx hb dL_law_64 ?_
        refine z_iast (j := 5 + j) hx hb hG hr2 ⟨by omega, by omega⟩ hS (hge _ (Or.inr (Or.inl rfl))) dL_law_65 (fun Hn locs h_4 o_5 hS => ?_)
        have hCW := zCW_kept hCW (fun q hq => o_5.2 q (fun e9 => hdis q (by rw [e9]; exact Or.inr (Or.inl rfl)) hq))
        have hr1 := va_at.kept hr1 (o_5.2 _ (by omega))
        have hr2 := h_4
        have hr3 := va_at.kept hr3 (o_5.2 _ (by omega))
        have hr4 := va_at.kept hr4 (o_5.2 _ (by omega))
        have hr5 := va_at.kept hr5 (o_5.2 _ (by omega))
        obtain ⟨f5, h5⟩ := zCW_recv hCW
        have hz : Hn.size = H.size := o_5.1.trans hz
        refine lv_iinc (v := nI (j + 1)) (lv' := [(8, .int (nI (j + 1))), (0, .ref (b)), (1, .ref (ad 287)), (2, .ref (ra)), (3, .ref (ba)), (4, .ref (ga)), (5, .ref (ea)), (6, .ref (ca)), (7, .int (nI (0)))]) hx hb dL_law_66 hl (k := 8) rfl (z_inc1 _) (by decide) rfl (fun ls hl => ?_)
        refine lv_goto (tgt := 42) hx hb dL_law_69 (by decide) ?_
        have hl9 := lv_sub hl [1, 2, 3, 4, 5, 6, 7, 8, 0] (l' := [(0, .ref (b)), (1, .ref (ad 287)), (2, .ref (ra)), (3, .ref (ba)), (4, .ref (ga)), (5, .ref (ea)), (6, .ref (ca)), (7, .int (nI (0))), (8, .int (nI (j + 1)))]) rfl
        have e9_8 : (j + 1) = ((j + 1)) := by omega
        exact ih42 (j + 1) (by omega) (by omega) _ _ hS hz (hCW) (hr1) (by rw [← zb1_s (by omega)]; exact hr2) (hr3) (hr4) (hr5) ls (by rw [← e9_8]; exact hl9)
  exact L42 ((5 - (0)) + 1) (0) (Nat.lt_succ_self _) (by omega) _ _ hS hz (hCW) (hr1) (by rw [← zb1_0]; exact hr2) (hr3) (hr4) (hr5) ls (lv_sub hl [2, 3, 4, 5, 6, 7, 8, 1, 0] rfl)
