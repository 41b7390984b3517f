set_option maxHeartbeats 4000000 in
set_option maxRecDepth 100000 in
/-- THE LAW, from its entry -/
theorem whole_start {p : Program} {e : Env} {s : State} {m : MethodId} {below : List Frame} {meth : Method} {c : Code} (l : Launch) (hflags : l.flags = flags0) {b L : Nat} {xs : Nat → Int32} (hL : L ≤ 260) (C0 : lw_At p s m meth c b L xs) : W p l e room_1 s m #[Value.ref b] below meth c s.heap [] 0 0 (lw_Z below #[Value.ref b] s) (entryFrame m ([Value.ref b] : List Value).toArray 22) := by
  obtain ⟨hx, hb, hr, hml, hown, hts0, hX, hbl, hlocks, hgv⟩ := C0
  obtain ⟨E, hEl, hG⟩ := zE_of l hts0
  subst hEl
  have hts : ∀ w ∈ wsL_law, w.before #[Value.ref b] s = true := fun w hw => hts0 w (wsL_law_in w hw)
  have hown : s.vm.findClass RL = some m.cls := hown
  have S : CallFix p m c code 22 s #[Value.ref b] wsL_law RL := ⟨hx, hb, hml, hown, hts⟩
  have hF : zLF E p s m c b L xs := ⟨S, hG.1, hX, hbl, hL⟩
  have hbA : ¬ (fun q : Nat => s.heap.size ≤ q) b := Nat.not_le.mpr hbl
  have hS : va_S (fun q : Nat => s.heap.size ≤ q) s.heap s.heap [] := va_S.rf
  obtain ⟨locs, hlocs⟩ : ∃ x : List Loc, x = [] := ⟨_, rfl⟩
  rw [← hlocs] at hS ⊢
  have hl := lv_entry ([.ref b]) (n := 22) (Nat.le_of_ble_eq_true rfl)
  rw [lg_entry_eq]
  generalize (lg_sl ([.ref b]) ++ List.replicate (22 - (lg_sl ([.ref b])).length) Slot.unset).toArray = ls at hl ⊢
  have hl : lv_has ls 22 [(0, .ref b)] := hl
  refine z_nw (ci := 5) (C := RX5) (T := TX5) (N := 7) (ty0 := tyX5) (fs := [.null, .null, .null, .null, .null, .int (nI 0), .int (nI 0)]) (o := s.heap.size) (c1 := 1) (s1 := 7) hx hb hts (fun w hw => inlX5 w hw) tyX5_ok hown hN5_law hG.1 rfl (fun j hj => by rcases (show j = 0 ∨ j = 1 ∨ j = 2 ∨ j = 3 ∨ j = 4 ∨ j = 5 ∨ j = 6 by omega) with rfl | rfl | rfl | rfl | rfl | rfl | rfl <;> rfl) rfl ⟨by omega, Nat.le_of_ble_eq_true rfl, by omega, Nat.le_of_ble_eq_true rfl⟩ hS dL_law_0 (fun Hn h_1 z_1 o_1 hS => ?_)
  refine lv_dup hx hb dL_law_3 rfl ?_
  refine z_np (rest := [.ref s.heap.size]) (o := s.heap.size) (c1 := 293) (s1 := 2488) S hG (c_X5_init E s.heap.size) gL_law_X5_init ⟨by decide +kernel, by decide +kernel, by decide +kernel⟩ rfl kX5_init.2 rfl ⟨Nat.le_of_ble_eq_true rfl, Nat.le_of_ble_eq_true rfl⟩ h_1 z_1 ⟨⟨by omega, by omega⟩, Nat.le_of_ble_eq_true rfl, Nat.le_of_ble_eq_true rfl⟩ hl.1 (Nat.le_of_ble_eq_true rfl) dL_law_4 hS (fun q hq => hq) (fun Hn locs h_2 z_2 o_2 hS => ?_)
  refine lv_astore_n (lv' := [(1, .ref s.heap.size), (0, .ref b)]) hx hb dL_law_7 rfl hl (by decide) rfl (fun ls hl => ?_)
  have z_3 : Hn.size = s.heap.size + 293 := by rw [z_2]
  refine lv_bipush (v := nI 6) hx hb dL_law_8 (by decide) ?_
  refine z_naL (n := 6) (o := (s.heap.size + 293)) (c1 := 294) (s1 := 2494) hx hb hts hG.1 hAl_law.1 (by decide) z_3 ⟨by omega, Nat.le_of_ble_eq_true rfl, by omega, Nat.le_of_ble_eq_true rfl⟩ hS dL_law_10 (fun Hn0 h_n0 z_n0 o_n0 hS => ?_)
  refine lv_astore_n (lv' := [(2, .ref (s.heap.size + 293)), (1, .ref s.heap.size), (0, .ref b)]) hx hb dL_law_12 rfl hl (by decide) rfl (fun ls hl => ?_)
  refine lv_bipush (v := nI 10) hx hb dL_law_13 (by decide) ?_
  refine z_naI (n := 10) (o := (s.heap.size + 294)) (c1 := 295) (s1 := 2504) hx hb hts hG.1 hAl_law.2 (by decide) z_n0 ⟨by omega, Nat.le_of_ble_eq_true rfl, by omega, Nat.le_of_ble_eq_true rfl⟩ hS dL_law_15 (fun Hn1 h_n1 z_n1 o_n1 hS => ?_)
  refine lv_astore_n (lv' := [(3, .ref (s.heap.size + 294)), (2, .ref (s.heap.size + 293)), (1, .ref s.heap.size), (0, .ref b)]) hx hb dL_law_17 rfl hl (by decide) rfl (fun ls hl => ?_)
  refine lv_bipush (v := nI 7) hx hb dL_law_18 (by decide) ?_
  refine z_naI (n := 7) (o := (s.heap.size + 295)) (c1 := 296) (s1 := 2511) hx hb hts hG.1 hAl_law.2 (by decide) z_n1 ⟨by omega, Nat.le_of_ble_eq_true rfl, by omega, Nat.le_of_ble_eq_true rfl⟩ hS dL_law_20 (fun Hn2 h_n2 z_n2 o_n2 hS => ?_)
  refine lv_astore (lv' := [(4, .ref (s.heap.size + 295)), (3, .ref (s.heap.size + 294)), (2, .ref (s.heap.size + 293)), (1, .ref s.heap.size), (0, .ref b)]) hx hb dL_law_22 hl (by decide) rfl (fun ls hl => ?_)
  refine lv_bipush (v := nI 10) hx hb dL_law_24 (by decide) ?_
  refine z_naL (n := 10) (o := (s.heap.size + 296)) (c1 := 297) (s1 := 2521) hx hb hts hG.1 hAl_law.1 (by decide) z_n2 ⟨by omega, Nat.le_of_ble_eq_true rfl, by omega, Nat.le_of_ble_eq_true rfl⟩ hS dL_law_26 (fun Hn3 h_n3 z_n3 o_n3 hS => ?_)
  refine lv_astore (lv' := [(5, .ref (s.heap.size + 296)), (4, .ref (s.heap.size + 295)), (3, .ref (s.heap.size + 294)), (2, .ref (s.heap.size + 293)), (1, .ref s.heap.size), (0, .ref b)]) hx hb dL_law_28 hl (by decide) rfl (fun ls hl => ?_)
  refine lv_bipush (v := nI 10) hx hb dL_law_30 (by decide) ?_
  refine z_naI (n := 10) (o := (s.heap.size + 297)) (c1 := 298) (s1 := 2531) hx hb hts hG.1 hAl_law.2 (by decide) z_n3 ⟨by omega, Nat.le_of_ble_eq_true rfl, by omega, Nat.le_of_ble_eq_true rfl⟩ hS dL_law_32 (fun Hn4 h_n4 z_n4 o_n4 hS => ?_)
  refine lv_astore (lv' := [(6, .ref (s.heap.size + 297)), (5, .ref (s.heap.size + 296)), (4, .ref (s.heap.size + 295)), (3, .ref (s.heap.size + 294)), (2, .ref (s.heap.size + 293)), (1, .ref s.heap.size), (0, .ref b)]) hx hb dL_law_34 hl (by decide) rfl (fun ls hl => ?_)
  have hD := zLA_of s
  have hw1 : zCWt E (fun k => s.heap.size + zgf k) zt0 Hn4 := zCWt_kept h_2 (fun q ⟨k, hk, e9⟩ => by
    have e9 : q = s.heap.size + zgf k := e9
    have := zgf_lt hk
    rw [o_n4 q (by omega), o_n3 q (by omega), o_n2 q (by omega), o_n1 q (by omega), o_n0 q (by omega)])
  have h_r0 := va_at.kept h_n0 (show Hn4[(s.heap.size + 293)]? = Hn0[(s.heap.size + 293)]? by rw [o_n4 _ (by omega), o_n3 _ (by omega), o_n2 _ (by omega), o_n1 _ (by omega)])
  have h_r1 := va_at.kept h_n1 (show Hn4[(s.heap.size + 294)]? = Hn1[(s.heap.size + 294)]? by rw [o_n4 _ (by omega), o_n3 _ (by omega), o_n2 _ (by omega)])
  have h_r2 := va_at.kept h_n2 (show Hn4[(s.heap.size + 295)]? = Hn2[(s.heap.size + 295)]? by rw [o_n4 _ (by omega), o_n3 _ (by omega)])
  have h_r3 := va_at.kept h_n3 (show Hn4[(s.heap.size + 296)]? = Hn3[(s.heap.size + 296)]? by rw [o_n4 _ (by omega)])
  obtain ⟨ad, had⟩ : ∃ f : Nat → Nat, f = fun k => s.heap.size + zgf k := ⟨_, rfl⟩
  rw [← had] at hD hw1
  have e5 : ad 287 = s.heap.size := by rw [had]; show s.heap.size + zgf 287 = s.heap.size; rw [show zgf 287 = 0 by decide, Nat.add_zero]
  have hl8 := lv_sub hl (l' := [(0, .ref b), (1, .ref s.heap.size), (2, .ref (s.heap.size + 293)), (3, .ref (s.heap.size + 294)), (4, .ref (s.heap.size + 295)), (5, .ref (s.heap.size + 296)), (6, .ref (s.heap.size + 297))]) [6, 5, 4, 3, 2, 1, 0] rfl
  have hl9 : lv_has ls 22 [(0, .ref b), (1, .ref (ad 287)), (2, .ref (s.heap.size + 293)), (3, .ref (s.heap.size + 294)), (4, .ref (s.heap.size + 295)), (5, .ref (s.heap.size + 296)), (6, .ref (s.heap.size + 297))] := by rw [e5]; exact hl8
  have kx : ∀ i : Nat, zLG p e s m b below meth c E ad (s.heap.size + 293) (s.heap.size + 294) (s.heap.size + 295) (s.heap.size + 296) (s.heap.size + 297) (lw_Z below #[Value.ref b] s) i 1864 := fun i τ rr bb gg ee cc H locs hs ls hl => by
    refine lv_iconst (v := 1) hx hb dL_law_1864 (by decide) ?_
    refine va_forget hs.2.2.2.2.2.2 ?_
    exact lw_ret hx hb hr hlocks dL_law_1865
  refine W.widen (k := 600000) (n := 7302250) (Nat.le_of_ble_eq_true rfl) (Nat.le_of_ble_eq_true rfl) ?_
  exact lw_init hF hD (lw_loop hF hD kx 51 0 (by omega) (by omega)) hw1 h_r0 h_r1 h_r2 h_r3 h_n4 hS hl9
