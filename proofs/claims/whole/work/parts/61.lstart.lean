theorem inlX5 : ∀ w ∈ wsX50, w ∈ wsL_law := fun _ h => List.mem_append_left _ (List.mem_append_left _ (List.mem_append_left _ (List.mem_append_left _ (List.mem_append_left _ (List.mem_append_left _ (List.mem_append_left _ (List.mem_append_right _ h)))))))
theorem inlX6 : ∀ w ∈ wsX60, w ∈ wsL_law := fun _ h => List.mem_append_left _ (List.mem_append_left _ (List.mem_append_left _ (List.mem_append_left _ (List.mem_append_left _ (List.mem_append_left _ (List.mem_append_right _ h))))))
set_option maxHeartbeats 4000000 in
set_option maxRecDepth 100000 in
/-- THE LAW, from its entry -/
theorem whole_start {p : Program} {e : Env} {s : State} {m : MethodId} {below : List Frame} {meth : Method} {c : Code} (l : Launch) (hflags : l.flags = flags0) {b L : Nat} {xs : Nat → Int32} (hL : L ≤ 2048) (C0 : lw_At p s m meth c b L xs) : W p l e room_1 s m #[Value.ref b] below meth c s.heap [] 0 0 (lw_Z below #[Value.ref b] s) (entryFrame m ([Value.ref b] : List Value).toArray 4) := by
  obtain ⟨hx, hb, hr, hml, hown, hts0, hX, hbl, hlocks, hgv⟩ := C0
  obtain ⟨E, hEl, hG⟩ := zE_of l hts0
  subst hEl
  have hts : ∀ w ∈ wsL_law, w.before #[Value.ref b] s = true := fun w hw => hts0 w (wsL_law_in w hw)
  have hown : s.vm.findClass RL = some m.cls := hown
  have S : CallFix p m c code 4 s #[Value.ref b] wsL_law RL := ⟨hx, hb, hml, hown, hts⟩
  have hF : zLF E p s m c b L xs := ⟨S, hG.1, hX, hbl, hL⟩
  have hbA : ¬ (fun q : Nat => s.heap.size ≤ q) b := Nat.not_le.mpr hbl
  have hS : va_S (fun q : Nat => s.heap.size ≤ q) s.heap s.heap [] := va_S.rf
  obtain ⟨locs, hlocs⟩ : ∃ x : List Loc, x = [] := ⟨_, rfl⟩
  rw [← hlocs] at hS ⊢
  have hl := lv_entry ([.ref b]) (n := 4) (Nat.le_of_ble_eq_true rfl)
  rw [lg_entry_eq]
  generalize (lg_sl ([.ref b]) ++ List.replicate (4 - (lg_sl ([.ref b])).length) Slot.unset).toArray = ls at hl ⊢
  have hl : lv_has ls 4 [(0, .ref b)] := hl
  refine z_nw (ci := 5) (C := RX5) (T := TX5) (N := 7) (ty0 := tyX5) (fs := [.null, .null, .null, .null, .null, .int (nI 0), .int (nI 0)]) (o := s.heap.size) (c1 := 1) (s1 := 7) hx hb hts (fun w hw => inlX5 w hw) tyX5_ok hown ⟨by decide +kernel, by decide +kernel, by decide +kernel⟩ hG.1 rfl (fun j hj => by rcases (show j = 0 ∨ j = 1 ∨ j = 2 ∨ j = 3 ∨ j = 4 ∨ j = 5 ∨ j = 6 by omega) with rfl | rfl | rfl | rfl | rfl | rfl | rfl <;> rfl) rfl ⟨by omega, Nat.le_of_ble_eq_true rfl, by omega, Nat.le_of_ble_eq_true rfl⟩ hS dL_law_0 (fun Hn h_1 z_1 o_1 hS => ?_)
  refine lv_dup hx hb dL_law_3 rfl ?_
  refine z_np (rest := [.ref s.heap.size]) (o := s.heap.size) (c1 := 293) (s1 := 2488) S hG (c_X5_init E s.heap.size) gL_law_X5_init ⟨by decide +kernel, by decide +kernel, by decide +kernel⟩ rfl kX5_init.2 rfl ⟨Nat.le_of_ble_eq_true rfl, Nat.le_of_ble_eq_true rfl⟩ h_1 z_1 ⟨⟨by omega, by omega⟩, Nat.le_of_ble_eq_true rfl, Nat.le_of_ble_eq_true rfl⟩ hl.1 (Nat.le_of_ble_eq_true rfl) dL_law_4 hS (fun q hq => hq) (fun Hn locs h_2 z_2 o_2 hS => ?_)
  refine lv_astore_n (lv' := [(1, .ref s.heap.size), (0, .ref b)]) hx hb dL_law_7 rfl hl (by decide) rfl (fun ls hl => ?_)
  have z_3 : Hn.size = s.heap.size + 293 := by rw [z_2]
  refine z_nw (ci := 6) (C := RX6) (T := TX6) (N := 11) (ty0 := tyX6) (fs := [.null, .null, .int (nI 0), .null, .int (nI 0), .null, .int (nI 0), .null, .null, .int (nI 0), .int (nI 0)]) (o := s.heap.size + 293) (c1 := 294) (s1 := 2499) hx hb hts (fun w hw => inlX6 w hw) tyX6_ok hown ⟨by decide +kernel, by decide +kernel, by decide +kernel⟩ hG.1 rfl (fun j hj => by rcases (show j = 0 ∨ j = 1 ∨ j = 2 ∨ j = 3 ∨ j = 4 ∨ j = 5 ∨ j = 6 ∨ j = 7 ∨ j = 8 ∨ j = 9 ∨ j = 10 by omega) with rfl | rfl | rfl | rfl | rfl | rfl | rfl | rfl | rfl | rfl | rfl <;> rfl) z_3 ⟨by omega, Nat.le_of_ble_eq_true rfl, by omega, Nat.le_of_ble_eq_true rfl⟩ hS dL_law_8 (fun Hn h_4 z_4 o_4 hS => ?_)
  refine lv_dup hx hb dL_law_11 rfl ?_
  refine z_np (rest := [.ref (s.heap.size + 293)]) (o := s.heap.size + 293) (c1 := 300) (s1 := 4691) S hG (c_X6_init E (s.heap.size + 293)) gL_law_X6_init ⟨by decide +kernel, by decide +kernel, by decide +kernel⟩ rfl kX6_init.2 rfl ⟨Nat.le_of_ble_eq_true rfl, Nat.le_of_ble_eq_true rfl⟩ h_4 z_4 ⟨⟨by omega, by omega⟩, Nat.le_of_ble_eq_true rfl, Nat.le_of_ble_eq_true rfl⟩ hl.1 (Nat.le_of_ble_eq_true rfl) dL_law_12 hS (fun q hq => by show s.heap.size ≤ q; omega) (fun Hn locs h_5 z_5 o_5 hS => ?_)
  refine lv_astore_n (lv' := [(2, .ref (s.heap.size + 293)), (1, .ref s.heap.size), (0, .ref b)]) hx hb dL_law_15 rfl hl (by decide) rfl (fun ls hl => ?_)
  refine lv_iconst (v := nI 0) hx hb dL_law_16 (by decide) ?_
  refine lv_istore_n (lv' := [(3, .int (nI 0)), (2, .ref (s.heap.size + 293)), (1, .ref s.heap.size), (0, .ref b)]) hx hb dL_law_17 rfl hl (by decide) rfl (fun ls hl => ?_)
  have hD := zLA_of s
  have hw1 : zCWt E (fun k => s.heap.size + zgf k) zt0 Hn := zCWt_kept h_2 (fun q ⟨k, hk, e9⟩ => by
    have e9 : q = s.heap.size + zgf k := e9
    have := zgf_lt hk
    rw [o_5 q (by omega), o_4 q (by omega)])
  obtain ⟨ad, had⟩ : ∃ f : Nat → Nat, f = fun k => s.heap.size + zgf k := ⟨_, rfl⟩
  obtain ⟨am, ham⟩ : ∃ f : Nat → Nat, f = fun k => s.heap.size + 293 + k := ⟨_, rfl⟩
  rw [← had] at hD hw1
  rw [← ham] at hD h_5
  have e5 : ad 287 = s.heap.size := by rw [had]; show s.heap.size + zgf 287 = s.heap.size; rw [show zgf 287 = 0 by decide, Nat.add_zero]
  have e6 : am 0 = s.heap.size + 293 := by rw [ham]
  have hl8 := lv_sub hl (l' := [(0, .ref b), (1, .ref s.heap.size), (2, .ref (s.heap.size + 293)), (3, .int (nI 0))]) [3, 2, 1, 0] rfl
  rw [← e6, ← e5] at hl8
  have hs : zLS E ad am s zt0 Hn locs := ⟨zInv_0, hw1, h_5, hS⟩
  have kx : ∀ i : Nat, zLG p e s m b below meth c E ad am (lw_Z below #[Value.ref b] s) i 1315 := fun i τ H locs hs ls hl => by
    refine lv_iconst (v := 1) hx hb dL_law_1315 (by decide) ?_
    refine va_forget hs.2.2.2.2.2 ?_
    exact lw_ret hx hb hr hlocks dL_law_1316
  refine W.widen (k := 600000) (n := 7302250) (Nat.le_of_ble_eq_true rfl) (Nat.le_of_ble_eq_true rfl) ?_
  rcases Nat.lt_or_ge L 4 with q | q
  · exact lw_short hF q (kx 0) zt0 Hn locs hs ls hl8
  · exact lw_loop hF hD q kx (L + 1) 0 (Nat.zero_le _) (by omega) zt0 Hn locs hs ls hl8
