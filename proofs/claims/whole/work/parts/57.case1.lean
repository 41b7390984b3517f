/-! the law: what holds in its loop -/
theorem zCWt_recv {E : zEnv} {ad : Nat → Nat} {τ : zT} {H : Heap} (h : zCWt E ad τ H) : ∃ fs, zat E (ad 287) (.inr (5, fs)) H := by
  obtain ⟨π, tn, tt, nb, tf, hp, a1, a2, a3, a4, -⟩ := h
  exact ⟨_, a4⟩
theorem zMWt_recv {E : zEnv} {am : Nat → Nat} {τ : zT} {H : Heap} (h : zMWt E am τ H) : ∃ fs, zat E (am 0) (.inr (6, fs)) H := by
  obtain ⟨z, past, kept, buf, rg, td, tm, nb, ⟨h0, -⟩, -⟩ := h
  exact ⟨_, h0⟩
/-- the law's own facts -/
def zLF (E : zEnv) (p : Program) (s : State) (m : MethodId) (c : Code) (b L : Nat) (xs : Nat → Int32) : Prop := CallFix p m c code 4 s #[Value.ref b] wsL_law RL ∧ zG E s ∧ va_X b L xs s s.heap ∧ b < s.heap.size ∧ L ≤ 2048
/-- where the two objects lie -/
def zLA (ad am : Nat → Nat) (s : State) : Prop := zInj ad ∧ zInM am ∧ (∀ q, zAC ad q → s.heap.size ≤ q) ∧ (∀ q, zAM am q → s.heap.size ≤ q) ∧ ∀ q, zAM am q → ¬ zAC ad q
/-- both objects' worlds at the loop's head -/
def zLS (E : zEnv) (ad am : Nat → Nat) (s : State) (τ : zT) (H : Heap) (locs : List Loc) : Prop := zInv τ ∧ zCWt E ad τ H ∧ zMWt E am τ H ∧ va_S (fun q => s.heap.size ≤ q) s.heap H locs
abbrev zLW (p : Program) (e : Env) (s : State) (m : MethodId) (b : Nat) (below : List Frame) (meth : Method) (c : Code) (E : zEnv) (Q : State → Prop) (H : Heap) (locs : List Loc) (pc : Nat) (ls : Array Slot) (st : List Value) : Prop := W p (zl E) e room_1 s m #[Value.ref b] below meth c H locs 600000 7302250 Q (F0 m pc ls st)
/-- from pc on, from any world of the loop's -/
def zLG (p : Program) (e : Env) (s : State) (m : MethodId) (b : Nat) (below : List Frame) (meth : Method) (c : Code) (E : zEnv) (ad am : Nat → Nat) (Q : State → Prop) (i pc : Nat) : Prop :=
  ∀ (τ : zT) (H : Heap) (locs : List Loc), zLS E ad am s τ H locs → ∀ ls : Array Slot, lv_has ls 4 [(0, .ref b), (1, .ref (ad 287)), (2, .ref (am 0)), (3, .int (nI i))] → zLW p e s m b below meth c E Q H locs pc ls []
set_option maxHeartbeats 4000000 in
set_option maxRecDepth 100000 in
theorem lw_c_fill {p : Program} {e : Env} {s : State} {m : MethodId} {b L : Nat} {xs : Nat → Int32} {below : List Frame} {meth : Method} {c : Code} {E : zEnv} {ad am : Nat → Nat} {Q : State → Prop} {i : Nat} (F : zLF E p s m c b L xs) (D : zLA ad am s) (hi : i + 3 < L) (kk : zLG p e s m b below meth c E ad am Q i 1309) : zLG p e s m b below meth c E ad am Q i 208 := by
  intro τ H locs hs ls hl
  obtain ⟨S, hG, hX, hbl, hL⟩ := F
  obtain ⟨hin, him, hA1, hA2, hdis⟩ := D
  obtain ⟨hv, hc, hmw, hS⟩ := hs
  have hbA : ¬ (fun q : Nat => s.heap.size ≤ q) b := Nat.not_le.mpr hbl
  obtain ⟨hx, hb, hml, hown, hts⟩ := id S
  obtain ⟨nw, sv, an, hh, ct, ln, cd⟩ := τ
  obtain ⟨r, τ1, hv1, o5, o6⟩ := op_fill E hin him hv (xs (nI (i + 1)).toNatClampNeg) (xs (nI (i + 2)).toNatClampNeg)
  obtain ⟨f5, h5⟩ := zCWt_recv hc
  refine lv_aload_n hx hb dL_law_208 rfl (lv_at hl 1 rfl) ?_
  refine lv_aload_n hx hb dL_law_209 rfl (lv_at hl 0 rfl) ?_
  refine lv_iload_n hx hb dL_law_210 rfl (lv_at hl 3 rfl) ?_
  refine lv_iconst (v := nI 1) hx hb dL_law_211 (by decide) ?_
  refine z_iadd hx hb dL_law_212 ?_
  refine va_sld hx hb hX hbl hbA hS (vp_in_nI (show i + 1 < L by omega) (by omega)) dL_law_213 ?_
  refine lv_aload_n hx hb dL_law_214 rfl (lv_at hl 0 rfl) ?_
  refine lv_iload_n hx hb dL_law_215 rfl (lv_at hl 3 rfl) ?_
  refine lv_iconst (v := nI 2) hx hb dL_law_216 (by decide) ?_
  refine z_iadd hx hb dL_law_217 ?_
  refine va_sld hx hb hX hbl hbA hS (vp_in_nI (show i + 2 < L by omega) (by omega)) dL_law_218 ?_
  refine z_wrV (As := [.int (xs (nI (i + 1)).toNatClampNeg), .int (xs (nI (i + 2)).toNatClampNeg)]) (rest := []) (q := (RX5, TX5, 7)) S hG o5 2 gL_law_X5_fill rfl kX5_fill ⟨Nat.le_of_ble_eq_true rfl, Nat.le_of_ble_eq_true rfl⟩ ⟨Nat.le_of_ble_eq_true rfl, Nat.le_of_ble_eq_true rfl⟩ hc rfl h5 rfl hl.1 rfl rfl (Nat.le_of_ble_eq_true rfl) dL_law_219 hS hA1 (fun H1 locs hc1 hz1 ho1 hS => ?_)
  have hmw1 := zMWt_kept hmw (fun q hq => ho1 q (hdis q hq))
  obtain ⟨f6, h6⟩ := zMWt_recv hmw1
  refine lv_aload_n hx hb dL_law_222 rfl (lv_at hl 2 rfl) ?_
  refine lv_aload_n hx hb dL_law_223 rfl (lv_at hl 0 rfl) ?_
  refine lv_iload_n hx hb dL_law_224 rfl (lv_at hl 3 rfl) ?_
  refine lv_iconst (v := nI 1) hx hb dL_law_225 (by decide) ?_
  refine z_iadd hx hb dL_law_226 ?_
  refine va_sld hx hb hX hbl hbA hS (vp_in_nI (show i + 1 < L by omega) (by omega)) dL_law_227 ?_
  refine lv_aload_n hx hb dL_law_228 rfl (lv_at hl 0 rfl) ?_
  refine lv_iload_n hx hb dL_law_229 rfl (lv_at hl 3 rfl) ?_
  refine lv_iconst (v := nI 2) hx hb dL_law_230 (by decide) ?_
  refine z_iadd hx hb dL_law_231 ?_
  refine va_sld hx hb hX hbl hbA hS (vp_in_nI (show i + 2 < L by omega) (by omega)) dL_law_232 ?_
  refine z_wrV (As := [.int (xs (nI (i + 1)).toNatClampNeg), .int (xs (nI (i + 2)).toNatClampNeg)]) (rest := [.int r]) (q := (RX6, TX6, 11)) S hG o6 2 gL_law_X6_fill rfl kX6_fill ⟨Nat.le_of_ble_eq_true rfl, Nat.le_of_ble_eq_true rfl⟩ ⟨Nat.le_of_ble_eq_true rfl, Nat.le_of_ble_eq_true rfl⟩ hmw1 rfl h6 rfl hl.1 rfl rfl (Nat.le_of_ble_eq_true rfl) dL_law_233 hS hA2 (fun H2 locs hm2 hz2 ho2 hS => ?_)
  have hc2 := zCWt_kept hc1 (fun q hq => ho2 q (fun z => hdis q z hq))
  refine lv_icmp_eq (tgt := 1309) hx hb dL_law_236 (by decide) (fun _ => ?_) (fun q => absurd rfl q)
  exact kk _ _ _ ⟨hv1, hc2, hm2, hS⟩ ls hl
set_option maxHeartbeats 4000000 in
set_option maxRecDepth 100000 in
theorem lw_c_weigh {p : Program} {e : Env} {s : State} {m : MethodId} {b L : Nat} {xs : Nat → Int32} {below : List Frame} {meth : Method} {c : Code} {E : zEnv} {ad am : Nat → Nat} {Q : State → Prop} {i : Nat} (F : zLF E p s m c b L xs) (D : zLA ad am s) (hi : i + 3 < L) (kk : zLG p e s m b below meth c E ad am Q i 1309) : zLG p e s m b below meth c E ad am Q i 241 := by
  intro τ H locs hs ls hl
  obtain ⟨S, hG, hX, hbl, hL⟩ := F
  obtain ⟨hin, him, hA1, hA2, hdis⟩ := D
  obtain ⟨hv, hc, hmw, hS⟩ := hs
  have hbA : ¬ (fun q : Nat => s.heap.size ≤ q) b := Nat.not_le.mpr hbl
  obtain ⟨hx, hb, hml, hown, hts⟩ := id S
  obtain ⟨nw, sv, an, hh, ct, ln, cd⟩ := τ
  obtain ⟨r, τ1, hv1, o5, o6⟩ := op_weigh E hin him hv (xs (nI (i + 1)).toNatClampNeg) (xs (nI (i + 2)).toNatClampNeg)
  obtain ⟨f5, h5⟩ := zCWt_recv hc
  refine lv_aload_n hx hb dL_law_241 rfl (lv_at hl 1 rfl) ?_
  refine lv_aload_n hx hb dL_law_242 rfl (lv_at hl 0 rfl) ?_
  refine lv_iload_n hx hb dL_law_243 rfl (lv_at hl 3 rfl) ?_
  refine lv_iconst (v := nI 1) hx hb dL_law_244 (by decide) ?_
  refine z_iadd hx hb dL_law_245 ?_
  refine va_sld hx hb hX hbl hbA hS (vp_in_nI (show i + 1 < L by omega) (by omega)) dL_law_246 ?_
  refine lv_aload_n hx hb dL_law_247 rfl (lv_at hl 0 rfl) ?_
  refine lv_iload_n hx hb dL_law_248 rfl (lv_at hl 3 rfl) ?_
  refine lv_iconst (v := nI 2) hx hb dL_law_249 (by decide) ?_
  refine z_iadd hx hb dL_law_250 ?_
  refine va_sld hx hb hX hbl hbA hS (vp_in_nI (show i + 2 < L by omega) (by omega)) dL_law_251 ?_
  refine z_wrV (As := [.int (xs (nI (i + 1)).toNatClampNeg), .int (xs (nI (i + 2)).toNatClampNeg)]) (rest := []) (q := (RX5, TX5, 7)) S hG o5 2 gL_law_X5_weigh rfl kX5_weigh ⟨Nat.le_of_ble_eq_true rfl, Nat.le_of_ble_eq_true rfl⟩ ⟨Nat.le_of_ble_eq_true rfl, Nat.le_of_ble_eq_true rfl⟩ hc rfl h5 rfl hl.1 rfl rfl (Nat.le_of_ble_eq_true rfl) dL_law_252 hS hA1 (fun H1 locs hc1 hz1 ho1 hS => ?_)
  have hmw1 := zMWt_kept hmw (fun q hq => ho1 q (hdis q hq))
  obtain ⟨f6, h6⟩ := zMWt_recv hmw1
  refine lv_aload_n hx hb dL_law_255 rfl (lv_at hl 2 rfl) ?_
  refine lv_aload_n hx hb dL_law_256 rfl (lv_at hl 0 rfl) ?_
  refine lv_iload_n hx hb dL_law_257 rfl (lv_at hl 3 rfl) ?_
  refine lv_iconst (v := nI 1) hx hb dL_law_258 (by decide) ?_
  refine z_iadd hx hb dL_law_259 ?_
  refine va_sld hx hb hX hbl hbA hS (vp_in_nI (show i + 1 < L by omega) (by omega)) dL_law_260 ?_
  refine lv_aload_n hx hb dL_law_261 rfl (lv_at hl 0 rfl) ?_
  refine lv_iload_n hx hb dL_law_262 rfl (lv_at hl 3 rfl) ?_
  refine lv_iconst (v := nI 2) hx hb dL_law_263 (by decide) ?_
  refine z_iadd hx hb dL_law_264 ?_
  refine va_sld hx hb hX hbl hbA hS (vp_in_nI (show i + 2 < L by omega) (by omega)) dL_law_265 ?_
  refine z_wrV (As := [.int (xs (nI (i + 1)).toNatClampNeg), .int (xs (nI (i + 2)).toNatClampNeg)]) (rest := [.int r]) (q := (RX6, TX6, 11)) S hG o6 2 gL_law_X6_weigh rfl kX6_weigh ⟨Nat.le_of_ble_eq_true rfl, Nat.le_of_ble_eq_true rfl⟩ ⟨Nat.le_of_ble_eq_true rfl, Nat.le_of_ble_eq_true rfl⟩ hmw1 rfl h6 rfl hl.1 rfl rfl (Nat.le_of_ble_eq_true rfl) dL_law_266 hS hA2 (fun H2 locs hm2 hz2 ho2 hS => ?_)
  have hc2 := zCWt_kept hc1 (fun q hq => ho2 q (fun z => hdis q z hq))
  refine lv_icmp_eq (tgt := 1309) hx hb dL_law_269 (by decide) (fun _ => ?_) (fun q => absurd rfl q)
  exact kk _ _ _ ⟨hv1, hc2, hm2, hS⟩ ls hl
set_option maxHeartbeats 4000000 in
set_option maxRecDepth 100000 in
theorem lw_c_kind {p : Program} {e : Env} {s : State} {m : MethodId} {b L : Nat} {xs : Nat → Int32} {below : List Frame} {meth : Method} {c : Code} {E : zEnv} {ad am : Nat → Nat} {Q : State → Prop} {i : Nat} (F : zLF E p s m c b L xs) (D : zLA ad am s) (hi : i + 3 < L) (kk : zLG p e s m b below meth c E ad am Q i 1309) : zLG p e s m b below meth c E ad am Q i 274 := by
  intro τ H locs hs ls hl
  obtain ⟨S, hG, hX, hbl, hL⟩ := F
  obtain ⟨hin, him, hA1, hA2, hdis⟩ := D
  obtain ⟨hv, hc, hmw, hS⟩ := hs
  have hbA : ¬ (fun q : Nat => s.heap.size ≤ q) b := Nat.not_le.mpr hbl
  obtain ⟨hx, hb, hml, hown, hts⟩ := id S
  obtain ⟨nw, sv, an, hh, ct, ln, cd⟩ := τ
  obtain ⟨r, o5, o6⟩ := op_kind E hin him hv (xs (nI (i + 1)).toNatClampNeg) (xs (nI (i + 2)).toNatClampNeg)
  obtain ⟨f5, h5⟩ := zCWt_recv hc
  refine lv_aload_n hx hb dL_law_274 rfl (lv_at hl 1 rfl) ?_
  refine lv_aload_n hx hb dL_law_275 rfl (lv_at hl 0 rfl) ?_
  refine lv_iload_n hx hb dL_law_276 rfl (lv_at hl 3 rfl) ?_
  refine lv_iconst (v := nI 1) hx hb dL_law_277 (by decide) ?_
  refine z_iadd hx hb dL_law_278 ?_
  refine va_sld hx hb hX hbl hbA hS (vp_in_nI (show i + 1 < L by omega) (by omega)) dL_law_279 ?_
  refine lv_aload_n hx hb dL_law_280 rfl (lv_at hl 0 rfl) ?_
  refine lv_iload_n hx hb dL_law_281 rfl (lv_at hl 3 rfl) ?_
  refine lv_iconst (v := nI 2) hx hb dL_law_282 (by decide) ?_
  refine z_iadd hx hb dL_law_283 ?_
  refine va_sld hx hb hX hbl hbA hS (vp_in_nI (show i + 2 < L by omega) (by omega)) dL_law_284 ?_
  refine z_roV (As := [.int (xs (nI (i + 1)).toNatClampNeg), .int (xs (nI (i + 2)).toNatClampNeg)]) (rest := []) (q := (RX5, TX5, 7)) S hG o5 2 gL_law_X5_kind rfl kX5_kind ⟨Nat.le_of_ble_eq_true rfl, Nat.le_of_ble_eq_true rfl⟩ ⟨Nat.le_of_ble_eq_true rfl, Nat.le_of_ble_eq_true rfl⟩ hc rfl h5 rfl hl.1 rfl rfl (Nat.le_of_ble_eq_true rfl) dL_law_285 ?_
  have hmw1 := hmw
  obtain ⟨f6, h6⟩ := zMWt_recv hmw1
  refine lv_aload_n hx hb dL_law_288 rfl (lv_at hl 2 rfl) ?_
  refine lv_aload_n hx hb dL_law_289 rfl (lv_at hl 0 rfl) ?_
  refine lv_iload_n hx hb dL_law_290 rfl (lv_at hl 3 rfl) ?_
  refine lv_iconst (v := nI 1) hx hb dL_law_291 (by decide) ?_
  refine z_iadd hx hb dL_law_292 ?_
  refine va_sld hx hb hX hbl hbA hS (vp_in_nI (show i + 1 < L by omega) (by omega)) dL_law_293 ?_
  refine lv_aload_n hx hb dL_law_294 rfl (lv_at hl 0 rfl) ?_
  refine lv_iload_n hx hb dL_law_295 rfl (lv_at hl 3 rfl) ?_
  refine lv_iconst (v := nI 2) hx hb dL_law_296 (by decide) ?_
  refine z_iadd hx hb dL_law_297 ?_
  refine va_sld hx hb hX hbl hbA hS (vp_in_nI (show i + 2 < L by omega) (by omega)) dL_law_298 ?_
  refine z_roV (As := [.int (xs (nI (i + 1)).toNatClampNeg), .int (xs (nI (i + 2)).toNatClampNeg)]) (rest := [.int r]) (q := (RX6, TX6, 11)) S hG o6 2 gL_law_X6_kind rfl kX6_kind ⟨Nat.le_of_ble_eq_true rfl, Nat.le_of_ble_eq_true rfl⟩ ⟨Nat.le_of_ble_eq_true rfl, Nat.le_of_ble_eq_true rfl⟩ hmw1 rfl h6 rfl hl.1 rfl rfl (Nat.le_of_ble_eq_true rfl) dL_law_299 ?_
  refine lv_icmp_eq (tgt := 1309) hx hb dL_law_302 (by decide) (fun _ => ?_) (fun q => absurd rfl q)
  exact kk _ _ _ ⟨hv, hc, hmw, hS⟩ ls hl
set_option maxHeartbeats 4000000 in
set_option maxRecDepth 100000 in
theorem lw_c_make {p : Program} {e : Env} {s : State} {m : MethodId} {b L : Nat} {xs : Nat → Int32} {below : List Frame} {meth : Method} {c : Code} {E : zEnv} {ad am : Nat → Nat} {Q : State → Prop} {i : Nat} (F : zLF E p s m c b L xs) (D : zLA ad am s) (hi : i + 3 < L) (kk : zLG p e s m b below meth c E ad am Q i 1309) : zLG p e s m b below meth c E ad am Q i 307 := by
  intro τ H locs hs ls hl
  obtain ⟨S, hG, hX, hbl, hL⟩ := F
  obtain ⟨hin, him, hA1, hA2, hdis⟩ := D
  obtain ⟨hv, hc, hmw, hS⟩ := hs
  have hbA : ¬ (fun q : Nat => s.heap.size ≤ q) b := Nat.not_le.mpr hbl
  obtain ⟨hx, hb, hml, hown, hts⟩ := id S
  obtain ⟨nw, sv, an, hh, ct, ln, cd⟩ := τ
  obtain ⟨r, τ1, hv1, o5, o6⟩ := op_make E hin him hv (xs (nI (i + 1)).toNatClampNeg)
  obtain ⟨f5, h5⟩ := zCWt_recv hc
  refine lv_aload_n hx hb dL_law_307 rfl (lv_at hl 1 rfl) ?_
  refine lv_aload_n hx hb dL_law_308 rfl (lv_at hl 0 rfl) ?_
  refine lv_iload_n hx hb dL_law_309 rfl (lv_at hl 3 rfl) ?_
  refine lv_iconst (v := nI 1) hx hb dL_law_310 (by decide) ?_
  refine z_iadd hx hb dL_law_311 ?_
  refine va_sld hx hb hX hbl hbA hS (vp_in_nI (show i + 1 < L by omega) (by omega)) dL_law_312 ?_
  refine z_wrV (As := [.int (xs (nI (i + 1)).toNatClampNeg)]) (rest := []) (q := (RX5, TX5, 7)) S hG o5 1 gL_law_X5_make rfl kX5_make ⟨Nat.le_of_ble_eq_true rfl, Nat.le_of_ble_eq_true rfl⟩ ⟨Nat.le_of_ble_eq_true rfl, Nat.le_of_ble_eq_true rfl⟩ hc rfl h5 rfl hl.1 rfl rfl (Nat.le_of_ble_eq_true rfl) dL_law_313 hS hA1 (fun H1 locs hc1 hz1 ho1 hS => ?_)
  have hmw1 := zMWt_kept hmw (fun q hq => ho1 q (hdis q hq))
  obtain ⟨f6, h6⟩ := zMWt_recv hmw1
  refine lv_aload_n hx hb dL_law_316 rfl (lv_at hl 2 rfl) ?_
  refine lv_aload_n hx hb dL_law_317 rfl (lv_at hl 0 rfl) ?_
  refine lv_iload_n hx hb dL_law_318 rfl (lv_at hl 3 rfl) ?_
  refine lv_iconst (v := nI 1) hx hb dL_law_319 (by decide) ?_
  refine z_iadd hx hb dL_law_320 ?_
  refine va_sld hx hb hX hbl hbA hS (vp_in_nI (show i + 1 < L by omega) (by omega)) dL_law_321 ?_
  refine z_wrV (As := [.int (xs (nI (i + 1)).toNatClampNeg)]) (rest := [.int r]) (q := (RX6, TX6, 11)) S hG o6 1 gL_law_X6_make rfl kX6_make ⟨Nat.le_of_ble_eq_true rfl, Nat.le_of_ble_eq_true rfl⟩ ⟨Nat.le_of_ble_eq_true rfl, Nat.le_of_ble_eq_true rfl⟩ hmw1 rfl h6 rfl hl.1 rfl rfl (Nat.le_of_ble_eq_true rfl) dL_law_322 hS hA2 (fun H2 locs hm2 hz2 ho2 hS => ?_)
  have hc2 := zCWt_kept hc1 (fun q hq => ho2 q (fun z => hdis q z hq))
  refine lv_icmp_eq (tgt := 1309) hx hb dL_law_325 (by decide) (fun _ => ?_) (fun q => absurd rfl q)
  exact kk _ _ _ ⟨hv1, hc2, hm2, hS⟩ ls hl
set_option maxHeartbeats 4000000 in
set_option maxRecDepth 100000 in
theorem lw_c_copy {p : Program} {e : Env} {s : State} {m : MethodId} {b L : Nat} {xs : Nat → Int32} {below : List Frame} {meth : Method} {c : Code} {E : zEnv} {ad am : Nat → Nat} {Q : State → Prop} {i : Nat} (F : zLF E p s m c b L xs) (D : zLA ad am s) (hi : i + 3 < L) (kk : zLG p e s m b below meth c E ad am Q i 1309) : zLG p e s m b below meth c E ad am Q i 330 := by
  intro τ H locs hs ls hl
  obtain ⟨S, hG, hX, hbl, hL⟩ := F
  obtain ⟨hin, him, hA1, hA2, hdis⟩ := D
  obtain ⟨hv, hc, hmw, hS⟩ := hs
  have hbA : ¬ (fun q : Nat => s.heap.size ≤ q) b := Nat.not_le.mpr hbl
  obtain ⟨hx, hb, hml, hown, hts⟩ := id S
  obtain ⟨nw, sv, an, hh, ct, ln, cd⟩ := τ
  obtain ⟨r, τ1, hv1, o5, o6⟩ := op_copy E hin him hv (xs (nI (i + 1)).toNatClampNeg)
  obtain ⟨f5, h5⟩ := zCWt_recv hc
  refine lv_aload_n hx hb dL_law_330 rfl (lv_at hl 1 rfl) ?_
  refine lv_aload_n hx hb dL_law_331 rfl (lv_at hl 0 rfl) ?_
  refine lv_iload_n hx hb dL_law_332 rfl (lv_at hl 3 rfl) ?_
  refine lv_iconst (v := nI 1) hx hb dL_law_333 (by decide) ?_
  refine z_iadd hx hb dL_law_334 ?_
  refine va_sld hx hb hX hbl hbA hS (vp_in_nI (show i + 1 < L by omega) (by omega)) dL_law_335 ?_
  refine z_wrV (As := [.int (xs (nI (i + 1)).toNatClampNeg)]) (rest := []) (q := (RX5, TX5, 7)) S hG o5 1 gL_law_X5_copy rfl kX5_copy ⟨Nat.le_of_ble_eq_true rfl, Nat.le_of_ble_eq_true rfl⟩ ⟨Nat.le_of_ble_eq_true rfl, Nat.le_of_ble_eq_true rfl⟩ hc rfl h5 rfl hl.1 rfl rfl (Nat.le_of_ble_eq_true rfl) dL_law_336 hS hA1 (fun H1 locs hc1 hz1 ho1 hS => ?_)
  have hmw1 := zMWt_kept hmw (fun q hq => ho1 q (hdis q hq))
  obtain ⟨f6, h6⟩ := zMWt_recv hmw1
  refine lv_aload_n hx hb dL_law_339 rfl (lv_at hl 2 rfl) ?_
  refine lv_aload_n hx hb dL_law_340 rfl (lv_at hl 0 rfl) ?_
  refine lv_iload_n hx hb dL_law_341 rfl (lv_at hl 3 rfl) ?_
  refine lv_iconst (v := nI 1) hx hb dL_law_342 (by decide) ?_
  refine z_iadd hx hb dL_law_343 ?_
  refine va_sld hx hb hX hbl hbA hS (vp_in_nI (show i + 1 < L by omega) (by omega)) dL_law_344 ?_
  refine z_wrV (As := [.int (xs (nI (i + 1)).toNatClampNeg)]) (rest := [.int r]) (q := (RX6, TX6, 11)) S hG o6 1 gL_law_X6_copy rfl kX6_copy ⟨Nat.le_of_ble_eq_true rfl, Nat.le_of_ble_eq_true rfl⟩ ⟨Nat.le_of_ble_eq_true rfl, Nat.le_of_ble_eq_true rfl⟩ hmw1 rfl h6 rfl hl.1 rfl rfl (Nat.le_of_ble_eq_true rfl) dL_law_345 hS hA2 (fun H2 locs hm2 hz2 ho2 hS => ?_)
  have hc2 := zCWt_kept hc1 (fun q hq => ho2 q (fun z => hdis q z hq))
  refine lv_icmp_eq (tgt := 1309) hx hb dL_law_348 (by decide) (fun _ => ?_) (fun q => absurd rfl q)
  exact kk _ _ _ ⟨hv1, hc2, hm2, hS⟩ ls hl
set_option maxHeartbeats 4000000 in
set_option maxRecDepth 100000 in
theorem lw_c_remove {p : Program} {e : Env} {s : State} {m : MethodId} {b L : Nat} {xs : Nat → Int32} {below : List Frame} {meth : Method} {c : Code} {E : zEnv} {ad am : Nat → Nat} {Q : State → Prop} {i : Nat} (F : zLF E p s m c b L xs) (D : zLA ad am s) (hi : i + 3 < L) (kk : zLG p e s m b below meth c E ad am Q i 1309) : zLG p e s m b below meth c E ad am Q i 353 := by
  intro τ H locs hs ls hl
  obtain ⟨S, hG, hX, hbl, hL⟩ := F
  obtain ⟨hin, him, hA1, hA2, hdis⟩ := D
  obtain ⟨hv, hc, hmw, hS⟩ := hs
  have hbA : ¬ (fun q : Nat => s.heap.size ≤ q) b := Nat.not_le.mpr hbl
  obtain ⟨hx, hb, hml, hown, hts⟩ := id S
  obtain ⟨nw, sv, an, hh, ct, ln, cd⟩ := τ
  obtain ⟨r, τ1, hv1, o5, o6⟩ := op_remove E hin him hv (xs (nI (i + 1)).toNatClampNeg)
  obtain ⟨f5, h5⟩ := zCWt_recv hc
  refine lv_aload_n hx hb dL_law_353 rfl (lv_at hl 1 rfl) ?_
  refine lv_aload_n hx hb dL_law_354 rfl (lv_at hl 0 rfl) ?_
  refine lv_iload_n hx hb dL_law_355 rfl (lv_at hl 3 rfl) ?_
  refine lv_iconst (v := nI 1) hx hb dL_law_356 (by decide) ?_
  refine z_iadd hx hb dL_law_357 ?_
  refine va_sld hx hb hX hbl hbA hS (vp_in_nI (show i + 1 < L by omega) (by omega)) dL_law_358 ?_
  refine z_wrV (As := [.int (xs (nI (i + 1)).toNatClampNeg)]) (rest := []) (q := (RX5, TX5, 7)) S hG o5 1 gL_law_X5_remove rfl kX5_remove ⟨Nat.le_of_ble_eq_true rfl, Nat.le_of_ble_eq_true rfl⟩ ⟨Nat.le_of_ble_eq_true rfl, Nat.le_of_ble_eq_true rfl⟩ hc rfl h5 rfl hl.1 rfl rfl (Nat.le_of_ble_eq_true rfl) dL_law_359 hS hA1 (fun H1 locs hc1 hz1 ho1 hS => ?_)
  have hmw1 := zMWt_kept hmw (fun q hq => ho1 q (hdis q hq))
  obtain ⟨f6, h6⟩ := zMWt_recv hmw1
  refine lv_aload_n hx hb dL_law_362 rfl (lv_at hl 2 rfl) ?_
  refine lv_aload_n hx hb dL_law_363 rfl (lv_at hl 0 rfl) ?_
  refine lv_iload_n hx hb dL_law_364 rfl (lv_at hl 3 rfl) ?_
  refine lv_iconst (v := nI 1) hx hb dL_law_365 (by decide) ?_
  refine z_iadd hx hb dL_law_366 ?_
  refine va_sld hx hb hX hbl hbA hS (vp_in_nI (show i + 1 < L by omega) (by omega)) dL_law_367 ?_
  refine z_wrV (As := [.int (xs (nI (i + 1)).toNatClampNeg)]) (rest := [.int r]) (q := (RX6, TX6, 11)) S hG o6 1 gL_law_X6_remove rfl kX6_remove ⟨Nat.le_of_ble_eq_true rfl, Nat.le_of_ble_eq_true rfl⟩ ⟨Nat.le_of_ble_eq_true rfl, Nat.le_of_ble_eq_true rfl⟩ hmw1 rfl h6 rfl hl.1 rfl rfl (Nat.le_of_ble_eq_true rfl) dL_law_368 hS hA2 (fun H2 locs hm2 hz2 ho2 hS => ?_)
  have hc2 := zCWt_kept hc1 (fun q hq => ho2 q (fun z => hdis q z hq))
  refine lv_icmp_eq (tgt := 1309) hx hb dL_law_371 (by decide) (fun _ => ?_) (fun q => absurd rfl q)
  exact kk _ _ _ ⟨hv1, hc2, hm2, hS⟩ ls hl
set_option maxHeartbeats 4000000 in
set_option maxRecDepth 100000 in
theorem lw_c_hang {p : Program} {e : Env} {s : State} {m : MethodId} {b L : Nat} {xs : Nat → Int32} {below : List Frame} {meth : Method} {c : Code} {E : zEnv} {ad am : Nat → Nat} {Q : State → Prop} {i : Nat} (F : zLF E p s m c b L xs) (D : zLA ad am s) (hi : i + 3 < L) (kk : zLG p e s m b below meth c E ad am Q i 1309) : zLG p e s m b below meth c E ad am Q i 376 := by
  intro τ H locs hs ls hl
  obtain ⟨S, hG, hX, hbl, hL⟩ := F
  obtain ⟨hin, him, hA1, hA2, hdis⟩ := D
  obtain ⟨hv, hc, hmw, hS⟩ := hs
  have hbA : ¬ (fun q : Nat => s.heap.size ≤ q) b := Nat.not_le.mpr hbl
  obtain ⟨hx, hb, hml, hown, hts⟩ := id S
  obtain ⟨nw, sv, an, hh, ct, ln, cd⟩ := τ
  obtain ⟨r, τ1, hv1, o5, o6⟩ := op_hang E hin him hv (xs (nI (i + 1)).toNatClampNeg) (xs (nI (i + 2)).toNatClampNeg) (xs (nI (i + 3)).toNatClampNeg)
  obtain ⟨f5, h5⟩ := zCWt_recv hc
  refine lv_aload_n hx hb dL_law_376 rfl (lv_at hl 1 rfl) ?_
  refine lv_aload_n hx hb dL_law_377 rfl (lv_at hl 0 rfl) ?_
  refine lv_iload_n hx hb dL_law_378 rfl (lv_at hl 3 rfl) ?_
  refine lv_iconst (v := nI 1) hx hb dL_law_379 (by decide) ?_
  refine z_iadd hx hb dL_law_380 ?_
  refine va_sld hx hb hX hbl hbA hS (vp_in_nI (show i + 1 < L by omega) (by omega)) dL_law_381 ?_
  refine lv_aload_n hx hb dL_law_382 rfl (lv_at hl 0 rfl) ?_
  refine lv_iload_n hx hb dL_law_383 rfl (lv_at hl 3 rfl) ?_
  refine lv_iconst (v := nI 2) hx hb dL_law_384 (by decide) ?_
  refine z_iadd hx hb dL_law_385 ?_
  refine va_sld hx hb hX hbl hbA hS (vp_in_nI (show i + 2 < L by omega) (by omega)) dL_law_386 ?_
  refine lv_aload_n hx hb dL_law_387 rfl (lv_at hl 0 rfl) ?_
  refine lv_iload_n hx hb dL_law_388 rfl (lv_at hl 3 rfl) ?_
  refine lv_iconst (v := nI 3) hx hb dL_law_389 (by decide) ?_
  refine z_iadd hx hb dL_law_390 ?_
  refine va_sld hx hb hX hbl hbA hS (vp_in_nI (show i + 3 < L by omega) (by omega)) dL_law_391 ?_
  refine z_wrV (As := [.int (xs (nI (i + 1)).toNatClampNeg), .int (xs (nI (i + 2)).toNatClampNeg), .int (xs (nI (i + 3)).toNatClampNeg)]) (rest := []) (q := (RX5, TX5, 7)) S hG o5 3 gL_law_X5_hang rfl kX5_hang ⟨Nat.le_of_ble_eq_true rfl, Nat.le_of_ble_eq_true rfl⟩ ⟨Nat.le_of_ble_eq_true rfl, Nat.le_of_ble_eq_true rfl⟩ hc rfl h5 rfl hl.1 rfl rfl (Nat.le_of_ble_eq_true rfl) dL_law_392 hS hA1 (fun H1 locs hc1 hz1 ho1 hS => ?_)
  have hmw1 := zMWt_kept hmw (fun q hq => ho1 q (hdis q hq))
  obtain ⟨f6, h6⟩ := zMWt_recv hmw1
  refine lv_aload_n hx hb dL_law_395 rfl (lv_at hl 2 rfl) ?_
  refine lv_aload_n hx hb dL_law_396 rfl (lv_at hl 0 rfl) ?_
  refine lv_iload_n hx hb dL_law_397 rfl (lv_at hl 3 rfl) ?_
  refine lv_iconst (v := nI 1) hx hb dL_law_398 (by decide) ?_
  refine z_iadd hx hb dL_law_399 ?_
  refine va_sld hx hb hX hbl hbA hS (vp_in_nI (show i + 1 < L by omega) (by omega)) dL_law_400 ?_
  refine lv_aload_n hx hb dL_law_401 rfl (lv_at hl 0 rfl) ?_
  refine lv_iload_n hx hb dL_law_402 rfl (lv_at hl 3 rfl) ?_
  refine lv_iconst (v := nI 2) hx hb dL_law_403 (by decide) ?_
  refine z_iadd hx hb dL_law_404 ?_
  refine va_sld hx hb hX hbl hbA hS (vp_in_nI (show i + 2 < L by omega) (by omega)) dL_law_405 ?_
  refine lv_aload_n hx hb dL_law_406 rfl (lv_at hl 0 rfl) ?_
  refine lv_iload_n hx hb dL_law_407 rfl (lv_at hl 3 rfl) ?_
  refine lv_iconst (v := nI 3) hx hb dL_law_408 (by decide) ?_
  refine z_iadd hx hb dL_law_409 ?_
  refine va_sld hx hb hX hbl hbA hS (vp_in_nI (show i + 3 < L by omega) (by omega)) dL_law_410 ?_
  refine z_wrV (As := [.int (xs (nI (i + 1)).toNatClampNeg), .int (xs (nI (i + 2)).toNatClampNeg), .int (xs (nI (i + 3)).toNatClampNeg)]) (rest := [.int r]) (q := (RX6, TX6, 11)) S hG o6 3 gL_law_X6_hang rfl kX6_hang ⟨Nat.le_of_ble_eq_true rfl, Nat.le_of_ble_eq_true rfl⟩ ⟨Nat.le_of_ble_eq_true rfl, Nat.le_of_ble_eq_true rfl⟩ hmw1 rfl h6 rfl hl.1 rfl rfl (Nat.le_of_ble_eq_true rfl) dL_law_411 hS hA2 (fun H2 locs hm2 hz2 ho2 hS => ?_)
  have hc2 := zCWt_kept hc1 (fun q hq => ho2 q (fun z => hdis q z hq))
  refine lv_icmp_eq (tgt := 1309) hx hb dL_law_414 (by decide) (fun _ => ?_) (fun q => absurd rfl q)
  exact kk _ _ _ ⟨hv1, hc2, hm2, hS⟩ ls hl
set_option maxHeartbeats 4000000 in
set_option maxRecDepth 100000 in
theorem lw_c_takeOff {p : Program} {e : Env} {s : State} {m : MethodId} {b L : Nat} {xs : Nat → Int32} {below : List Frame} {meth : Method} {c : Code} {E : zEnv} {ad am : Nat → Nat} {Q : State → Prop} {i : Nat} (F : zLF E p s m c b L xs) (D : zLA ad am s) (hi : i + 3 < L) (kk : zLG p e s m b below meth c E ad am Q i 1309) : zLG p e s m b below meth c E ad am Q i 419 := by
  intro τ H locs hs ls hl
  obtain ⟨S, hG, hX, hbl, hL⟩ := F
  obtain ⟨hin, him, hA1, hA2, hdis⟩ := D
  obtain ⟨hv, hc, hmw, hS⟩ := hs
  have hbA : ¬ (fun q : Nat => s.heap.size ≤ q) b := Nat.not_le.mpr hbl
  obtain ⟨hx, hb, hml, hown, hts⟩ := id S
  obtain ⟨nw, sv, an, hh, ct, ln, cd⟩ := τ
  obtain ⟨r, τ1, hv1, o5, o6⟩ := op_takeOff E hin him hv (xs (nI (i + 1)).toNatClampNeg) (xs (nI (i + 2)).toNatClampNeg)
  obtain ⟨f5, h5⟩ := zCWt_recv hc
  refine lv_aload_n hx hb dL_law_419 rfl (lv_at hl 1 rfl) ?_
  refine lv_aload_n hx hb dL_law_420 rfl (lv_at hl 0 rfl) ?_
  refine lv_iload_n hx hb dL_law_421 rfl (lv_at hl 3 rfl) ?_
  refine lv_iconst (v := nI 1) hx hb dL_law_422 (by decide) ?_
  refine z_iadd hx hb dL_law_423 ?_
  refine va_sld hx hb hX hbl hbA hS (vp_in_nI (show i + 1 < L by omega) (by omega)) dL_law_424 ?_
  refine lv_aload_n hx hb dL_law_425 rfl (lv_at hl 0 rfl) ?_
  refine lv_iload_n hx hb dL_law_426 rfl (lv_at hl 3 rfl) ?_
  refine lv_iconst (v := nI 2) hx hb dL_law_427 (by decide) ?_
  refine z_iadd hx hb dL_law_428 ?_
  refine va_sld hx hb hX hbl hbA hS (vp_in_nI (show i + 2 < L by omega) (by omega)) dL_law_429 ?_
  refine z_wrV (As := [.int (xs (nI (i + 1)).toNatClampNeg), .int (xs (nI (i + 2)).toNatClampNeg)]) (rest := []) (q := (RX5, TX5, 7)) S hG o5 2 gL_law_X5_takeOff rfl kX5_takeOff ⟨Nat.le_of_ble_eq_true rfl, Nat.le_of_ble_eq_true rfl⟩ ⟨Nat.le_of_ble_eq_true rfl, Nat.le_of_ble_eq_true rfl⟩ hc rfl h5 rfl hl.1 rfl rfl (Nat.le_of_ble_eq_true rfl) dL_law_430 hS hA1 (fun H1 locs hc1 hz1 ho1 hS => ?_)
  have hmw1 := zMWt_kept hmw (fun q hq => ho1 q (hdis q hq))
  obtain ⟨f6, h6⟩ := zMWt_recv hmw1
  refine lv_aload_n hx hb dL_law_433 rfl (lv_at hl 2 rfl) ?_
  refine lv_aload_n hx hb dL_law_434 rfl (lv_at hl 0 rfl) ?_
  refine lv_iload_n hx hb dL_law_435 rfl (lv_at hl 3 rfl) ?_
  refine lv_iconst (v := nI 1) hx hb dL_law_436 (by decide) ?_
  refine z_iadd hx hb dL_law_437 ?_
  refine va_sld hx hb hX hbl hbA hS (vp_in_nI (show i + 1 < L by omega) (by omega)) dL_law_438 ?_
  refine lv_aload_n hx hb dL_law_439 rfl (lv_at hl 0 rfl) ?_
  refine lv_iload_n hx hb dL_law_440 rfl (lv_at hl 3 rfl) ?_
  refine lv_iconst (v := nI 2) hx hb dL_law_441 (by decide) ?_
  refine z_iadd hx hb dL_law_442 ?_
  refine va_sld hx hb hX hbl hbA hS (vp_in_nI (show i + 2 < L by omega) (by omega)) dL_law_443 ?_
  refine z_wrV (As := [.int (xs (nI (i + 1)).toNatClampNeg), .int (xs (nI (i + 2)).toNatClampNeg)]) (rest := [.int r]) (q := (RX6, TX6, 11)) S hG o6 2 gL_law_X6_takeOff rfl kX6_takeOff ⟨Nat.le_of_ble_eq_true rfl, Nat.le_of_ble_eq_true rfl⟩ ⟨Nat.le_of_ble_eq_true rfl, Nat.le_of_ble_eq_true rfl⟩ hmw1 rfl h6 rfl hl.1 rfl rfl (Nat.le_of_ble_eq_true rfl) dL_law_444 hS hA2 (fun H2 locs hm2 hz2 ho2 hS => ?_)
  have hc2 := zCWt_kept hc1 (fun q hq => ho2 q (fun z => hdis q z hq))
  refine lv_icmp_eq (tgt := 1309) hx hb dL_law_447 (by decide) (fun _ => ?_) (fun q => absurd rfl q)
  exact kk _ _ _ ⟨hv1, hc2, hm2, hS⟩ ls hl
set_option maxHeartbeats 4000000 in
set_option maxRecDepth 100000 in
theorem lw_c_swap {p : Program} {e : Env} {s : State} {m : MethodId} {b L : Nat} {xs : Nat → Int32} {below : List Frame} {meth : Method} {c : Code} {E : zEnv} {ad am : Nat → Nat} {Q : State → Prop} {i : Nat} (F : zLF E p s m c b L xs) (D : zLA ad am s) (hi : i + 3 < L) (kk : zLG p e s m b below meth c E ad am Q i 1309) : zLG p e s m b below meth c E ad am Q i 452 := by
  intro τ H locs hs ls hl
  obtain ⟨S, hG, hX, hbl, hL⟩ := F
  obtain ⟨hin, him, hA1, hA2, hdis⟩ := D
  obtain ⟨hv, hc, hmw, hS⟩ := hs
  have hbA : ¬ (fun q : Nat => s.heap.size ≤ q) b := Nat.not_le.mpr hbl
  obtain ⟨hx, hb, hml, hown, hts⟩ := id S
  obtain ⟨nw, sv, an, hh, ct, ln, cd⟩ := τ
  obtain ⟨r, τ1, hv1, o5, o6⟩ := op_swap E hin him hv (xs (nI (i + 1)).toNatClampNeg) (xs (nI (i + 2)).toNatClampNeg) (xs (nI (i + 3)).toNatClampNeg)
  obtain ⟨f5, h5⟩ := zCWt_recv hc
  refine lv_aload_n hx hb dL_law_452 rfl (lv_at hl 1 rfl) ?_
  refine lv_aload_n hx hb dL_law_453 rfl (lv_at hl 0 rfl) ?_
  refine lv_iload_n hx hb dL_law_454 rfl (lv_at hl 3 rfl) ?_
  refine lv_iconst (v := nI 1) hx hb dL_law_455 (by decide) ?_
  refine z_iadd hx hb dL_law_456 ?_
  refine va_sld hx hb hX hbl hbA hS (vp_in_nI (show i + 1 < L by omega) (by omega)) dL_law_457 ?_
  refine lv_aload_n hx hb dL_law_458 rfl (lv_at hl 0 rfl) ?_
  refine lv_iload_n hx hb dL_law_459 rfl (lv_at hl 3 rfl) ?_
  refine lv_iconst (v := nI 2) hx hb dL_law_460 (by decide) ?_
  refine z_iadd hx hb dL_law_461 ?_
  refine va_sld hx hb hX hbl hbA hS (vp_in_nI (show i + 2 < L by omega) (by omega)) dL_law_462 ?_
  refine lv_aload_n hx hb dL_law_463 rfl (lv_at hl 0 rfl) ?_
  refine lv_iload_n hx hb dL_law_464 rfl (lv_at hl 3 rfl) ?_
  refine lv_iconst (v := nI 3) hx hb dL_law_465 (by decide) ?_
  refine z_iadd hx hb dL_law_466 ?_
  refine va_sld hx hb hX hbl hbA hS (vp_in_nI (show i + 3 < L by omega) (by omega)) dL_law_467 ?_
  refine z_wrV (As := [.int (xs (nI (i + 1)).toNatClampNeg), .int (xs (nI (i + 2)).toNatClampNeg), .int (xs (nI (i + 3)).toNatClampNeg)]) (rest := []) (q := (RX5, TX5, 7)) S hG o5 3 gL_law_X5_swap rfl kX5_swap ⟨Nat.le_of_ble_eq_true rfl, Nat.le_of_ble_eq_true rfl⟩ ⟨Nat.le_of_ble_eq_true rfl, Nat.le_of_ble_eq_true rfl⟩ hc rfl h5 rfl hl.1 rfl rfl (Nat.le_of_ble_eq_true rfl) dL_law_468 hS hA1 (fun H1 locs hc1 hz1 ho1 hS => ?_)
  have hmw1 := zMWt_kept hmw (fun q hq => ho1 q (hdis q hq))
  obtain ⟨f6, h6⟩ := zMWt_recv hmw1
  refine lv_aload_n hx hb dL_law_471 rfl (lv_at hl 2 rfl) ?_
  refine lv_aload_n hx hb dL_law_472 rfl (lv_at hl 0 rfl) ?_
  refine lv_iload_n hx hb dL_law_473 rfl (lv_at hl 3 rfl) ?_
  refine lv_iconst (v := nI 1) hx hb dL_law_474 (by decide) ?_
  refine z_iadd hx hb dL_law_475 ?_
  refine va_sld hx hb hX hbl hbA hS (vp_in_nI (show i + 1 < L by omega) (by omega)) dL_law_476 ?_
  refine lv_aload_n hx hb dL_law_477 rfl (lv_at hl 0 rfl) ?_
  refine lv_iload_n hx hb dL_law_478 rfl (lv_at hl 3 rfl) ?_
  refine lv_iconst (v := nI 2) hx hb dL_law_479 (by decide) ?_
  refine z_iadd hx hb dL_law_480 ?_
  refine va_sld hx hb hX hbl hbA hS (vp_in_nI (show i + 2 < L by omega) (by omega)) dL_law_481 ?_
  refine lv_aload_n hx hb dL_law_482 rfl (lv_at hl 0 rfl) ?_
  refine lv_iload_n hx hb dL_law_483 rfl (lv_at hl 3 rfl) ?_
  refine lv_iconst (v := nI 3) hx hb dL_law_484 (by decide) ?_
  refine z_iadd hx hb dL_law_485 ?_
  refine va_sld hx hb hX hbl hbA hS (vp_in_nI (show i + 3 < L by omega) (by omega)) dL_law_486 ?_
  refine z_wrV (As := [.int (xs (nI (i + 1)).toNatClampNeg), .int (xs (nI (i + 2)).toNatClampNeg), .int (xs (nI (i + 3)).toNatClampNeg)]) (rest := [.int r]) (q := (RX6, TX6, 11)) S hG o6 3 gL_law_X6_swap rfl kX6_swap ⟨Nat.le_of_ble_eq_true rfl, Nat.le_of_ble_eq_true rfl⟩ ⟨Nat.le_of_ble_eq_true rfl, Nat.le_of_ble_eq_true rfl⟩ hmw1 rfl h6 rfl hl.1 rfl rfl (Nat.le_of_ble_eq_true rfl) dL_law_487 hS hA2 (fun H2 locs hm2 hz2 ho2 hS => ?_)
  have hc2 := zCWt_kept hc1 (fun q hq => ho2 q (fun z => hdis q z hq))
  refine lv_icmp_eq (tgt := 1309) hx hb dL_law_490 (by decide) (fun _ => ?_) (fun q => absurd rfl q)
  exact kk _ _ _ ⟨hv1, hc2, hm2, hS⟩ ls hl
set_option maxHeartbeats 4000000 in
set_option maxRecDepth 100000 in
theorem lw_c_roll {p : Program} {e : Env} {s : State} {m : MethodId} {b L : Nat} {xs : Nat → Int32} {below : List Frame} {meth : Method} {c : Code} {E : zEnv} {ad am : Nat → Nat} {Q : State → Prop} {i : Nat} (F : zLF E p s m c b L xs) (D : zLA ad am s) (hi : i + 3 < L) (kk : zLG p e s m b below meth c E ad am Q i 1309) : zLG p e s m b below meth c E ad am Q i 495 := by
  intro τ H locs hs ls hl
  obtain ⟨S, hG, hX, hbl, hL⟩ := F
  obtain ⟨hin, him, hA1, hA2, hdis⟩ := D
  obtain ⟨hv, hc, hmw, hS⟩ := hs
  have hbA : ¬ (fun q : Nat => s.heap.size ≤ q) b := Nat.not_le.mpr hbl
  obtain ⟨hx, hb, hml, hown, hts⟩ := id S
  obtain ⟨nw, sv, an, hh, ct, ln, cd⟩ := τ
  obtain ⟨r, τ1, hv1, o5, o6⟩ := op_roll E hin him hv (xs (nI (i + 1)).toNatClampNeg) (xs (nI (i + 2)).toNatClampNeg)
  obtain ⟨f5, h5⟩ := zCWt_recv hc
  refine lv_aload_n hx hb dL_law_495 rfl (lv_at hl 1 rfl) ?_
  refine lv_aload_n hx hb dL_law_496 rfl (lv_at hl 0 rfl) ?_
  refine lv_iload_n hx hb dL_law_497 rfl (lv_at hl 3 rfl) ?_
  refine lv_iconst (v := nI 1) hx hb dL_law_498 (by decide) ?_
  refine z_iadd hx hb dL_law_499 ?_
  refine va_sld hx hb hX hbl hbA hS (vp_in_nI (show i + 1 < L by omega) (by omega)) dL_law_500 ?_
  refine lv_aload_n hx hb dL_law_501 rfl (lv_at hl 0 rfl) ?_
  refine lv_iload_n hx hb dL_law_502 rfl (lv_at hl 3 rfl) ?_
  refine lv_iconst (v := nI 2) hx hb dL_law_503 (by decide) ?_
  refine z_iadd hx hb dL_law_504 ?_
  refine va_sld hx hb hX hbl hbA hS (vp_in_nI (show i + 2 < L by omega) (by omega)) dL_law_505 ?_
  refine z_wrV (As := [.int (xs (nI (i + 1)).toNatClampNeg), .int (xs (nI (i + 2)).toNatClampNeg)]) (rest := []) (q := (RX5, TX5, 7)) S hG o5 2 gL_law_X5_roll rfl kX5_roll ⟨Nat.le_of_ble_eq_true rfl, Nat.le_of_ble_eq_true rfl⟩ ⟨Nat.le_of_ble_eq_true rfl, Nat.le_of_ble_eq_true rfl⟩ hc rfl h5 rfl hl.1 rfl rfl (Nat.le_of_ble_eq_true rfl) dL_law_506 hS hA1 (fun H1 locs hc1 hz1 ho1 hS => ?_)
  have hmw1 := zMWt_kept hmw (fun q hq => ho1 q (hdis q hq))
  obtain ⟨f6, h6⟩ := zMWt_recv hmw1
  refine lv_aload_n hx hb dL_law_509 rfl (lv_at hl 2 rfl) ?_
  refine lv_aload_n hx hb dL_law_510 rfl (lv_at hl 0 rfl) ?_
  refine lv_iload_n hx hb dL_law_511 rfl (lv_at hl 3 rfl) ?_
  refine lv_iconst (v := nI 1) hx hb dL_law_512 (by decide) ?_
  refine z_iadd hx hb dL_law_513 ?_
  refine va_sld hx hb hX hbl hbA hS (vp_in_nI (show i + 1 < L by omega) (by omega)) dL_law_514 ?_
  refine lv_aload_n hx hb dL_law_515 rfl (lv_at hl 0 rfl) ?_
  refine lv_iload_n hx hb dL_law_516 rfl (lv_at hl 3 rfl) ?_
  refine lv_iconst (v := nI 2) hx hb dL_law_517 (by decide) ?_
  refine z_iadd hx hb dL_law_518 ?_
  refine va_sld hx hb hX hbl hbA hS (vp_in_nI (show i + 2 < L by omega) (by omega)) dL_law_519 ?_
  refine z_wrV (As := [.int (xs (nI (i + 1)).toNatClampNeg), .int (xs (nI (i + 2)).toNatClampNeg)]) (rest := [.int r]) (q := (RX6, TX6, 11)) S hG o6 2 gL_law_X6_roll rfl kX6_roll ⟨Nat.le_of_ble_eq_true rfl, Nat.le_of_ble_eq_true rfl⟩ ⟨Nat.le_of_ble_eq_true rfl, Nat.le_of_ble_eq_true rfl⟩ hmw1 rfl h6 rfl hl.1 rfl rfl (Nat.le_of_ble_eq_true rfl) dL_law_520 hS hA2 (fun H2 locs hm2 hz2 ho2 hS => ?_)
  have hc2 := zCWt_kept hc1 (fun q hq => ho2 q (fun z => hdis q z hq))
  refine lv_icmp_eq (tgt := 1309) hx hb dL_law_523 (by decide) (fun _ => ?_) (fun q => absurd rfl q)
  exact kk _ _ _ ⟨hv1, hc2, hm2, hS⟩ ls hl
set_option maxHeartbeats 4000000 in
set_option maxRecDepth 100000 in
theorem lw_c_turn {p : Program} {e : Env} {s : State} {m : MethodId} {b L : Nat} {xs : Nat → Int32} {below : List Frame} {meth : Method} {c : Code} {E : zEnv} {ad am : Nat → Nat} {Q : State → Prop} {i : Nat} (F : zLF E p s m c b L xs) (D : zLA ad am s) (hi : i + 3 < L) (kk : zLG p e s m b below meth c E ad am Q i 1309) : zLG p e s m b below meth c E ad am Q i 528 := by
  intro τ H locs hs ls hl
  obtain ⟨S, hG, hX, hbl, hL⟩ := F
  obtain ⟨hin, him, hA1, hA2, hdis⟩ := D
  obtain ⟨hv, hc, hmw, hS⟩ := hs
  have hbA : ¬ (fun q : Nat => s.heap.size ≤ q) b := Nat.not_le.mpr hbl
  obtain ⟨hx, hb, hml, hown, hts⟩ := id S
  obtain ⟨nw, sv, an, hh, ct, ln, cd⟩ := τ
  obtain ⟨r, τ1, hv1, o5, o6⟩ := op_turn E hin him hv (xs (nI (i + 1)).toNatClampNeg) (xs (nI (i + 2)).toNatClampNeg)
  obtain ⟨f5, h5⟩ := zCWt_recv hc
  refine lv_aload_n hx hb dL_law_528 rfl (lv_at hl 1 rfl) ?_
  refine lv_aload_n hx hb dL_law_529 rfl (lv_at hl 0 rfl) ?_
  refine lv_iload_n hx hb dL_law_530 rfl (lv_at hl 3 rfl) ?_
  refine lv_iconst (v := nI 1) hx hb dL_law_531 (by decide) ?_
  refine z_iadd hx hb dL_law_532 ?_
  refine va_sld hx hb hX hbl hbA hS (vp_in_nI (show i + 1 < L by omega) (by omega)) dL_law_533 ?_
  refine lv_aload_n hx hb dL_law_534 rfl (lv_at hl 0 rfl) ?_
  refine lv_iload_n hx hb dL_law_535 rfl (lv_at hl 3 rfl) ?_
  refine lv_iconst (v := nI 2) hx hb dL_law_536 (by decide) ?_
  refine z_iadd hx hb dL_law_537 ?_
  refine va_sld hx hb hX hbl hbA hS (vp_in_nI (show i + 2 < L by omega) (by omega)) dL_law_538 ?_
  refine z_wrV (As := [.int (xs (nI (i + 1)).toNatClampNeg), .int (xs (nI (i + 2)).toNatClampNeg)]) (rest := []) (q := (RX5, TX5, 7)) S hG o5 2 gL_law_X5_turn rfl kX5_turn ⟨Nat.le_of_ble_eq_true rfl, Nat.le_of_ble_eq_true rfl⟩ ⟨Nat.le_of_ble_eq_true rfl, Nat.le_of_ble_eq_true rfl⟩ hc rfl h5 rfl hl.1 rfl rfl (Nat.le_of_ble_eq_true rfl) dL_law_539 hS hA1 (fun H1 locs hc1 hz1 ho1 hS => ?_)
  have hmw1 := zMWt_kept hmw (fun q hq => ho1 q (hdis q hq))
  obtain ⟨f6, h6⟩ := zMWt_recv hmw1
  refine lv_aload_n hx hb dL_law_542 rfl (lv_at hl 2 rfl) ?_
  refine lv_aload_n hx hb dL_law_543 rfl (lv_at hl 0 rfl) ?_
  refine lv_iload_n hx hb dL_law_544 rfl (lv_at hl 3 rfl) ?_
  refine lv_iconst (v := nI 1) hx hb dL_law_545 (by decide) ?_
  refine z_iadd hx hb dL_law_546 ?_
  refine va_sld hx hb hX hbl hbA hS (vp_in_nI (show i + 1 < L by omega) (by omega)) dL_law_547 ?_
  refine lv_aload_n hx hb dL_law_548 rfl (lv_at hl 0 rfl) ?_
  refine lv_iload_n hx hb dL_law_549 rfl (lv_at hl 3 rfl) ?_
  refine lv_iconst (v := nI 2) hx hb dL_law_550 (by decide) ?_
  refine z_iadd hx hb dL_law_551 ?_
  refine va_sld hx hb hX hbl hbA hS (vp_in_nI (show i + 2 < L by omega) (by omega)) dL_law_552 ?_
  refine z_wrV (As := [.int (xs (nI (i + 1)).toNatClampNeg), .int (xs (nI (i + 2)).toNatClampNeg)]) (rest := [.int r]) (q := (RX6, TX6, 11)) S hG o6 2 gL_law_X6_turn rfl kX6_turn ⟨Nat.le_of_ble_eq_true rfl, Nat.le_of_ble_eq_true rfl⟩ ⟨Nat.le_of_ble_eq_true rfl, Nat.le_of_ble_eq_true rfl⟩ hmw1 rfl h6 rfl hl.1 rfl rfl (Nat.le_of_ble_eq_true rfl) dL_law_553 hS hA2 (fun H2 locs hm2 hz2 ho2 hS => ?_)
  have hc2 := zCWt_kept hc1 (fun q hq => ho2 q (fun z => hdis q z hq))
  refine lv_icmp_eq (tgt := 1309) hx hb dL_law_556 (by decide) (fun _ => ?_) (fun q => absurd rfl q)
  exact kk _ _ _ ⟨hv1, hc2, hm2, hS⟩ ls hl
set_option maxHeartbeats 4000000 in
set_option maxRecDepth 100000 in
theorem lw_c_mirror {p : Program} {e : Env} {s : State} {m : MethodId} {b L : Nat} {xs : Nat → Int32} {below : List Frame} {meth : Method} {c : Code} {E : zEnv} {ad am : Nat → Nat} {Q : State → Prop} {i : Nat} (F : zLF E p s m c b L xs) (D : zLA ad am s) (hi : i + 3 < L) (kk : zLG p e s m b below meth c E ad am Q i 1309) : zLG p e s m b below meth c E ad am Q i 561 := by
  intro τ H locs hs ls hl
  obtain ⟨S, hG, hX, hbl, hL⟩ := F
  obtain ⟨hin, him, hA1, hA2, hdis⟩ := D
  obtain ⟨hv, hc, hmw, hS⟩ := hs
  have hbA : ¬ (fun q : Nat => s.heap.size ≤ q) b := Nat.not_le.mpr hbl
  obtain ⟨hx, hb, hml, hown, hts⟩ := id S
  obtain ⟨nw, sv, an, hh, ct, ln, cd⟩ := τ
  obtain ⟨r, τ1, hv1, o5, o6⟩ := op_mirror E hin him hv (xs (nI (i + 1)).toNatClampNeg)
  obtain ⟨f5, h5⟩ := zCWt_recv hc
  refine lv_aload_n hx hb dL_law_561 rfl (lv_at hl 1 rfl) ?_
  refine lv_aload_n hx hb dL_law_562 rfl (lv_at hl 0 rfl) ?_
  refine lv_iload_n hx hb dL_law_563 rfl (lv_at hl 3 rfl) ?_
  refine lv_iconst (v := nI 1) hx hb dL_law_564 (by decide) ?_
  refine z_iadd hx hb dL_law_565 ?_
  refine va_sld hx hb hX hbl hbA hS (vp_in_nI (show i + 1 < L by omega) (by omega)) dL_law_566 ?_
  refine z_wrV (As := [.int (xs (nI (i + 1)).toNatClampNeg)]) (rest := []) (q := (RX5, TX5, 7)) S hG o5 1 gL_law_X5_mirror rfl kX5_mirror ⟨Nat.le_of_ble_eq_true rfl, Nat.le_of_ble_eq_true rfl⟩ ⟨Nat.le_of_ble_eq_true rfl, Nat.le_of_ble_eq_true rfl⟩ hc rfl h5 rfl hl.1 rfl rfl (Nat.le_of_ble_eq_true rfl) dL_law_567 hS hA1 (fun H1 locs hc1 hz1 ho1 hS => ?_)
  have hmw1 := zMWt_kept hmw (fun q hq => ho1 q (hdis q hq))
  obtain ⟨f6, h6⟩ := zMWt_recv hmw1
  refine lv_aload_n hx hb dL_law_570 rfl (lv_at hl 2 rfl) ?_
  refine lv_aload_n hx hb dL_law_571 rfl (lv_at hl 0 rfl) ?_
  refine lv_iload_n hx hb dL_law_572 rfl (lv_at hl 3 rfl) ?_
  refine lv_iconst (v := nI 1) hx hb dL_law_573 (by decide) ?_
  refine z_iadd hx hb dL_law_574 ?_
  refine va_sld hx hb hX hbl hbA hS (vp_in_nI (show i + 1 < L by omega) (by omega)) dL_law_575 ?_
  refine z_wrV (As := [.int (xs (nI (i + 1)).toNatClampNeg)]) (rest := [.int r]) (q := (RX6, TX6, 11)) S hG o6 1 gL_law_X6_mirror rfl kX6_mirror ⟨Nat.le_of_ble_eq_true rfl, Nat.le_of_ble_eq_true rfl⟩ ⟨Nat.le_of_ble_eq_true rfl, Nat.le_of_ble_eq_true rfl⟩ hmw1 rfl h6 rfl hl.1 rfl rfl (Nat.le_of_ble_eq_true rfl) dL_law_576 hS hA2 (fun H2 locs hm2 hz2 ho2 hS => ?_)
  have hc2 := zCWt_kept hc1 (fun q hq => ho2 q (fun z => hdis q z hq))
  refine lv_icmp_eq (tgt := 1309) hx hb dL_law_579 (by decide) (fun _ => ?_) (fun q => absurd rfl q)
  exact kk _ _ _ ⟨hv1, hc2, hm2, hS⟩ ls hl
set_option maxHeartbeats 4000000 in
set_option maxRecDepth 100000 in
theorem lw_c_bracelets {p : Program} {e : Env} {s : State} {m : MethodId} {b L : Nat} {xs : Nat → Int32} {below : List Frame} {meth : Method} {c : Code} {E : zEnv} {ad am : Nat → Nat} {Q : State → Prop} {i : Nat} (F : zLF E p s m c b L xs) (D : zLA ad am s) (hi : i + 3 < L) (kk : zLG p e s m b below meth c E ad am Q i 1309) : zLG p e s m b below meth c E ad am Q i 584 := by
  intro τ H locs hs ls hl
  obtain ⟨S, hG, hX, hbl, hL⟩ := F
  obtain ⟨hin, him, hA1, hA2, hdis⟩ := D
  obtain ⟨hv, hc, hmw, hS⟩ := hs
  have hbA : ¬ (fun q : Nat => s.heap.size ≤ q) b := Nat.not_le.mpr hbl
  obtain ⟨hx, hb, hml, hown, hts⟩ := id S
  obtain ⟨nw, sv, an, hh, ct, ln, cd⟩ := τ
  obtain ⟨r, o5, o6⟩ := op_bracelets E hin him hv 
  obtain ⟨f5, h5⟩ := zCWt_recv hc
  refine lv_aload_n hx hb dL_law_584 rfl (lv_at hl 1 rfl) ?_
  refine z_roV (As := []) (rest := []) (q := (RX5, TX5, 7)) S hG o5 0 gL_law_X5_bracelets rfl kX5_bracelets ⟨Nat.le_of_ble_eq_true rfl, Nat.le_of_ble_eq_true rfl⟩ ⟨Nat.le_of_ble_eq_true rfl, Nat.le_of_ble_eq_true rfl⟩ hc rfl h5 rfl hl.1 rfl rfl (Nat.le_of_ble_eq_true rfl) dL_law_585 ?_
  have hmw1 := hmw
  obtain ⟨f6, h6⟩ := zMWt_recv hmw1
  refine lv_aload_n hx hb dL_law_588 rfl (lv_at hl 2 rfl) ?_
  refine z_roV (As := []) (rest := [.int r]) (q := (RX6, TX6, 11)) S hG o6 0 gL_law_X6_bracelets rfl kX6_bracelets ⟨Nat.le_of_ble_eq_true rfl, Nat.le_of_ble_eq_true rfl⟩ ⟨Nat.le_of_ble_eq_true rfl, Nat.le_of_ble_eq_true rfl⟩ hmw1 rfl h6 rfl hl.1 rfl rfl (Nat.le_of_ble_eq_true rfl) dL_law_589 ?_
  refine lv_icmp_eq (tgt := 1309) hx hb dL_law_592 (by decide) (fun _ => ?_) (fun q => absurd rfl q)
  exact kk _ _ _ ⟨hv, hc, hmw, hS⟩ ls hl
set_option maxHeartbeats 4000000 in
set_option maxRecDepth 100000 in
theorem lw_c_bracelet {p : Program} {e : Env} {s : State} {m : MethodId} {b L : Nat} {xs : Nat → Int32} {below : List Frame} {meth : Method} {c : Code} {E : zEnv} {ad am : Nat → Nat} {Q : State → Prop} {i : Nat} (F : zLF E p s m c b L xs) (D : zLA ad am s) (hi : i + 3 < L) (kk : zLG p e s m b below meth c E ad am Q i 1309) : zLG p e s m b below meth c E ad am Q i 597 := by
  intro τ H locs hs ls hl
  obtain ⟨S, hG, hX, hbl, hL⟩ := F
  obtain ⟨hin, him, hA1, hA2, hdis⟩ := D
  obtain ⟨hv, hc, hmw, hS⟩ := hs
  have hbA : ¬ (fun q : Nat => s.heap.size ≤ q) b := Nat.not_le.mpr hbl
  obtain ⟨hx, hb, hml, hown, hts⟩ := id S
  obtain ⟨nw, sv, an, hh, ct, ln, cd⟩ := τ
  obtain ⟨r, o5, o6⟩ := op_bracelet E hin him hv (xs (nI (i + 1)).toNatClampNeg) (xs (nI (i + 2)).toNatClampNeg)
  obtain ⟨f5, h5⟩ := zCWt_recv hc
  refine lv_aload_n hx hb dL_law_597 rfl (lv_at hl 1 rfl) ?_
  refine lv_aload_n hx hb dL_law_598 rfl (lv_at hl 0 rfl) ?_
  refine lv_iload_n hx hb dL_law_599 rfl (lv_at hl 3 rfl) ?_
  refine lv_iconst (v := nI 1) hx hb dL_law_600 (by decide) ?_
  refine z_iadd hx hb dL_law_601 ?_
  refine va_sld hx hb hX hbl hbA hS (vp_in_nI (show i + 1 < L by omega) (by omega)) dL_law_602 ?_
  refine lv_aload_n hx hb dL_law_603 rfl (lv_at hl 0 rfl) ?_
  refine lv_iload_n hx hb dL_law_604 rfl (lv_at hl 3 rfl) ?_
  refine lv_iconst (v := nI 2) hx hb dL_law_605 (by decide) ?_
  refine z_iadd hx hb dL_law_606 ?_
  refine va_sld hx hb hX hbl hbA hS (vp_in_nI (show i + 2 < L by omega) (by omega)) dL_law_607 ?_
  refine z_roV (As := [.int (xs (nI (i + 1)).toNatClampNeg), .int (xs (nI (i + 2)).toNatClampNeg)]) (rest := []) (q := (RX5, TX5, 7)) S hG o5 2 gL_law_X5_bracelet rfl kX5_bracelet ⟨Nat.le_of_ble_eq_true rfl, Nat.le_of_ble_eq_true rfl⟩ ⟨Nat.le_of_ble_eq_true rfl, Nat.le_of_ble_eq_true rfl⟩ hc rfl h5 rfl hl.1 rfl rfl (Nat.le_of_ble_eq_true rfl) dL_law_608 ?_
  have hmw1 := hmw
  obtain ⟨f6, h6⟩ := zMWt_recv hmw1
  refine lv_aload_n hx hb dL_law_611 rfl (lv_at hl 2 rfl) ?_
  refine lv_aload_n hx hb dL_law_612 rfl (lv_at hl 0 rfl) ?_
  refine lv_iload_n hx hb dL_law_613 rfl (lv_at hl 3 rfl) ?_
  refine lv_iconst (v := nI 1) hx hb dL_law_614 (by decide) ?_
  refine z_iadd hx hb dL_law_615 ?_
  refine va_sld hx hb hX hbl hbA hS (vp_in_nI (show i + 1 < L by omega) (by omega)) dL_law_616 ?_
  refine lv_aload_n hx hb dL_law_617 rfl (lv_at hl 0 rfl) ?_
  refine lv_iload_n hx hb dL_law_618 rfl (lv_at hl 3 rfl) ?_
  refine lv_iconst (v := nI 2) hx hb dL_law_619 (by decide) ?_
  refine z_iadd hx hb dL_law_620 ?_
  refine va_sld hx hb hX hbl hbA hS (vp_in_nI (show i + 2 < L by omega) (by omega)) dL_law_621 ?_
  refine z_roV (As := [.int (xs (nI (i + 1)).toNatClampNeg), .int (xs (nI (i + 2)).toNatClampNeg)]) (rest := [.int r]) (q := (RX6, TX6, 11)) S hG o6 2 gL_law_X6_bracelet rfl kX6_bracelet ⟨Nat.le_of_ble_eq_true rfl, Nat.le_of_ble_eq_true rfl⟩ ⟨Nat.le_of_ble_eq_true rfl, Nat.le_of_ble_eq_true rfl⟩ hmw1 rfl h6 rfl hl.1 rfl rfl (Nat.le_of_ble_eq_true rfl) dL_law_622 ?_
  refine lv_icmp_eq (tgt := 1309) hx hb dL_law_625 (by decide) (fun _ => ?_) (fun q => absurd rfl q)
  exact kk _ _ _ ⟨hv, hc, hmw, hS⟩ ls hl
set_option maxHeartbeats 4000000 in
set_option maxRecDepth 100000 in
theorem lw_c_slot {p : Program} {e : Env} {s : State} {m : MethodId} {b L : Nat} {xs : Nat → Int32} {below : List Frame} {meth : Method} {c : Code} {E : zEnv} {ad am : Nat → Nat} {Q : State → Prop} {i : Nat} (F : zLF E p s m c b L xs) (D : zLA ad am s) (hi : i + 3 < L) (kk : zLG p e s m b below meth c E ad am Q i 1309) : zLG p e s m b below meth c E ad am Q i 630 := by
  intro τ H locs hs ls hl
  obtain ⟨S, hG, hX, hbl, hL⟩ := F
  obtain ⟨hin, him, hA1, hA2, hdis⟩ := D
  obtain ⟨hv, hc, hmw, hS⟩ := hs
  have hbA : ¬ (fun q : Nat => s.heap.size ≤ q) b := Nat.not_le.mpr hbl
  obtain ⟨hx, hb, hml, hown, hts⟩ := id S
  obtain ⟨nw, sv, an, hh, ct, ln, cd⟩ := τ
  obtain ⟨r, o5, o6⟩ := op_slot E hin him hv (xs (nI (i + 1)).toNatClampNeg) (xs (nI (i + 2)).toNatClampNeg)
  obtain ⟨f5, h5⟩ := zCWt_recv hc
  refine lv_aload_n hx hb dL_law_630 rfl (lv_at hl 1 rfl) ?_
  refine lv_aload_n hx hb dL_law_631 rfl (lv_at hl 0 rfl) ?_
  refine lv_iload_n hx hb dL_law_632 rfl (lv_at hl 3 rfl) ?_
  refine lv_iconst (v := nI 1) hx hb dL_law_633 (by decide) ?_
  refine z_iadd hx hb dL_law_634 ?_
  refine va_sld hx hb hX hbl hbA hS (vp_in_nI (show i + 1 < L by omega) (by omega)) dL_law_635 ?_
  refine lv_aload_n hx hb dL_law_636 rfl (lv_at hl 0 rfl) ?_
  refine lv_iload_n hx hb dL_law_637 rfl (lv_at hl 3 rfl) ?_
  refine lv_iconst (v := nI 2) hx hb dL_law_638 (by decide) ?_
  refine z_iadd hx hb dL_law_639 ?_
  refine va_sld hx hb hX hbl hbA hS (vp_in_nI (show i + 2 < L by omega) (by omega)) dL_law_640 ?_
  refine z_roV (As := [.int (xs (nI (i + 1)).toNatClampNeg), .int (xs (nI (i + 2)).toNatClampNeg)]) (rest := []) (q := (RX5, TX5, 7)) S hG o5 2 gL_law_X5_slot rfl kX5_slot ⟨Nat.le_of_ble_eq_true rfl, Nat.le_of_ble_eq_true rfl⟩ ⟨Nat.le_of_ble_eq_true rfl, Nat.le_of_ble_eq_true rfl⟩ hc rfl h5 rfl hl.1 rfl rfl (Nat.le_of_ble_eq_true rfl) dL_law_641 ?_
  have hmw1 := hmw
  obtain ⟨f6, h6⟩ := zMWt_recv hmw1
  refine lv_aload_n hx hb dL_law_644 rfl (lv_at hl 2 rfl) ?_
  refine lv_aload_n hx hb dL_law_645 rfl (lv_at hl 0 rfl) ?_
  refine lv_iload_n hx hb dL_law_646 rfl (lv_at hl 3 rfl) ?_
  refine lv_iconst (v := nI 1) hx hb dL_law_647 (by decide) ?_
  refine z_iadd hx hb dL_law_648 ?_
  refine va_sld hx hb hX hbl hbA hS (vp_in_nI (show i + 1 < L by omega) (by omega)) dL_law_649 ?_
  refine lv_aload_n hx hb dL_law_650 rfl (lv_at hl 0 rfl) ?_
  refine lv_iload_n hx hb dL_law_651 rfl (lv_at hl 3 rfl) ?_
  refine lv_iconst (v := nI 2) hx hb dL_law_652 (by decide) ?_
  refine z_iadd hx hb dL_law_653 ?_
  refine va_sld hx hb hX hbl hbA hS (vp_in_nI (show i + 2 < L by omega) (by omega)) dL_law_654 ?_
  refine z_roV (As := [.int (xs (nI (i + 1)).toNatClampNeg), .int (xs (nI (i + 2)).toNatClampNeg)]) (rest := [.int r]) (q := (RX6, TX6, 11)) S hG o6 2 gL_law_X6_slot rfl kX6_slot ⟨Nat.le_of_ble_eq_true rfl, Nat.le_of_ble_eq_true rfl⟩ ⟨Nat.le_of_ble_eq_true rfl, Nat.le_of_ble_eq_true rfl⟩ hmw1 rfl h6 rfl hl.1 rfl rfl (Nat.le_of_ble_eq_true rfl) dL_law_655 ?_
  refine lv_icmp_eq (tgt := 1309) hx hb dL_law_658 (by decide) (fun _ => ?_) (fun q => absurd rfl q)
  exact kk _ _ _ ⟨hv, hc, hmw, hS⟩ ls hl
set_option maxHeartbeats 4000000 in
set_option maxRecDepth 100000 in
theorem lw_c_quarter {p : Program} {e : Env} {s : State} {m : MethodId} {b L : Nat} {xs : Nat → Int32} {below : List Frame} {meth : Method} {c : Code} {E : zEnv} {ad am : Nat → Nat} {Q : State → Prop} {i : Nat} (F : zLF E p s m c b L xs) (D : zLA ad am s) (hi : i + 3 < L) (kk : zLG p e s m b below meth c E ad am Q i 1309) : zLG p e s m b below meth c E ad am Q i 663 := by
  intro τ H locs hs ls hl
  obtain ⟨S, hG, hX, hbl, hL⟩ := F
  obtain ⟨hin, him, hA1, hA2, hdis⟩ := D
  obtain ⟨hv, hc, hmw, hS⟩ := hs
  have hbA : ¬ (fun q : Nat => s.heap.size ≤ q) b := Nat.not_le.mpr hbl
  obtain ⟨hx, hb, hml, hown, hts⟩ := id S
  obtain ⟨nw, sv, an, hh, ct, ln, cd⟩ := τ
  obtain ⟨r, o5, o6⟩ := op_quarter E hin him hv (xs (nI (i + 1)).toNatClampNeg) (xs (nI (i + 2)).toNatClampNeg)
  obtain ⟨f5, h5⟩ := zCWt_recv hc
  refine lv_aload_n hx hb dL_law_663 rfl (lv_at hl 1 rfl) ?_
  refine lv_aload_n hx hb dL_law_664 rfl (lv_at hl 0 rfl) ?_
  refine lv_iload_n hx hb dL_law_665 rfl (lv_at hl 3 rfl) ?_
  refine lv_iconst (v := nI 1) hx hb dL_law_666 (by decide) ?_
  refine z_iadd hx hb dL_law_667 ?_
  refine va_sld hx hb hX hbl hbA hS (vp_in_nI (show i + 1 < L by omega) (by omega)) dL_law_668 ?_
  refine lv_aload_n hx hb dL_law_669 rfl (lv_at hl 0 rfl) ?_
  refine lv_iload_n hx hb dL_law_670 rfl (lv_at hl 3 rfl) ?_
  refine lv_iconst (v := nI 2) hx hb dL_law_671 (by decide) ?_
  refine z_iadd hx hb dL_law_672 ?_
  refine va_sld hx hb hX hbl hbA hS (vp_in_nI (show i + 2 < L by omega) (by omega)) dL_law_673 ?_
  refine z_roV (As := [.int (xs (nI (i + 1)).toNatClampNeg), .int (xs (nI (i + 2)).toNatClampNeg)]) (rest := []) (q := (RX5, TX5, 7)) S hG o5 2 gL_law_X5_quarter rfl kX5_quarter ⟨Nat.le_of_ble_eq_true rfl, Nat.le_of_ble_eq_true rfl⟩ ⟨Nat.le_of_ble_eq_true rfl, Nat.le_of_ble_eq_true rfl⟩ hc rfl h5 rfl hl.1 rfl rfl (Nat.le_of_ble_eq_true rfl) dL_law_674 ?_
  have hmw1 := hmw
  obtain ⟨f6, h6⟩ := zMWt_recv hmw1
  refine lv_aload_n hx hb dL_law_677 rfl (lv_at hl 2 rfl) ?_
  refine lv_aload_n hx hb dL_law_678 rfl (lv_at hl 0 rfl) ?_
  refine lv_iload_n hx hb dL_law_679 rfl (lv_at hl 3 rfl) ?_
  refine lv_iconst (v := nI 1) hx hb dL_law_680 (by decide) ?_
  refine z_iadd hx hb dL_law_681 ?_
  refine va_sld hx hb hX hbl hbA hS (vp_in_nI (show i + 1 < L by omega) (by omega)) dL_law_682 ?_
  refine lv_aload_n hx hb dL_law_683 rfl (lv_at hl 0 rfl) ?_
  refine lv_iload_n hx hb dL_law_684 rfl (lv_at hl 3 rfl) ?_
  refine lv_iconst (v := nI 2) hx hb dL_law_685 (by decide) ?_
  refine z_iadd hx hb dL_law_686 ?_
  refine va_sld hx hb hX hbl hbA hS (vp_in_nI (show i + 2 < L by omega) (by omega)) dL_law_687 ?_
  refine z_roV (As := [.int (xs (nI (i + 1)).toNatClampNeg), .int (xs (nI (i + 2)).toNatClampNeg)]) (rest := [.int r]) (q := (RX6, TX6, 11)) S hG o6 2 gL_law_X6_quarter rfl kX6_quarter ⟨Nat.le_of_ble_eq_true rfl, Nat.le_of_ble_eq_true rfl⟩ ⟨Nat.le_of_ble_eq_true rfl, Nat.le_of_ble_eq_true rfl⟩ hmw1 rfl h6 rfl hl.1 rfl rfl (Nat.le_of_ble_eq_true rfl) dL_law_688 ?_
  refine lv_icmp_eq (tgt := 1309) hx hb dL_law_691 (by decide) (fun _ => ?_) (fun q => absurd rfl q)
  exact kk _ _ _ ⟨hv, hc, hmw, hS⟩ ls hl
set_option maxHeartbeats 4000000 in
set_option maxRecDepth 100000 in
theorem lw_c_alike {p : Program} {e : Env} {s : State} {m : MethodId} {b L : Nat} {xs : Nat → Int32} {below : List Frame} {meth : Method} {c : Code} {E : zEnv} {ad am : Nat → Nat} {Q : State → Prop} {i : Nat} (F : zLF E p s m c b L xs) (D : zLA ad am s) (hi : i + 3 < L) (kk : zLG p e s m b below meth c E ad am Q i 1309) : zLG p e s m b below meth c E ad am Q i 696 := by
  intro τ H locs hs ls hl
  obtain ⟨S, hG, hX, hbl, hL⟩ := F
  obtain ⟨hin, him, hA1, hA2, hdis⟩ := D
  obtain ⟨hv, hc, hmw, hS⟩ := hs
  have hbA : ¬ (fun q : Nat => s.heap.size ≤ q) b := Nat.not_le.mpr hbl
  obtain ⟨hx, hb, hml, hown, hts⟩ := id S
  obtain ⟨nw, sv, an, hh, ct, ln, cd⟩ := τ
  obtain ⟨r, o5, o6⟩ := op_alike E hin him hv (xs (nI (i + 1)).toNatClampNeg) (xs (nI (i + 2)).toNatClampNeg) (xs (nI (i + 3)).toNatClampNeg)
  obtain ⟨f5, h5⟩ := zCWt_recv hc
  refine lv_aload_n hx hb dL_law_696 rfl (lv_at hl 1 rfl) ?_
  refine lv_aload_n hx hb dL_law_697 rfl (lv_at hl 0 rfl) ?_
  refine lv_iload_n hx hb dL_law_698 rfl (lv_at hl 3 rfl) ?_
  refine lv_iconst (v := nI 1) hx hb dL_law_699 (by decide) ?_
  refine z_iadd hx hb dL_law_700 ?_
  refine va_sld hx hb hX hbl hbA hS (vp_in_nI (show i + 1 < L by omega) (by omega)) dL_law_701 ?_
  refine lv_aload_n hx hb dL_law_702 rfl (lv_at hl 0 rfl) ?_
  refine lv_iload_n hx hb dL_law_703 rfl (lv_at hl 3 rfl) ?_
  refine lv_iconst (v := nI 2) hx hb dL_law_704 (by decide) ?_
  refine z_iadd hx hb dL_law_705 ?_
  refine va_sld hx hb hX hbl hbA hS (vp_in_nI (show i + 2 < L by omega) (by omega)) dL_law_706 ?_
  refine lv_aload_n hx hb dL_law_707 rfl (lv_at hl 0 rfl) ?_
  refine lv_iload_n hx hb dL_law_708 rfl (lv_at hl 3 rfl) ?_
  refine lv_iconst (v := nI 3) hx hb dL_law_709 (by decide) ?_
  refine z_iadd hx hb dL_law_710 ?_
  refine va_sld hx hb hX hbl hbA hS (vp_in_nI (show i + 3 < L by omega) (by omega)) dL_law_711 ?_
  refine z_roV (As := [.int (xs (nI (i + 1)).toNatClampNeg), .int (xs (nI (i + 2)).toNatClampNeg), .int (xs (nI (i + 3)).toNatClampNeg)]) (rest := []) (q := (RX5, TX5, 7)) S hG o5 3 gL_law_X5_alike rfl kX5_alike ⟨Nat.le_of_ble_eq_true rfl, Nat.le_of_ble_eq_true rfl⟩ ⟨Nat.le_of_ble_eq_true rfl, Nat.le_of_ble_eq_true rfl⟩ hc rfl h5 rfl hl.1 rfl rfl (Nat.le_of_ble_eq_true rfl) dL_law_712 ?_
  have hmw1 := hmw
  obtain ⟨f6, h6⟩ := zMWt_recv hmw1
  refine lv_aload_n hx hb dL_law_715 rfl (lv_at hl 2 rfl) ?_
  refine lv_aload_n hx hb dL_law_716 rfl (lv_at hl 0 rfl) ?_
  refine lv_iload_n hx hb dL_law_717 rfl (lv_at hl 3 rfl) ?_
  refine lv_iconst (v := nI 1) hx hb dL_law_718 (by decide) ?_
  refine z_iadd hx hb dL_law_719 ?_
  refine va_sld hx hb hX hbl hbA hS (vp_in_nI (show i + 1 < L by omega) (by omega)) dL_law_720 ?_
  refine lv_aload_n hx hb dL_law_721 rfl (lv_at hl 0 rfl) ?_
  refine lv_iload_n hx hb dL_law_722 rfl (lv_at hl 3 rfl) ?_
  refine lv_iconst (v := nI 2) hx hb dL_law_723 (by decide) ?_
  refine z_iadd hx hb dL_law_724 ?_
  refine va_sld hx hb hX hbl hbA hS (vp_in_nI (show i + 2 < L by omega) (by omega)) dL_law_725 ?_
  refine lv_aload_n hx hb dL_law_726 rfl (lv_at hl 0 rfl) ?_
  refine lv_iload_n hx hb dL_law_727 rfl (lv_at hl 3 rfl) ?_
  refine lv_iconst (v := nI 3) hx hb dL_law_728 (by decide) ?_
  refine z_iadd hx hb dL_law_729 ?_
  refine va_sld hx hb hX hbl hbA hS (vp_in_nI (show i + 3 < L by omega) (by omega)) dL_law_730 ?_
  refine z_roV (As := [.int (xs (nI (i + 1)).toNatClampNeg), .int (xs (nI (i + 2)).toNatClampNeg), .int (xs (nI (i + 3)).toNatClampNeg)]) (rest := [.int r]) (q := (RX6, TX6, 11)) S hG o6 3 gL_law_X6_alike rfl kX6_alike ⟨Nat.le_of_ble_eq_true rfl, Nat.le_of_ble_eq_true rfl⟩ ⟨Nat.le_of_ble_eq_true rfl, Nat.le_of_ble_eq_true rfl⟩ hmw1 rfl h6 rfl hl.1 rfl rfl (Nat.le_of_ble_eq_true rfl) dL_law_731 ?_
  refine lv_icmp_eq (tgt := 1309) hx hb dL_law_734 (by decide) (fun _ => ?_) (fun q => absurd rfl q)
  exact kk _ _ _ ⟨hv, hc, hmw, hS⟩ ls hl
set_option maxHeartbeats 4000000 in
set_option maxRecDepth 100000 in
theorem lw_c_least {p : Program} {e : Env} {s : State} {m : MethodId} {b L : Nat} {xs : Nat → Int32} {below : List Frame} {meth : Method} {c : Code} {E : zEnv} {ad am : Nat → Nat} {Q : State → Prop} {i : Nat} (F : zLF E p s m c b L xs) (D : zLA ad am s) (hi : i + 3 < L) (kk : zLG p e s m b below meth c E ad am Q i 1309) : zLG p e s m b below meth c E ad am Q i 739 := by
  intro τ H locs hs ls hl
  obtain ⟨S, hG, hX, hbl, hL⟩ := F
  obtain ⟨hin, him, hA1, hA2, hdis⟩ := D
  obtain ⟨hv, hc, hmw, hS⟩ := hs
  have hbA : ¬ (fun q : Nat => s.heap.size ≤ q) b := Nat.not_le.mpr hbl
  obtain ⟨hx, hb, hml, hown, hts⟩ := id S
  obtain ⟨nw, sv, an, hh, ct, ln, cd⟩ := τ
  obtain ⟨r, o5, o6⟩ := op_least E hin him hv (xs (nI (i + 1)).toNatClampNeg) (xs (nI (i + 2)).toNatClampNeg) (xs (nI (i + 3)).toNatClampNeg)
  obtain ⟨f5, h5⟩ := zCWt_recv hc
  refine lv_aload_n hx hb dL_law_739 rfl (lv_at hl 1 rfl) ?_
  refine lv_aload_n hx hb dL_law_740 rfl (lv_at hl 0 rfl) ?_
  refine lv_iload_n hx hb dL_law_741 rfl (lv_at hl 3 rfl) ?_
  refine lv_iconst (v := nI 1) hx hb dL_law_742 (by decide) ?_
  refine z_iadd hx hb dL_law_743 ?_
  refine va_sld hx hb hX hbl hbA hS (vp_in_nI (show i + 1 < L by omega) (by omega)) dL_law_744 ?_
  refine lv_aload_n hx hb dL_law_745 rfl (lv_at hl 0 rfl) ?_
  refine lv_iload_n hx hb dL_law_746 rfl (lv_at hl 3 rfl) ?_
  refine lv_iconst (v := nI 2) hx hb dL_law_747 (by decide) ?_
  refine z_iadd hx hb dL_law_748 ?_
  refine va_sld hx hb hX hbl hbA hS (vp_in_nI (show i + 2 < L by omega) (by omega)) dL_law_749 ?_
  refine lv_aload_n hx hb dL_law_750 rfl (lv_at hl 0 rfl) ?_
  refine lv_iload_n hx hb dL_law_751 rfl (lv_at hl 3 rfl) ?_
  refine lv_iconst (v := nI 3) hx hb dL_law_752 (by decide) ?_
  refine z_iadd hx hb dL_law_753 ?_
  refine va_sld hx hb hX hbl hbA hS (vp_in_nI (show i + 3 < L by omega) (by omega)) dL_law_754 ?_
  refine z_roV (As := [.int (xs (nI (i + 1)).toNatClampNeg), .int (xs (nI (i + 2)).toNatClampNeg), .int (xs (nI (i + 3)).toNatClampNeg)]) (rest := []) (q := (RX5, TX5, 7)) S hG o5 3 gL_law_X5_least rfl kX5_least ⟨Nat.le_of_ble_eq_true rfl, Nat.le_of_ble_eq_true rfl⟩ ⟨Nat.le_of_ble_eq_true rfl, Nat.le_of_ble_eq_true rfl⟩ hc rfl h5 rfl hl.1 rfl rfl (Nat.le_of_ble_eq_true rfl) dL_law_755 ?_
  have hmw1 := hmw
  obtain ⟨f6, h6⟩ := zMWt_recv hmw1
  refine lv_aload_n hx hb dL_law_758 rfl (lv_at hl 2 rfl) ?_
  refine lv_aload_n hx hb dL_law_759 rfl (lv_at hl 0 rfl) ?_
  refine lv_iload_n hx hb dL_law_760 rfl (lv_at hl 3 rfl) ?_
  refine lv_iconst (v := nI 1) hx hb dL_law_761 (by decide) ?_
  refine z_iadd hx hb dL_law_762 ?_
  refine va_sld hx hb hX hbl hbA hS (vp_in_nI (show i + 1 < L by omega) (by omega)) dL_law_763 ?_
  refine lv_aload_n hx hb dL_law_764 rfl (lv_at hl 0 rfl) ?_
  refine lv_iload_n hx hb dL_law_765 rfl (lv_at hl 3 rfl) ?_
  refine lv_iconst (v := nI 2) hx hb dL_law_766 (by decide) ?_
  refine z_iadd hx hb dL_law_767 ?_
  refine va_sld hx hb hX hbl hbA hS (vp_in_nI (show i + 2 < L by omega) (by omega)) dL_law_768 ?_
  refine lv_aload_n hx hb dL_law_769 rfl (lv_at hl 0 rfl) ?_
  refine lv_iload_n hx hb dL_law_770 rfl (lv_at hl 3 rfl) ?_
  refine lv_iconst (v := nI 3) hx hb dL_law_771 (by decide) ?_
  refine z_iadd hx hb dL_law_772 ?_
  refine va_sld hx hb hX hbl hbA hS (vp_in_nI (show i + 3 < L by omega) (by omega)) dL_law_773 ?_
  refine z_roV (As := [.int (xs (nI (i + 1)).toNatClampNeg), .int (xs (nI (i + 2)).toNatClampNeg), .int (xs (nI (i + 3)).toNatClampNeg)]) (rest := [.int r]) (q := (RX6, TX6, 11)) S hG o6 3 gL_law_X6_least rfl kX6_least ⟨Nat.le_of_ble_eq_true rfl, Nat.le_of_ble_eq_true rfl⟩ ⟨Nat.le_of_ble_eq_true rfl, Nat.le_of_ble_eq_true rfl⟩ hmw1 rfl h6 rfl hl.1 rfl rfl (Nat.le_of_ble_eq_true rfl) dL_law_774 ?_
  refine lv_icmp_eq (tgt := 1309) hx hb dL_law_777 (by decide) (fun _ => ?_) (fun q => absurd rfl q)
  exact kk _ _ _ ⟨hv, hc, hmw, hS⟩ ls hl
set_option maxHeartbeats 4000000 in
set_option maxRecDepth 100000 in
theorem lw_c_orbit {p : Program} {e : Env} {s : State} {m : MethodId} {b L : Nat} {xs : Nat → Int32} {below : List Frame} {meth : Method} {c : Code} {E : zEnv} {ad am : Nat → Nat} {Q : State → Prop} {i : Nat} (F : zLF E p s m c b L xs) (D : zLA ad am s) (hi : i + 3 < L) (kk : zLG p e s m b below meth c E ad am Q i 1309) : zLG p e s m b below meth c E ad am Q i 782 := by
  intro τ H locs hs ls hl
  obtain ⟨S, hG, hX, hbl, hL⟩ := F
  obtain ⟨hin, him, hA1, hA2, hdis⟩ := D
  obtain ⟨hv, hc, hmw, hS⟩ := hs
  have hbA : ¬ (fun q : Nat => s.heap.size ≤ q) b := Nat.not_le.mpr hbl
  obtain ⟨hx, hb, hml, hown, hts⟩ := id S
  obtain ⟨nw, sv, an, hh, ct, ln, cd⟩ := τ
  obtain ⟨r, o5, o6⟩ := op_orbit E hin him hv (xs (nI (i + 1)).toNatClampNeg) (xs (nI (i + 2)).toNatClampNeg)
  obtain ⟨f5, h5⟩ := zCWt_recv hc
  refine lv_aload_n hx hb dL_law_782 rfl (lv_at hl 1 rfl) ?_
  refine lv_aload_n hx hb dL_law_783 rfl (lv_at hl 0 rfl) ?_
  refine lv_iload_n hx hb dL_law_784 rfl (lv_at hl 3 rfl) ?_
  refine lv_iconst (v := nI 1) hx hb dL_law_785 (by decide) ?_
  refine z_iadd hx hb dL_law_786 ?_
  refine va_sld hx hb hX hbl hbA hS (vp_in_nI (show i + 1 < L by omega) (by omega)) dL_law_787 ?_
  refine lv_aload_n hx hb dL_law_788 rfl (lv_at hl 0 rfl) ?_
  refine lv_iload_n hx hb dL_law_789 rfl (lv_at hl 3 rfl) ?_
  refine lv_iconst (v := nI 2) hx hb dL_law_790 (by decide) ?_
  refine z_iadd hx hb dL_law_791 ?_
  refine va_sld hx hb hX hbl hbA hS (vp_in_nI (show i + 2 < L by omega) (by omega)) dL_law_792 ?_
  refine z_roV (As := [.int (xs (nI (i + 1)).toNatClampNeg), .int (xs (nI (i + 2)).toNatClampNeg)]) (rest := []) (q := (RX5, TX5, 7)) S hG o5 2 gL_law_X5_orbit rfl kX5_orbit ⟨Nat.le_of_ble_eq_true rfl, Nat.le_of_ble_eq_true rfl⟩ ⟨Nat.le_of_ble_eq_true rfl, Nat.le_of_ble_eq_true rfl⟩ hc rfl h5 rfl hl.1 rfl rfl (Nat.le_of_ble_eq_true rfl) dL_law_793 ?_
  have hmw1 := hmw
  obtain ⟨f6, h6⟩ := zMWt_recv hmw1
  refine lv_aload_n hx hb dL_law_796 rfl (lv_at hl 2 rfl) ?_
  refine lv_aload_n hx hb dL_law_797 rfl (lv_at hl 0 rfl) ?_
  refine lv_iload_n hx hb dL_law_798 rfl (lv_at hl 3 rfl) ?_
  refine lv_iconst (v := nI 1) hx hb dL_law_799 (by decide) ?_
  refine z_iadd hx hb dL_law_800 ?_
  refine va_sld hx hb hX hbl hbA hS (vp_in_nI (show i + 1 < L by omega) (by omega)) dL_law_801 ?_
  refine lv_aload_n hx hb dL_law_802 rfl (lv_at hl 0 rfl) ?_
  refine lv_iload_n hx hb dL_law_803 rfl (lv_at hl 3 rfl) ?_
  refine lv_iconst (v := nI 2) hx hb dL_law_804 (by decide) ?_
  refine z_iadd hx hb dL_law_805 ?_
  refine va_sld hx hb hX hbl hbA hS (vp_in_nI (show i + 2 < L by omega) (by omega)) dL_law_806 ?_
  refine z_roV (As := [.int (xs (nI (i + 1)).toNatClampNeg), .int (xs (nI (i + 2)).toNatClampNeg)]) (rest := [.int r]) (q := (RX6, TX6, 11)) S hG o6 2 gL_law_X6_orbit rfl kX6_orbit ⟨Nat.le_of_ble_eq_true rfl, Nat.le_of_ble_eq_true rfl⟩ ⟨Nat.le_of_ble_eq_true rfl, Nat.le_of_ble_eq_true rfl⟩ hmw1 rfl h6 rfl hl.1 rfl rfl (Nat.le_of_ble_eq_true rfl) dL_law_807 ?_
  refine lv_icmp_eq (tgt := 1309) hx hb dL_law_810 (by decide) (fun _ => ?_) (fun q => absurd rfl q)
  exact kk _ _ _ ⟨hv, hc, hmw, hS⟩ ls hl
set_option maxHeartbeats 4000000 in
set_option maxRecDepth 100000 in
theorem lw_c_fixed {p : Program} {e : Env} {s : State} {m : MethodId} {b L : Nat} {xs : Nat → Int32} {below : List Frame} {meth : Method} {c : Code} {E : zEnv} {ad am : Nat → Nat} {Q : State → Prop} {i : Nat} (F : zLF E p s m c b L xs) (D : zLA ad am s) (hi : i + 3 < L) (kk : zLG p e s m b below meth c E ad am Q i 1309) : zLG p e s m b below meth c E ad am Q i 815 := by
  intro τ H locs hs ls hl
  obtain ⟨S, hG, hX, hbl, hL⟩ := F
  obtain ⟨hin, him, hA1, hA2, hdis⟩ := D
  obtain ⟨hv, hc, hmw, hS⟩ := hs
  have hbA : ¬ (fun q : Nat => s.heap.size ≤ q) b := Nat.not_le.mpr hbl
  obtain ⟨hx, hb, hml, hown, hts⟩ := id S
  obtain ⟨nw, sv, an, hh, ct, ln, cd⟩ := τ
  obtain ⟨r, o5, o6⟩ := op_fixed E hin him hv (xs (nI (i + 1)).toNatClampNeg)
  obtain ⟨f5, h5⟩ := zCWt_recv hc
  refine lv_aload_n hx hb dL_law_815 rfl (lv_at hl 1 rfl) ?_
  refine lv_aload_n hx hb dL_law_816 rfl (lv_at hl 0 rfl) ?_
  refine lv_iload_n hx hb dL_law_817 rfl (lv_at hl 3 rfl) ?_
  refine lv_iconst (v := nI 1) hx hb dL_law_818 (by decide) ?_
  refine z_iadd hx hb dL_law_819 ?_
  refine va_sld hx hb hX hbl hbA hS (vp_in_nI (show i + 1 < L by omega) (by omega)) dL_law_820 ?_
  refine z_roV (As := [.int (xs (nI (i + 1)).toNatClampNeg)]) (rest := []) (q := (RX5, TX5, 7)) S hG o5 1 gL_law_X5_fixed rfl kX5_fixed ⟨Nat.le_of_ble_eq_true rfl, Nat.le_of_ble_eq_true rfl⟩ ⟨Nat.le_of_ble_eq_true rfl, Nat.le_of_ble_eq_true rfl⟩ hc rfl h5 rfl hl.1 rfl rfl (Nat.le_of_ble_eq_true rfl) dL_law_821 ?_
  have hmw1 := hmw
  obtain ⟨f6, h6⟩ := zMWt_recv hmw1
  refine lv_aload_n hx hb dL_law_824 rfl (lv_at hl 2 rfl) ?_
  refine lv_aload_n hx hb dL_law_825 rfl (lv_at hl 0 rfl) ?_
  refine lv_iload_n hx hb dL_law_826 rfl (lv_at hl 3 rfl) ?_
  refine lv_iconst (v := nI 1) hx hb dL_law_827 (by decide) ?_
  refine z_iadd hx hb dL_law_828 ?_
  refine va_sld hx hb hX hbl hbA hS (vp_in_nI (show i + 1 < L by omega) (by omega)) dL_law_829 ?_
  refine z_roV (As := [.int (xs (nI (i + 1)).toNatClampNeg)]) (rest := [.int r]) (q := (RX6, TX6, 11)) S hG o6 1 gL_law_X6_fixed rfl kX6_fixed ⟨Nat.le_of_ble_eq_true rfl, Nat.le_of_ble_eq_true rfl⟩ ⟨Nat.le_of_ble_eq_true rfl, Nat.le_of_ble_eq_true rfl⟩ hmw1 rfl h6 rfl hl.1 rfl rfl (Nat.le_of_ble_eq_true rfl) dL_law_830 ?_
  refine lv_icmp_eq (tgt := 1309) hx hb dL_law_833 (by decide) (fun _ => ?_) (fun q => absurd rfl q)
  exact kk _ _ _ ⟨hv, hc, hmw, hS⟩ ls hl
