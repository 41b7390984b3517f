set_option maxHeartbeats 4000000 in
set_option maxRecDepth 100000 in
theorem c_J6_bitCount_0f7a4 (E : zEnv) {x : Int32}  : zRO E yJ6_bitCount_0f7a4 wsJ6_bitCount_0f7a4 0 0 [.int (x)] (fun _ => True) (some (.int (zjb x))) := by
  refine zRO.ofI (maxL := 1) rfl (Nat.le_of_ble_eq_true rfl) (fun p e s m args below meth c H Q hF hP hret ls hl => ?_)
  have S : CallFix p m c cJ6_bitCount_0f7a4 1 s args wsJ6_bitCount_0f7a4 RJ6 := hF.1
  have hG := hF.2
  obtain ⟨hx, hb, hml, hown, hts⟩ := id S
  have hl : lv_has ls 1 [(0, .int (x))] := hl
  refine lv_iload_n hx hb dJ6_bitCount_0f7a4_0 rfl (lv_at hl 0 rfl) ?_
  refine lv_iload_n hx hb dJ6_bitCount_0f7a4_1 rfl (lv_at hl 0 rfl) ?_
  refine lv_iconst (v := nI (1)) hx hb dJ6_bitCount_0f7a4_2 (by decide) ?_
  refine lv_iushr (v := ((x).toUInt32 >>> ((nI (1)).toUInt32 &&& Int32.toUInt32 31)).toInt32) hx hb dJ6_bitCount_0f7a4_3 rfl ?_
  refine lv_ldcw (v := 1431655765) hx hb hown (hts (.constant RJ6 265 (1431655765)) (by decide +kernel)) dJ6_bitCount_0f7a4_4 ?_
  refine lv_iand hx hb dJ6_bitCount_0f7a4_7 ?_
  refine lv_isub hx hb dJ6_bitCount_0f7a4_8 ?_
  refine z_top (y := (zj1 x)) (rfl) ?_
  refine lv_istore_n (lv' := [(0, .int (zj1 x))]) hx hb dJ6_bitCount_0f7a4_9 rfl hl (by decide) rfl (fun ls hl => ?_)
  refine lv_iload_n hx hb dJ6_bitCount_0f7a4_10 rfl (lv_at hl 0 rfl) ?_
  refine lv_ldcw (v := 858993459) hx hb hown (hts (.constant RJ6 266 (858993459)) (by decide +kernel)) dJ6_bitCount_0f7a4_11 ?_
  refine lv_iand hx hb dJ6_bitCount_0f7a4_14 ?_
  refine lv_iload_n hx hb dJ6_bitCount_0f7a4_15 rfl (lv_at hl 0 rfl) ?_
  refine lv_iconst (v := nI (2)) hx hb dJ6_bitCount_0f7a4_16 (by decide) ?_
  refine lv_iushr (v := ((zj1 x).toUInt32 >>> ((nI (2)).toUInt32 &&& Int32.toUInt32 31)).toInt32) hx hb dJ6_bitCount_0f7a4_17 rfl ?_
  refine lv_ldcw (v := 858993459) hx hb hown (hts (.constant RJ6 266 (858993459)) (by decide +kernel)) dJ6_bitCount_0f7a4_18 ?_
  refine lv_iand hx hb dJ6_bitCount_0f7a4_21 ?_
  refine lv_iadd hx hb dJ6_bitCount_0f7a4_22 ?_
  refine z_top (y := (zj2 (zj1 x))) (rfl) ?_
  refine lv_istore_n (lv' := [(0, .int (zj2 (zj1 x)))]) hx hb dJ6_bitCount_0f7a4_23 rfl hl (by decide) rfl (fun ls hl => ?_)
  refine lv_iload_n hx hb dJ6_bitCount_0f7a4_24 rfl (lv_at hl 0 rfl) ?_
  refine lv_iload_n hx hb dJ6_bitCount_0f7a4_25 rfl (lv_at hl 0 rfl) ?_
  refine lv_iconst (v := nI (4)) hx hb dJ6_bitCount_0f7a4_26 (by decide) ?_
  refine lv_iushr (v := ((zj2 (zj1 x)).toUInt32 >>> ((nI (4)).toUInt32 &&& Int32.toUInt32 31)).toInt32) hx hb dJ6_bitCount_0f7a4_27 rfl ?_
  refine lv_iadd hx hb dJ6_bitCount_0f7a4_28 ?_
  refine lv_ldcw (v := 252645135) hx hb hown (hts (.constant RJ6 267 (252645135)) (by decide +kernel)) dJ6_bitCount_0f7a4_29 ?_
  refine lv_iand hx hb dJ6_bitCount_0f7a4_32 ?_
  refine z_top (y := (zj3 (zj2 (zj1 x)))) (rfl) ?_
  refine lv_istore_n (lv' := [(0, .int (zj3 (zj2 (zj1 x))))]) hx hb dJ6_bitCount_0f7a4_33 rfl hl (by decide) rfl (fun ls hl => ?_)
  refine lv_iload_n hx hb dJ6_bitCount_0f7a4_34 rfl (lv_at hl 0 rfl) ?_
  refine lv_iload_n hx hb dJ6_bitCount_0f7a4_35 rfl (lv_at hl 0 rfl) ?_
  refine lv_bipush (v := nI (8)) hx hb dJ6_bitCount_0f7a4_36 (by decide) ?_
  refine lv_iushr (v := ((zj3 (zj2 (zj1 x))).toUInt32 >>> ((nI (8)).toUInt32 &&& Int32.toUInt32 31)).toInt32) hx hb dJ6_bitCount_0f7a4_38 rfl ?_
  refine lv_iadd hx hb dJ6_bitCount_0f7a4_39 ?_
  refine z_top (y := (zj4 (zj3 (zj2 (zj1 x))))) (rfl) ?_
  refine lv_istore_n (lv' := [(0, .int (zj4 (zj3 (zj2 (zj1 x)))))]) hx hb dJ6_bitCount_0f7a4_40 rfl hl (by decide) rfl (fun ls hl => ?_)
  refine lv_iload_n hx hb dJ6_bitCount_0f7a4_41 rfl (lv_at hl 0 rfl) ?_
  refine lv_iload_n hx hb dJ6_bitCount_0f7a4_42 rfl (lv_at hl 0 rfl) ?_
  refine lv_bipush (v := nI (16)) hx hb dJ6_bitCount_0f7a4_43 (by decide) ?_
  refine lv_iushr (v := ((zj4 (zj3 (zj2 (zj1 x)))).toUInt32 >>> ((nI (16)).toUInt32 &&& Int32.toUInt32 31)).toInt32) hx hb dJ6_bitCount_0f7a4_45 rfl ?_
  refine lv_iadd hx hb dJ6_bitCount_0f7a4_46 ?_
  refine z_top (y := (zj5 (zj4 (zj3 (zj2 (zj1 x)))))) (rfl) ?_
  refine lv_istore_n (lv' := [(0, .int (zj5 (zj4 (zj3 (zj2 (zj1 x))))))]) hx hb dJ6_bitCount_0f7a4_47 rfl hl (by decide) rfl (fun ls hl => ?_)
  refine lv_iload_n hx hb dJ6_bitCount_0f7a4_48 rfl (lv_at hl 0 rfl) ?_
  refine lv_bipush (v := nI (63)) hx hb dJ6_bitCount_0f7a4_49 (by decide) ?_
  refine lv_iand hx hb dJ6_bitCount_0f7a4_51 ?_
  exact hret _ _ _ dJ6_bitCount_0f7a4_52 (rfl)

set_option maxHeartbeats 4000000 in
set_option maxRecDepth 100000 in
theorem c_X5_alike_0 (E : zEnv) {ad : Nat → Nat} {nw sv : zS} {an : Bool} {hs : Nat → zS} {ct ln : Nat} {cd : Nat → Int32} {x y w : Int32} (hok : zOk nw) (hq : zfnd (zSz nw) x = none) (hqy : zfnd (zSz nw) y = none) : zRO E yX5_alike wsX5_alike 5 115 [.ref (ad 287), .int (x), .int (y), .int (w)] (fun H => zCW E ad nw sv an hs ct ln cd H) (some (.int (-1))) := by
  refine zRO.ofI (maxL := 6) rfl (Nat.le_of_ble_eq_true rfl) (fun p e s m args below meth c H Q hF hP hret ls hl => ?_)
  have S : CallFix p m c cX5_alike 6 s args wsX5_alike RX5 := hF.1
  have hG := hF.2
  obtain ⟨hx, hb, hml, hown, hts⟩ := id S
  obtain ⟨π, tn, tt, nb, tf, hp, hX⟩ := hP
  obtain ⟨hA, hsv, hhs, t5, t8, t9, t10, t11⟩ := id hX
  obtain ⟨h0, h1, h2, h3, h4, h5, h6, h7, hR⟩ := id hA
  have hl : lv_has ls 6 [(0, .ref (ad 287)), (1, .int (x)), (2, .int (y)), (3, .int (w))] := hl
  have hin5 : ∀ w ∈ u_ws RX5 TX5 7, w ∈ wsX5_alike := by decide +kernel
  refine lv_aload_n hx hb dX5_alike_0 rfl (lv_at hl 0 rfl) ?_
  refine z_get (ref := RX5) (C := RX5) (T := TX5) (N := 7) hx hb hts hin5 hown hG t5 rfl 0 (by decide) (by decide +kernel) rfl rfl dX5_alike_1 ?_
  refine lv_iload_n hx hb dX5_alike_4 rfl (lv_at hl 1 rfl) ?_
  refine z_roVN (As := [.int (x)]) (rest := []) (host := "CharmBracelets") (q := (RX3, TX3, 5)) S hG (c_X3_find_0 E (ad := ad) (b := 0) (v := nw) hok.h16 hq) 1 gX5_alike_X3_find_n66 (List.mem_of_getElem? (i := 18) rfl) (by decide +kernel) rfl kX3_find.2 ⟨Nat.le_of_ble_eq_true rfl, Nat.le_of_ble_eq_true rfl⟩ ⟨Nat.zero_le _, Nat.zero_le _⟩ (hA) rfl h0 rfl hl.1 rfl rfl (Nat.le_of_ble_eq_true rfl) dX5_alike_5 ?_
  refine lv_astoreN (lv' := [(4, .null), (0, .ref (ad 287)), (1, .int (x)), (2, .int (y)), (3, .int (w))]) hx hb dX5_alike_8 hl (by decide) rfl (fun ls hl => ?_)
  refine lv_aload_n hx hb dX5_alike_10 rfl (lv_at hl 1 rfl) ?_
  refine z_get (ref := RX5) (C := RX5) (T := TX5) (N := 7) hx hb hts hin5 hown hG t5 rfl 0 (by decide) (by decide +kernel) rfl rfl dX5_alike_11 ?_
  refine lv_iload_n hx hb dX5_alike_14 rfl (lv_at hl 3 rfl) ?_
  refine z_roVN (As := [.int (y)]) (rest := []) (host := "CharmBracelets") (q := (RX3, TX3, 5)) S hG (c_X3_find_0 E (ad := ad) (b := 0) (v := nw) hok.h16 hqy) 1 gX5_alike_X3_find_n66 (List.mem_of_getElem? (i := 18) rfl) (by decide +kernel) rfl kX3_find.2 ⟨Nat.le_of_ble_eq_true rfl, Nat.le_of_ble_eq_true rfl⟩ ⟨Nat.zero_le _, Nat.zero_le _⟩ (hA) rfl h0 rfl hl.1 rfl rfl (Nat.le_of_ble_eq_true rfl) dX5_alike_15 ?_
  refine lv_astoreN (lv' := [(5, .null), (4, .null), (0, .ref (ad 287)), (1, .int (x)), (2, .int (y)), (3, .int (w))]) hx hb dX5_alike_18 hl (by decide) rfl (fun ls hl => ?_)
  refine lv_aloadN hx hb dX5_alike_20 (lv_at hl 1 rfl) ?_
  refine lv_ifnullN (tgt := 30) hx hb dX5_alike_22 (by decide) ?_
  refine lv_iconst (v := (-1)) hx hb dX5_alike_30 (by decide) ?_
  exact hret _ _ _ dX5_alike_31 (rfl)

set_option maxHeartbeats 4000000 in
set_option maxRecDepth 100000 in
theorem c_X5_alike_0s (E : zEnv) {ad : Nat → Nat} {nw sv : zS} {an : Bool} {hs : Nat → zS} {ct ln : Nat} {cd : Nat → Int32} {x w : Int32} {r2 : Nat} (hok : zOk nw) (hq : zfnd (zSz nw) x = none) (hr2 : r2 < 6) (hr20 : zSz nw r2 ≠ 0) : zRO E yX5_alike wsX5_alike 5 115 [.ref (ad 287), .int (x), .int (nI (r2)), .int (w)] (fun H => zCW E ad nw sv an hs ct ln cd H) (some (.int (-1))) := by
  refine zRO.ofI (maxL := 6) rfl (Nat.le_of_ble_eq_true rfl) (fun p e s m args below meth c H Q hF hP hret ls hl => ?_)
  have S : CallFix p m c cX5_alike 6 s args wsX5_alike RX5 := hF.1
  have hG := hF.2
  obtain ⟨hx, hb, hml, hown, hts⟩ := id S
  obtain ⟨π, tn, tt, nb, tf, hp, hX⟩ := hP
  obtain ⟨hA, hsv, hhs, t5, t8, t9, t10, t11⟩ := id hX
  obtain ⟨h0, h1, h2, h3, h4, h5, h6, h7, hR⟩ := id hA
  have hl : lv_has ls 6 [(0, .ref (ad 287)), (1, .int (x)), (2, .int (nI (r2))), (3, .int (w))] := hl
  have hin5 : ∀ w ∈ u_ws RX5 TX5 7, w ∈ wsX5_alike := by decide +kernel
  refine lv_aload_n hx hb dX5_alike_0 rfl (lv_at hl 0 rfl) ?_
  refine z_get (ref := RX5) (C := RX5) (T := TX5) (N := 7) hx hb hts hin5 hown hG t5 rfl 0 (by decide) (by decide +kernel) rfl rfl dX5_alike_1 ?_
  refine lv_iload_n hx hb dX5_alike_4 rfl (lv_at hl 1 rfl) ?_
  refine z_roVN (As := [.int (x)]) (rest := []) (host := "CharmBracelets") (q := (RX3, TX3, 5)) S hG (c_X3_find_0 E (ad := ad) (b := 0) (v := nw) hok.h16 hq) 1 gX5_alike_X3_find_n66 (List.mem_of_getElem? (i := 18) rfl) (by decide +kernel) rfl kX3_find.2 ⟨Nat.le_of_ble_eq_true rfl, Nat.le_of_ble_eq_true rfl⟩ ⟨Nat.zero_le _, Nat.zero_le _⟩ (hA) rfl h0 rfl hl.1 rfl rfl (Nat.le_of_ble_eq_true rfl) dX5_alike_5 ?_
  refine lv_astoreN (lv' := [(4, .null), (0, .ref (ad 287)), (1, .int (x)), (2, .int (nI (r2))), (3, .int (w))]) hx hb dX5_alike_8 hl (by decide) rfl (fun ls hl => ?_)
  refine lv_aload_n hx hb dX5_alike_10 rfl (lv_at hl 1 rfl) ?_
  refine z_get (ref := RX5) (C := RX5) (T := TX5) (N := 7) hx hb hts hin5 hown hG t5 rfl 0 (by decide) (by decide +kernel) rfl rfl dX5_alike_11 ?_
  refine lv_iload_n hx hb dX5_alike_14 rfl (lv_at hl 3 rfl) ?_
  refine z_roVN (As := [.int (nI (r2))]) (rest := []) (host := "CharmBracelets") (q := (RX3, TX3, 5)) S hG (c_X3_find_1 E (ad := ad) (b := 0) (v := nw) (i := r2) hr2 ⟨hr20, hok.h16 r2 hr2⟩) 1 gX5_alike_X3_find_n66 (List.mem_of_getElem? (i := 18) rfl) (by decide +kernel) rfl kX3_find.2 ⟨Nat.le_of_ble_eq_true rfl, Nat.le_of_ble_eq_true rfl⟩ ⟨Nat.zero_le _, Nat.zero_le _⟩ (hA) rfl h0 rfl hl.1 rfl rfl (Nat.le_of_ble_eq_true rfl) dX5_alike_15 ?_
  refine lv_astore (lv' := [(5, .ref (ad (0 + 9 + 2 * r2))), (4, .null), (0, .ref (ad 287)), (1, .int (x)), (2, .int (nI (r2))), (3, .int (w))]) hx hb dX5_alike_18 hl (by decide) rfl (fun ls hl => ?_)
  refine lv_aloadN hx hb dX5_alike_20 (lv_at hl 1 rfl) ?_
  refine lv_ifnullN (tgt := 30) hx hb dX5_alike_22 (by decide) ?_
  refine lv_iconst (v := (-1)) hx hb dX5_alike_30 (by decide) ?_
  exact hret _ _ _ dX5_alike_31 (rfl)

set_option maxHeartbeats 4000000 in
set_option maxRecDepth 100000 in
theorem c_X5_alike_1 (E : zEnv) {ad : Nat → Nat} {nw sv : zS} {an : Bool} {hs : Nat → zS} {ct ln : Nat} {cd : Nat → Int32} {r : Nat} {y w : Int32} (hok : zOk nw) (hr : r < 6) (hr0 : zSz nw r ≠ 0) (hqy : zfnd (zSz nw) y = none) : zRO E yX5_alike wsX5_alike 5 115 [.ref (ad 287), .int (nI (r)), .int (y), .int (w)] (fun H => zCW E ad nw sv an hs ct ln cd H) (some (.int (-1))) := by
  refine zRO.ofI (maxL := 6) rfl (Nat.le_of_ble_eq_true rfl) (fun p e s m args below meth c H Q hF hP hret ls hl => ?_)
  have S : CallFix p m c cX5_alike 6 s args wsX5_alike RX5 := hF.1
  have hG := hF.2
  obtain ⟨hx, hb, hml, hown, hts⟩ := id S
  obtain ⟨π, tn, tt, nb, tf, hp, hX⟩ := hP
  obtain ⟨hA, hsv, hhs, t5, t8, t9, t10, t11⟩ := id hX
  obtain ⟨h0, h1, h2, h3, h4, h5, h6, h7, hR⟩ := id hA
  have hl : lv_has ls 6 [(0, .ref (ad 287)), (1, .int (nI (r))), (2, .int (y)), (3, .int (w))] := hl
  have hin5 : ∀ w ∈ u_ws RX5 TX5 7, w ∈ wsX5_alike := by decide +kernel
  refine lv_aload_n hx hb dX5_alike_0 rfl (lv_at hl 0 rfl) ?_
  refine z_get (ref := RX5) (C := RX5) (T := TX5) (N := 7) hx hb hts hin5 hown hG t5 rfl 0 (by decide) (by decide +kernel) rfl rfl dX5_alike_1 ?_
  refine lv_iload_n hx hb dX5_alike_4 rfl (lv_at hl 1 rfl) ?_
  refine z_roVN (As := [.int (nI (r))]) (rest := []) (host := "CharmBracelets") (q := (RX3, TX3, 5)) S hG (c_X3_find_1 E (ad := ad) (b := 0) (v := nw) (i := r) hr ⟨hr0, hok.h16 r hr⟩) 1 gX5_alike_X3_find_n66 (List.mem_of_getElem? (i := 18) rfl) (by decide +kernel) rfl kX3_find.2 ⟨Nat.le_of_ble_eq_true rfl, Nat.le_of_ble_eq_true rfl⟩ ⟨Nat.zero_le _, Nat.zero_le _⟩ (hA) rfl h0 rfl hl.1 rfl rfl (Nat.le_of_ble_eq_true rfl) dX5_alike_5 ?_
  refine lv_astore (lv' := [(4, .ref (ad (0 + 9 + 2 * r))), (0, .ref (ad 287)), (1, .int (nI (r))), (2, .int (y)), (3, .int (w))]) hx hb dX5_alike_8 hl (by decide) rfl (fun ls hl => ?_)
  refine lv_aload_n hx hb dX5_alike_10 rfl (lv_at hl 1 rfl) ?_
  refine z_get (ref := RX5) (C := RX5) (T := TX5) (N := 7) hx hb hts hin5 hown hG t5 rfl 0 (by decide) (by decide +kernel) rfl rfl dX5_alike_11 ?_
  refine lv_iload_n hx hb dX5_alike_14 rfl (lv_at hl 3 rfl) ?_
  refine z_roVN (As := [.int (y)]) (rest := []) (host := "CharmBracelets") (q := (RX3, TX3, 5)) S hG (c_X3_find_0 E (ad := ad) (b := 0) (v := nw) hok.h16 hqy) 1 gX5_alike_X3_find_n66 (List.mem_of_getElem? (i := 18) rfl) (by decide +kernel) rfl kX3_find.2 ⟨Nat.le_of_ble_eq_true rfl, Nat.le_of_ble_eq_true rfl⟩ ⟨Nat.zero_le _, Nat.zero_le _⟩ (hA) rfl h0 rfl hl.1 rfl rfl (Nat.le_of_ble_eq_true rfl) dX5_alike_15 ?_
  refine lv_astoreN (lv' := [(5, .null), (4, .ref (ad (0 + 9 + 2 * r))), (0, .ref (ad 287)), (1, .int (nI (r))), (2, .int (y)), (3, .int (w))]) hx hb dX5_alike_18 hl (by decide) rfl (fun ls hl => ?_)
  refine lv_aload hx hb dX5_alike_20 (lv_at hl 1 rfl) ?_
  refine lv_ifnull hx hb dX5_alike_22 ?_
  refine lv_aloadN hx hb dX5_alike_25 (lv_at hl 0 rfl) ?_
  refine lv_ifnonnullN hx hb dX5_alike_27 ?_
  refine lv_iconst (v := (-1)) hx hb dX5_alike_30 (by decide) ?_
  exact hret _ _ _ dX5_alike_31 (rfl)

set_option maxHeartbeats 4000000 in
set_option maxRecDepth 100000 in
theorem c_X5_alike_2 (E : zEnv) {ad : Nat → Nat} {nw sv : zS} {an : Bool} {hs : Nat → zS} {ct ln : Nat} {cd : Nat → Int32} {r r2 : Nat} {w : Int32} (hok : zOk nw) (hr : r < 6) (hr0 : zSz nw r ≠ 0) (hr2 : r2 < 6) (hr20 : zSz nw r2 ≠ 0) (hw : zin w 0 2 = false) : zRO E yX5_alike wsX5_alike 5 115 [.ref (ad 287), .int (nI (r)), .int (nI (r2)), .int (w)] (fun H => zCW E ad nw sv an hs ct ln cd H) (some (.int (-2))) := by
  refine zRO.ofI (maxL := 6) rfl (Nat.le_of_ble_eq_true rfl) (fun p e s m args below meth c H Q hF hP hret ls hl => ?_)
  have S : CallFix p m c cX5_alike 6 s args wsX5_alike RX5 := hF.1
  have hG := hF.2
  obtain ⟨hx, hb, hml, hown, hts⟩ := id S
  obtain ⟨π, tn, tt, nb, tf, hp, hX⟩ := hP
  obtain ⟨hA, hsv, hhs, t5, t8, t9, t10, t11⟩ := id hX
  obtain ⟨h0, h1, h2, h3, h4, h5, h6, h7, hR⟩ := id hA
  have hl : lv_has ls 6 [(0, .ref (ad 287)), (1, .int (nI (r))), (2, .int (nI (r2))), (3, .int (w))] := hl
  have hin5 : ∀ w ∈ u_ws RX5 TX5 7, w ∈ wsX5_alike := by decide +kernel
  refine lv_aload_n hx hb dX5_alike_0 rfl (lv_at hl 0 rfl) ?_
  refine z_get (ref := RX5) (C := RX5) (T := TX5) (N := 7) hx hb hts hin5 hown hG t5 rfl 0 (by decide) (by decide +kernel) rfl rfl dX5_alike_1 ?_
  refine lv_iload_n hx hb dX5_alike_4 rfl (lv_at hl 1 rfl) ?_
  refine z_roVN (As := [.int (nI (r))]) (rest := []) (host := "CharmBracelets") (q := (RX3, TX3, 5)) S hG (c_X3_find_1 E (ad := ad) (b := 0) (v := nw) (i := r) hr ⟨hr0, hok.h16 r hr⟩) 1 gX5_alike_X3_find_n66 (List.mem_of_getElem? (i := 18) rfl) (by decide +kernel) rfl kX3_find.2 ⟨Nat.le_of_ble_eq_true rfl, Nat.le_of_ble_eq_true rfl⟩ ⟨Nat.zero_le _, Nat.zero_le _⟩ (hA) rfl h0 rfl hl.1 rfl rfl (Nat.le_of_ble_eq_true rfl) dX5_alike_5 ?_
  refine lv_astore (lv' := [(4, .ref (ad (0 + 9 + 2 * r))), (0, .ref (ad 287)), (1, .int (nI (r))), (2, .int (nI (r2))), (3, .int (w))]) hx hb dX5_alike_8 hl (by decide) rfl (fun ls hl => ?_)
  refine lv_aload_n hx hb dX5_alike_10 rfl (lv_at hl 1 rfl) ?_
  refine z_get (ref := RX5) (C := RX5) (T := TX5) (N := 7) hx hb hts hin5 hown hG t5 rfl 0 (by decide) (by decide +kernel) rfl rfl dX5_alike_11 ?_
  refine lv_iload_n hx hb dX5_alike_14 rfl (lv_at hl 3 rfl) ?_
  refine z_roVN (As := [.int (nI (r2))]) (rest := []) (host := "CharmBracelets") (q := (RX3, TX3, 5)) S hG (c_X3_find_1 E (ad := ad) (b := 0) (v := nw) (i := r2) hr2 ⟨hr20, hok.h16 r2 hr2⟩) 1 gX5_alike_X3_find_n66 (List.mem_of_getElem? (i := 18) rfl) (by decide +kernel) rfl kX3_find.2 ⟨Nat.le_of_ble_eq_true rfl, Nat.le_of_ble_eq_true rfl⟩ ⟨Nat.zero_le _, Nat.zero_le _⟩ (hA) rfl h0 rfl hl.1 rfl rfl (Nat.le_of_ble_eq_true rfl) dX5_alike_15 ?_
  refine lv_astore (lv' := [(5, .ref (ad (0 + 9 + 2 * r2))), (4, .ref (ad (0 + 9 + 2 * r))), (0, .ref (ad 287)), (1, .int (nI (r))), (2, .int (nI (r2))), (3, .int (w))]) hx hb dX5_alike_18 hl (by decide) rfl (fun ls hl => ?_)
  refine lv_aload hx hb dX5_alike_20 (lv_at hl 1 rfl) ?_
  refine lv_ifnull hx hb dX5_alike_22 ?_
  refine lv_aload hx hb dX5_alike_25 (lv_at hl 0 rfl) ?_
  refine lv_ifnonnull (tgt := 32) hx hb dX5_alike_27 (by decide) ?_
  refine lv_iload_n hx hb dX5_alike_32 rfl (lv_at hl 5 rfl) ?_
  refine z_roSX (As := [.int (w)]) (rest := []) S hG (c_X5_isLevel E) 1 gX5_alike_X5_isLevel rfl kX5_isLevel.2 ⟨Nat.le_of_ble_eq_true rfl, Nat.le_of_ble_eq_true rfl⟩ ⟨Nat.zero_le _, Nat.zero_le _⟩ (trivial) rfl hl.1 rfl rfl (Nat.le_of_ble_eq_true rfl) dX5_alike_33 ?_
  refine z_bne (tgt := 42) hx hb dX5_alike_36 (by decide) (fun c_1 => by exfalso; rw [hw] at c_1; cases c_1) (fun c_1 => ?_)
  refine lv_bipush (v := (-2)) hx hb dX5_alike_39 (by decide) ?_
  exact hret _ _ _ dX5_alike_41 (rfl)

set_option maxHeartbeats 4000000 in
set_option maxRecDepth 100000 in
theorem c_X5_alike_3 (E : zEnv) {ad : Nat → Nat} {nw sv : zS} {an : Bool} {hs : Nat → zS} {ct ln : Nat} {cd : Nat → Int32} {r r2 lv : Nat} (hok : zOk nw) (hr : r < 6) (hr0 : zSz nw r ≠ 0) (hr2 : r2 < 6) (hr20 : zSz nw r2 ≠ 0) (hlv : lv ≤ 2) : zRO E yX5_alike wsX5_alike 5 115 [.ref (ad 287), .int (nI (r)), .int (nI (r2)), .int (nI (lv))] (fun H => zCW E ad nw sv an hs ct ln cd H) (some (.int (zb (zal (zSz nw r) (zKd nw r) (zSz nw r2) (zKd nw r2) lv)))) := by
  refine zRO.ofI (maxL := 6) rfl (Nat.le_of_ble_eq_true rfl) (fun p e s m args below meth c H Q hF hP hret ls hl => ?_)
  have S : CallFix p m c cX5_alike 6 s args wsX5_alike RX5 := hF.1
  have hG := hF.2
  obtain ⟨hx, hb, hml, hown, hts⟩ := id S
  obtain ⟨π, tn, tt, nb, tf, hp, hX⟩ := hP
  obtain ⟨hA, hsv, hhs, t5, t8, t9, t10, t11⟩ := id hX
  obtain ⟨h0, h1, h2, h3, h4, h5, h6, h7, hR⟩ := id hA
  have hn := hok.sz hr hr0
  have hn2 := hok.sz hr2 hr20
  have hl : lv_has ls 6 [(0, .ref (ad 287)), (1, .int (nI (r))), (2, .int (nI (r2))), (3, .int (nI (lv)))] := hl
  have hin5 : ∀ w ∈ u_ws RX5 TX5 7, w ∈ wsX5_alike := by decide +kernel
  refine lv_aload_n hx hb dX5_alike_0 rfl (lv_at hl 0 rfl) ?_
  refine z_get (ref := RX5) (C := RX5) (T := TX5) (N := 7) hx hb hts hin5 hown hG t5 rfl 0 (by decide) (by decide +kernel) rfl rfl dX5_alike_1 ?_
  refine lv_iload_n hx hb dX5_alike_4 rfl (lv_at hl 1 rfl) ?_
  refine z_roVN (As := [.int (nI (r))]) (rest := []) (host := "CharmBracelets") (q := (RX3, TX3, 5)) S hG (c_X3_find_1 E (ad := ad) (b := 0) (v := nw) (i := r) hr ⟨hr0, hok.h16 r hr⟩) 1 gX5_alike_X3_find_n66 (List.mem_of_getElem? (i := 18) rfl) (by decide +kernel) rfl kX3_find.2 ⟨Nat.le_of_ble_eq_true rfl, Nat.le_of_ble_eq_true rfl⟩ ⟨Nat.zero_le _, Nat.zero_le _⟩ (hA) rfl h0 rfl hl.1 rfl rfl (Nat.le_of_ble_eq_true rfl) dX5_alike_5 ?_
  refine lv_astore (lv' := [(4, .ref (ad (0 + 9 + 2 * r))), (0, .ref (ad 287)), (1, .int (nI (r))), (2, .int (nI (r2))), (3, .int (nI (lv)))]) hx hb dX5_alike_8 hl (by decide) rfl (fun ls hl => ?_)
  refine lv_aload_n hx hb dX5_alike_10 rfl (lv_at hl 1 rfl) ?_
  refine z_get (ref := RX5) (C := RX5) (T := TX5) (N := 7) hx hb hts hin5 hown hG t5 rfl 0 (by decide) (by decide +kernel) rfl rfl dX5_alike_11 ?_
  refine lv_iload_n hx hb dX5_alike_14 rfl (lv_at hl 3 rfl) ?_
  refine z_roVN (As := [.int (nI (r2))]) (rest := []) (host := "CharmBracelets") (q := (RX3, TX3, 5)) S hG (c_X3_find_1 E (ad := ad) (b := 0) (v := nw) (i := r2) hr2 ⟨hr20, hok.h16 r2 hr2⟩) 1 gX5_alike_X3_find_n66 (List.mem_of_getElem? (i := 18) rfl) (by decide +kernel) rfl kX3_find.2 ⟨Nat.le_of_ble_eq_true rfl, Nat.le_of_ble_eq_true rfl⟩ ⟨Nat.zero_le _, Nat.zero_le _⟩ (hA) rfl h0 rfl hl.1 rfl rfl (Nat.le_of_ble_eq_true rfl) dX5_alike_15 ?_
  refine lv_astore (lv' := [(5, .ref (ad (0 + 9 + 2 * r2))), (4, .ref (ad (0 + 9 + 2 * r))), (0, .ref (ad 287)), (1, .int (nI (r))), (2, .int (nI (r2))), (3, .int (nI (lv)))]) hx hb dX5_alike_18 hl (by decide) rfl (fun ls hl => ?_)
  refine lv_aload hx hb dX5_alike_20 (lv_at hl 1 rfl) ?_
  refine lv_ifnull hx hb dX5_alike_22 ?_
  refine lv_aload hx hb dX5_alike_25 (lv_at hl 0 rfl) ?_
  refine lv_ifnonnull (tgt := 32) hx hb dX5_alike_27 (by decide) ?_
  refine lv_iload_n hx hb dX5_alike_32 rfl (lv_at hl 5 rfl) ?_
  refine z_roSX (As := [.int (nI (lv))]) (rest := []) S hG (c_X5_isLevel E) 1 gX5_alike_X5_isLevel rfl kX5_isLevel.2 ⟨Nat.le_of_ble_eq_true rfl, Nat.le_of_ble_eq_true rfl⟩ ⟨Nat.zero_le _, Nat.zero_le _⟩ (trivial) rfl hl.1 rfl rfl (Nat.le_of_ble_eq_true rfl) dX5_alike_33 ?_
  refine z_bne (tgt := 42) hx hb dX5_alike_36 (by decide) (fun c_1 => ?_) (fun c_1 => by exfalso; rw [zin_y (by omega) hlv (by decide)] at c_1; cases c_1)
  refine lv_aload hx hb dX5_alike_42 (lv_at hl 1 rfl) ?_
  refine lv_aload hx hb dX5_alike_44 (lv_at hl 0 rfl) ?_
  refine lv_iload_n hx hb dX5_alike_46 rfl (lv_at hl 5 rfl) ?_
  refine z_roVN (As := [.ref (ad (0 + 9 + 2 * r2)), .int (nI (lv))]) (rest := []) (host := "CharmBracelets") (q := (RX2, TX2, 2)) S hG (c_X2_isAlike E (n := (zSz nw r)) (f := (zKd nw r)) (m2 := (zSz nw r2)) (g := (zKd nw r2)) hn hn2.2 hlv) 2 gX5_alike_X2_isAlike_n123 (List.mem_of_getElem? (i := 52) rfl) (by decide +kernel) rfl kX2_isAlike.2 ⟨Nat.le_of_ble_eq_true rfl, Nat.le_of_ble_eq_true rfl⟩ ⟨Nat.zero_le _, Nat.zero_le _⟩ (⟨hR r (by omega), hR r2 (by omega)⟩) rfl (hR r (by omega)).1 rfl hl.1 rfl rfl (Nat.le_of_ble_eq_true rfl) dX5_alike_47 ?_
  refine z_top (y := zb (zal (zSz nw r) (zKd nw r) (zSz nw r2) (zKd nw r2) lv)) (by rw [zan_md hn.1]; rfl) ?_
  refine z_beq (tgt := 57) hx hb dX5_alike_50 (by decide) (fun c_2 => ?_) (fun c_2 => ?_)
  · refine lv_iconst (v := nI (0)) hx hb dX5_alike_57 (by decide) ?_
    exact hret _ _ _ dX5_alike_58 (zrf c_2)
  · refine lv_iconst (v := nI (1)) hx hb dX5_alike_53 (by decide) ?_
    refine lv_goto (tgt := 58) hx hb dX5_alike_54 (by decide) ?_
    exact hret _ _ _ dX5_alike_58 (zrt c_2)

set_option maxHeartbeats 4000000 in
set_option maxRecDepth 100000 in
theorem c_X5_least_0 (E : zEnv) {ad : Nat → Nat} {nw sv : zS} {an : Bool} {hs : Nat → zS} {ct ln : Nat} {cd : Nat → Int32} {x y w : Int32} (hok : zOk nw) (hq : zfnd (zSz nw) x = none) : zRO E yX5_least wsX5_least 4 94 [.ref (ad 287), .int (x), .int (w), .int (y)] (fun H => zCW E ad nw sv an hs ct ln cd H) (some (.int (-1))) := by
  refine zRO.ofI (maxL := 5) rfl (Nat.le_of_ble_eq_true rfl) (fun p e s m args below meth c H Q hF hP hret ls hl => ?_)
  have S : CallFix p m c cX5_least 5 s args wsX5_least RX5 := hF.1
  have hG := hF.2
  obtain ⟨hx, hb, hml, hown, hts⟩ := id S
  obtain ⟨π, tn, tt, nb, tf, hp, hX⟩ := hP
  obtain ⟨hA, hsv, hhs, t5, t8, t9, t10, t11⟩ := id hX
  obtain ⟨h0, h1, h2, h3, h4, h5, h6, h7, hR⟩ := id hA
  have hl : lv_has ls 5 [(0, .ref (ad 287)), (1, .int (x)), (2, .int (w)), (3, .int (y))] := hl
  have hin5 : ∀ w ∈ u_ws RX5 TX5 7, w ∈ wsX5_least := by decide +kernel
  refine lv_aload_n hx hb dX5_least_0 rfl (lv_at hl 0 rfl) ?_
  refine z_get (ref := RX5) (C := RX5) (T := TX5) (N := 7) hx hb hts hin5 hown hG t5 rfl 0 (by decide) (by decide +kernel) rfl rfl dX5_least_1 ?_
  refine lv_iload_n hx hb dX5_least_4 rfl (lv_at hl 1 rfl) ?_
  refine z_roVN (As := [.int (x)]) (rest := []) (host := "CharmBracelets") (q := (RX3, TX3, 5)) S hG (c_X3_find_0 E (ad := ad) (b := 0) (v := nw) hok.h16 hq) 1 gX5_least_X3_find_n66 (List.mem_of_getElem? (i := 18) rfl) (by decide +kernel) rfl kX3_find.2 ⟨Nat.le_of_ble_eq_true rfl, Nat.le_of_ble_eq_true rfl⟩ ⟨Nat.zero_le _, Nat.zero_le _⟩ (hA) rfl h0 rfl hl.1 rfl rfl (Nat.le_of_ble_eq_true rfl) dX5_least_5 ?_
  refine lv_astoreN (lv' := [(4, .null), (0, .ref (ad 287)), (1, .int (x)), (2, .int (w)), (3, .int (y))]) hx hb dX5_least_8 hl (by decide) rfl (fun ls hl => ?_)
  refine lv_aloadN hx hb dX5_least_10 (lv_at hl 0 rfl) ?_
  refine lv_ifnullN (tgt := 24) hx hb dX5_least_12 (by decide) ?_
  refine lv_iconst (v := (-1)) hx hb dX5_least_24 (by decide) ?_
  exact hret _ _ _ dX5_least_25 (rfl)

set_option maxHeartbeats 4000000 in
set_option maxRecDepth 100000 in
theorem c_X5_least_1 (E : zEnv) {ad : Nat → Nat} {nw sv : zS} {an : Bool} {hs : Nat → zS} {ct ln : Nat} {cd : Nat → Int32} {r : Nat} {y w : Int32} (hok : zOk nw) (hr : r < 6) (hr0 : zSz nw r ≠ 0) (hy : zin y 0 ((zSz nw r) - 1) = false) : zRO E yX5_least wsX5_least 4 94 [.ref (ad 287), .int (nI (r)), .int (w), .int (y)] (fun H => zCW E ad nw sv an hs ct ln cd H) (some (.int (-1))) := by
  refine zRO.ofI (maxL := 5) rfl (Nat.le_of_ble_eq_true rfl) (fun p e s m args below meth c H Q hF hP hret ls hl => ?_)
  have S : CallFix p m c cX5_least 5 s args wsX5_least RX5 := hF.1
  have hG := hF.2
  obtain ⟨hx, hb, hml, hown, hts⟩ := id S
  obtain ⟨π, tn, tt, nb, tf, hp, hX⟩ := hP
  obtain ⟨hA, hsv, hhs, t5, t8, t9, t10, t11⟩ := id hX
  obtain ⟨h0, h1, h2, h3, h4, h5, h6, h7, hR⟩ := id hA
  have hn := hok.sz hr hr0
  have hl : lv_has ls 5 [(0, .ref (ad 287)), (1, .int (nI (r))), (2, .int (w)), (3, .int (y))] := hl
  have hin5 : ∀ w ∈ u_ws RX5 TX5 7, w ∈ wsX5_least := by decide +kernel
  refine lv_aload_n hx hb dX5_least_0 rfl (lv_at hl 0 rfl) ?_
  refine z_get (ref := RX5) (C := RX5) (T := TX5) (N := 7) hx hb hts hin5 hown hG t5 rfl 0 (by decide) (by decide +kernel) rfl rfl dX5_least_1 ?_
  refine lv_iload_n hx hb dX5_least_4 rfl (lv_at hl 1 rfl) ?_
  refine z_roVN (As := [.int (nI (r))]) (rest := []) (host := "CharmBracelets") (q := (RX3, TX3, 5)) S hG (c_X3_find_1 E (ad := ad) (b := 0) (v := nw) (i := r) hr ⟨hr0, hok.h16 r hr⟩) 1 gX5_least_X3_find_n66 (List.mem_of_getElem? (i := 18) rfl) (by decide +kernel) rfl kX3_find.2 ⟨Nat.le_of_ble_eq_true rfl, Nat.le_of_ble_eq_true rfl⟩ ⟨Nat.zero_le _, Nat.zero_le _⟩ (hA) rfl h0 rfl hl.1 rfl rfl (Nat.le_of_ble_eq_true rfl) dX5_least_5 ?_
  refine lv_astore (lv' := [(4, .ref (ad (0 + 9 + 2 * r))), (0, .ref (ad 287)), (1, .int (nI (r))), (2, .int (w)), (3, .int (y))]) hx hb dX5_least_8 hl (by decide) rfl (fun ls hl => ?_)
  refine lv_aload hx hb dX5_least_10 (lv_at hl 0 rfl) ?_
  refine lv_ifnull hx hb dX5_least_12 ?_
  refine lv_aload hx hb dX5_least_15 (lv_at hl 0 rfl) ?_
  refine lv_iload_n hx hb dX5_least_17 rfl (lv_at hl 4 rfl) ?_
  refine z_roVN (As := [.int (y)]) (rest := []) (host := "CharmBracelets") (q := (RX2, TX2, 2)) S hG (c_X2_hasSlot E (n := (zSz nw r)) (f := (zKd nw r)) (x := y) hn) 1 gX5_least_X2_hasSlot_n82 (List.mem_of_getElem? (i := 23) rfl) (by decide +kernel) rfl kX2_hasSlot.2 ⟨Nat.le_of_ble_eq_true rfl, Nat.le_of_ble_eq_true rfl⟩ ⟨Nat.zero_le _, Nat.zero_le _⟩ (hR r (by omega)) rfl (hR r (by omega)).1 rfl hl.1 rfl rfl (Nat.le_of_ble_eq_true rfl) dX5_least_18 ?_
  refine z_bne (tgt := 26) hx hb dX5_least_21 (by decide) (fun c_1 => by exfalso; rw [hy] at c_1; cases c_1) (fun c_1 => ?_)
  refine lv_iconst (v := (-1)) hx hb dX5_least_24 (by decide) ?_
  exact hret _ _ _ dX5_least_25 (rfl)

set_option maxHeartbeats 4000000 in
set_option maxRecDepth 100000 in
theorem c_X5_least_2 (E : zEnv) {ad : Nat → Nat} {nw sv : zS} {an : Bool} {hs : Nat → zS} {ct ln : Nat} {cd : Nat → Int32} {r j : Nat} {w : Int32} (hok : zOk nw) (hr : r < 6) (hr0 : zSz nw r ≠ 0) (hj : j < (zSz nw r)) (hw : zin w 0 2 = false) : zRO E yX5_least wsX5_least 4 94 [.ref (ad 287), .int (nI (r)), .int (w), .int (nI (j))] (fun H => zCW E ad nw sv an hs ct ln cd H) (some (.int (-2))) := by
  refine zRO.ofI (maxL := 5) rfl (Nat.le_of_ble_eq_true rfl) (fun p e s m args below meth c H Q hF hP hret ls hl => ?_)
  have S : CallFix p m c cX5_least 5 s args wsX5_least RX5 := hF.1
  have hG := hF.2
  obtain ⟨hx, hb, hml, hown, hts⟩ := id S
  obtain ⟨π, tn, tt, nb, tf, hp, hX⟩ := hP
  obtain ⟨hA, hsv, hhs, t5, t8, t9, t10, t11⟩ := id hX
  obtain ⟨h0, h1, h2, h3, h4, h5, h6, h7, hR⟩ := id hA
  have hn := hok.sz hr hr0
  have hl : lv_has ls 5 [(0, .ref (ad 287)), (1, .int (nI (r))), (2, .int (w)), (3, .int (nI (j)))] := hl
  have hin5 : ∀ w ∈ u_ws RX5 TX5 7, w ∈ wsX5_least := by decide +kernel
  refine lv_aload_n hx hb dX5_least_0 rfl (lv_at hl 0 rfl) ?_
  refine z_get (ref := RX5) (C := RX5) (T := TX5) (N := 7) hx hb hts hin5 hown hG t5 rfl 0 (by decide) (by decide +kernel) rfl rfl dX5_least_1 ?_
  refine lv_iload_n hx hb dX5_least_4 rfl (lv_at hl 1 rfl) ?_
  refine z_roVN (As := [.int (nI (r))]) (rest := []) (host := "CharmBracelets") (q := (RX3, TX3, 5)) S hG (c_X3_find_1 E (ad := ad) (b := 0) (v := nw) (i := r) hr ⟨hr0, hok.h16 r hr⟩) 1 gX5_least_X3_find_n66 (List.mem_of_getElem? (i := 18) rfl) (by decide +kernel) rfl kX3_find.2 ⟨Nat.le_of_ble_eq_true rfl, Nat.le_of_ble_eq_true rfl⟩ ⟨Nat.zero_le _, Nat.zero_le _⟩ (hA) rfl h0 rfl hl.1 rfl rfl (Nat.le_of_ble_eq_true rfl) dX5_least_5 ?_
  refine lv_astore (lv' := [(4, .ref (ad (0 + 9 + 2 * r))), (0, .ref (ad 287)), (1, .int (nI (r))), (2, .int (w)), (3, .int (nI (j)))]) hx hb dX5_least_8 hl (by decide) rfl (fun ls hl => ?_)
  refine lv_aload hx hb dX5_least_10 (lv_at hl 0 rfl) ?_
  refine lv_ifnull hx hb dX5_least_12 ?_
  refine lv_aload hx hb dX5_least_15 (lv_at hl 0 rfl) ?_
  refine lv_iload_n hx hb dX5_least_17 rfl (lv_at hl 4 rfl) ?_
  refine z_roVN (As := [.int (nI (j))]) (rest := []) (host := "CharmBracelets") (q := (RX2, TX2, 2)) S hG (c_X2_hasSlot E (n := (zSz nw r)) (f := (zKd nw r)) (x := (nI j)) hn) 1 gX5_least_X2_hasSlot_n82 (List.mem_of_getElem? (i := 23) rfl) (by decide +kernel) rfl kX2_hasSlot.2 ⟨Nat.le_of_ble_eq_true rfl, Nat.le_of_ble_eq_true rfl⟩ ⟨Nat.zero_le _, Nat.zero_le _⟩ (hR r (by omega)) rfl (hR r (by omega)).1 rfl hl.1 rfl rfl (Nat.le_of_ble_eq_true rfl) dX5_least_18 ?_
  refine z_bne (tgt := 26) hx hb dX5_least_21 (by decide) (fun c_1 => ?_) (fun c_1 => by exfalso; rw [zin_y (by omega) (by omega) (by omega)] at c_1; cases c_1)
  refine lv_iload_n hx hb dX5_least_26 rfl (lv_at hl 3 rfl) ?_
  refine z_roSX (As := [.int (w)]) (rest := []) S hG (c_X5_isLevel E) 1 gX5_least_X5_isLevel rfl kX5_isLevel.2 ⟨Nat.le_of_ble_eq_true rfl, Nat.le_of_ble_eq_true rfl⟩ ⟨Nat.zero_le _, Nat.zero_le _⟩ (trivial) rfl hl.1 rfl rfl (Nat.le_of_ble_eq_true rfl) dX5_least_27 ?_
  refine z_bne (tgt := 36) hx hb dX5_least_30 (by decide) (fun c_2 => by exfalso; rw [hw] at c_2; cases c_2) (fun c_2 => ?_)
  refine lv_bipush (v := (-2)) hx hb dX5_least_33 (by decide) ?_
  exact hret _ _ _ dX5_least_35 (rfl)

set_option maxHeartbeats 4000000 in
set_option maxRecDepth 100000 in
theorem c_X5_least_3 (E : zEnv) {ad : Nat → Nat} {nw sv : zS} {an : Bool} {hs : Nat → zS} {ct ln : Nat} {cd : Nat → Int32} {r j lv : Nat} (hok : zOk nw) (hr : r < 6) (hr0 : zSz nw r ≠ 0) (hj : j < (zSz nw r)) (hlv : lv ≤ 2) : zRO E yX5_least wsX5_least 4 94 [.ref (ad 287), .int (nI (r)), .int (nI (lv)), .int (nI (j))] (fun H => zCW E ad nw sv an hs ct ln cd H) (some (.int (zimg (zSz nw r) (zKd nw r) (zls (zSz nw r) (zKd nw r) lv) j))) := by
  refine zRO.ofI (maxL := 5) rfl (Nat.le_of_ble_eq_true rfl) (fun p e s m args below meth c H Q hF hP hret ls hl => ?_)
  have S : CallFix p m c cX5_least 5 s args wsX5_least RX5 := hF.1
  have hG := hF.2
  obtain ⟨hx, hb, hml, hown, hts⟩ := id S
  obtain ⟨π, tn, tt, nb, tf, hp, hX⟩ := hP
  obtain ⟨hA, hsv, hhs, t5, t8, t9, t10, t11⟩ := id hX
  obtain ⟨h0, h1, h2, h3, h4, h5, h6, h7, hR⟩ := id hA
  have hn := hok.sz hr hr0
  have hl : lv_has ls 5 [(0, .ref (ad 287)), (1, .int (nI (r))), (2, .int (nI (lv))), (3, .int (nI (j)))] := hl
  have hin5 : ∀ w ∈ u_ws RX5 TX5 7, w ∈ wsX5_least := by decide +kernel
  refine lv_aload_n hx hb dX5_least_0 rfl (lv_at hl 0 rfl) ?_
  refine z_get (ref := RX5) (C := RX5) (T := TX5) (N := 7) hx hb hts hin5 hown hG t5 rfl 0 (by decide) (by decide +kernel) rfl rfl dX5_least_1 ?_
  refine lv_iload_n hx hb dX5_least_4 rfl (lv_at hl 1 rfl) ?_
  refine z_roVN (As := [.int (nI (r))]) (rest := []) (host := "CharmBracelets") (q := (RX3, TX3, 5)) S hG (c_X3_find_1 E (ad := ad) (b := 0) (v := nw) (i := r) hr ⟨hr0, hok.h16 r hr⟩) 1 gX5_least_X3_find_n66 (List.mem_of_getElem? (i := 18) rfl) (by decide +kernel) rfl kX3_find.2 ⟨Nat.le_of_ble_eq_true rfl, Nat.le_of_ble_eq_true rfl⟩ ⟨Nat.zero_le _, Nat.zero_le _⟩ (hA) rfl h0 rfl hl.1 rfl rfl (Nat.le_of_ble_eq_true rfl) dX5_least_5 ?_
  refine lv_astore (lv' := [(4, .ref (ad (0 + 9 + 2 * r))), (0, .ref (ad 287)), (1, .int (nI (r))), (2, .int (nI (lv))), (3, .int (nI (j)))]) hx hb dX5_least_8 hl (by decide) rfl (fun ls hl => ?_)
  refine lv_aload hx hb dX5_least_10 (lv_at hl 0 rfl) ?_
  refine lv_ifnull hx hb dX5_least_12 ?_
  refine lv_aload hx hb dX5_least_15 (lv_at hl 0 rfl) ?_
  refine lv_iload_n hx hb dX5_least_17 rfl (lv_at hl 4 rfl) ?_
  refine z_roVN (As := [.int (nI (j))]) (rest := []) (host := "CharmBracelets") (q := (RX2, TX2, 2)) S hG (c_X2_hasSlot E (n := (zSz nw r)) (f := (zKd nw r)) (x := (nI j)) hn) 1 gX5_least_X2_hasSlot_n82 (List.mem_of_getElem? (i := 23) rfl) (by decide +kernel) rfl kX2_hasSlot.2 ⟨Nat.le_of_ble_eq_true rfl, Nat.le_of_ble_eq_true rfl⟩ ⟨Nat.zero_le _, Nat.zero_le _⟩ (hR r (by omega)) rfl (hR r (by omega)).1 rfl hl.1 rfl rfl (Nat.le_of_ble_eq_true rfl) dX5_least_18 ?_
  refine z_bne (tgt := 26) hx hb dX5_least_21 (by decide) (fun c_1 => ?_) (fun c_1 => by exfalso; rw [zin_y (by omega) (by omega) (by omega)] at c_1; cases c_1)
  refine lv_iload_n hx hb dX5_least_26 rfl (lv_at hl 3 rfl) ?_
  refine z_roSX (As := [.int (nI (lv))]) (rest := []) S hG (c_X5_isLevel E) 1 gX5_least_X5_isLevel rfl kX5_isLevel.2 ⟨Nat.le_of_ble_eq_true rfl, Nat.le_of_ble_eq_true rfl⟩ ⟨Nat.zero_le _, Nat.zero_le _⟩ (trivial) rfl hl.1 rfl rfl (Nat.le_of_ble_eq_true rfl) dX5_least_27 ?_
  refine z_bne (tgt := 36) hx hb dX5_least_30 (by decide) (fun c_2 => ?_) (fun c_2 => by exfalso; rw [zin_y (by omega) hlv (by decide)] at c_2; cases c_2)
  refine lv_aload hx hb dX5_least_36 (lv_at hl 0 rfl) ?_
  refine lv_aload hx hb dX5_least_38 (lv_at hl 0 rfl) ?_
  refine lv_iload_n hx hb dX5_least_40 rfl (lv_at hl 3 rfl) ?_
  refine z_roVN (As := [.int (nI (lv))]) (rest := [.ref (ad (0 + 9 + 2 * r))]) (host := "CharmBracelets") (q := (RX2, TX2, 2)) S hG (c_X2_leastChange E (n := (zSz nw r)) (f := (zKd nw r)) hn hlv) 1 gX5_least_X2_leastChange_n127 (List.mem_of_getElem? (i := 32) rfl) (by decide +kernel) rfl kX2_leastChange.2 ⟨Nat.le_of_ble_eq_true rfl, Nat.le_of_ble_eq_true rfl⟩ ⟨Nat.zero_le _, Nat.zero_le _⟩ (hR r (by omega)) rfl (hR r (by omega)).1 rfl hl.1 rfl rfl (Nat.le_of_ble_eq_true rfl) dX5_least_41 ?_
  refine lv_iload_n hx hb dX5_least_44 rfl (lv_at hl 4 rfl) ?_
  refine z_roVN (As := [.int (nI (zls (zSz nw r) (zKd nw r) lv)), .int (nI (j))]) (rest := []) (host := "CharmBracelets") (q := (RX2, TX2, 2)) S hG (c_X2_kindAfter E (n := (zSz nw r)) (f := (zKd nw r)) (ch := zls (zSz nw r) (zKd nw r) lv) (j := j) ⟨hj, zls_lt hn.1 hlv, hn.2⟩) 2 gX5_least_X2_kindAfter_n130 (List.mem_of_getElem? (i := 31) rfl) (by decide +kernel) rfl kX2_kindAfter.2 ⟨Nat.le_of_ble_eq_true rfl, Nat.le_of_ble_eq_true rfl⟩ ⟨Nat.zero_le _, Nat.zero_le _⟩ (hR r (by omega)) rfl (hR r (by omega)).1 rfl hl.1 rfl rfl (Nat.le_of_ble_eq_true rfl) dX5_least_45 ?_
  exact hret _ _ _ dX5_least_48 (rfl)

set_option maxHeartbeats 4000000 in
set_option maxRecDepth 100000 in
theorem c_X5_orbit_0 (E : zEnv) {ad : Nat → Nat} {nw sv : zS} {an : Bool} {hs : Nat → zS} {ct ln : Nat} {cd : Nat → Int32} {x w : Int32} (hok : zOk nw) (hq : zfnd (zSz nw) x = none) : zRO E yX5_orbit wsX5_orbit 4 92 [.ref (ad 287), .int (x), .int (w)] (fun H => zCW E ad nw sv an hs ct ln cd H) (some (.int (-1))) := by
  refine zRO.ofI (maxL := 4) rfl (Nat.le_of_ble_eq_true rfl) (fun p e s m args below meth c H Q hF hP hret ls hl => ?_)
  have S : CallFix p m c cX5_orbit 4 s args wsX5_orbit RX5 := hF.1
  have hG := hF.2
  obtain ⟨hx, hb, hml, hown, hts⟩ := id S
  obtain ⟨π, tn, tt, nb, tf, hp, hX⟩ := hP
  obtain ⟨hA, hsv, hhs, t5, t8, t9, t10, t11⟩ := id hX
  obtain ⟨h0, h1, h2, h3, h4, h5, h6, h7, hR⟩ := id hA
  have hl : lv_has ls 4 [(0, .ref (ad 287)), (1, .int (x)), (2, .int (w))] := hl
  have hin5 : ∀ w ∈ u_ws RX5 TX5 7, w ∈ wsX5_orbit := by decide +kernel
  refine lv_aload_n hx hb dX5_orbit_0 rfl (lv_at hl 0 rfl) ?_
  refine z_get (ref := RX5) (C := RX5) (T := TX5) (N := 7) hx hb hts hin5 hown hG t5 rfl 0 (by decide) (by decide +kernel) rfl rfl dX5_orbit_1 ?_
  refine lv_iload_n hx hb dX5_orbit_4 rfl (lv_at hl 1 rfl) ?_
  refine z_roVN (As := [.int (x)]) (rest := []) (host := "CharmBracelets") (q := (RX3, TX3, 5)) S hG (c_X3_find_0 E (ad := ad) (b := 0) (v := nw) hok.h16 hq) 1 gX5_orbit_X3_find_n66 (List.mem_of_getElem? (i := 18) rfl) (by decide +kernel) rfl kX3_find.2 ⟨Nat.le_of_ble_eq_true rfl, Nat.le_of_ble_eq_true rfl⟩ ⟨Nat.zero_le _, Nat.zero_le _⟩ (hA) rfl h0 rfl hl.1 rfl rfl (Nat.le_of_ble_eq_true rfl) dX5_orbit_5 ?_
  refine lv_astore_nN (lv' := [(3, .null), (0, .ref (ad 287)), (1, .int (x)), (2, .int (w))]) hx hb dX5_orbit_8 rfl hl (by decide) rfl (fun ls hl => ?_)
  refine lv_aload_nN hx hb dX5_orbit_9 rfl (lv_at hl 0 rfl) ?_
  refine lv_ifnonnullN hx hb dX5_orbit_10 ?_
  refine lv_iconst (v := (-1)) hx hb dX5_orbit_13 (by decide) ?_
  exact hret _ _ _ dX5_orbit_14 (rfl)

set_option maxHeartbeats 4000000 in
set_option maxRecDepth 100000 in
theorem c_X5_orbit_1 (E : zEnv) {ad : Nat → Nat} {nw sv : zS} {an : Bool} {hs : Nat → zS} {ct ln : Nat} {cd : Nat → Int32} {r : Nat} {w : Int32} (hok : zOk nw) (hr : r < 6) (hr0 : zSz nw r ≠ 0) (hw : zin w 0 2 = false) : zRO E yX5_orbit wsX5_orbit 4 92 [.ref (ad 287), .int (nI (r)), .int (w)] (fun H => zCW E ad nw sv an hs ct ln cd H) (some (.int (-2))) := by
  refine zRO.ofI (maxL := 4) rfl (Nat.le_of_ble_eq_true rfl) (fun p e s m args below meth c H Q hF hP hret ls hl => ?_)
  have S : CallFix p m c cX5_orbit 4 s args wsX5_orbit RX5 := hF.1
  have hG := hF.2
  obtain ⟨hx, hb, hml, hown, hts⟩ := id S
  obtain ⟨π, tn, tt, nb, tf, hp, hX⟩ := hP
  obtain ⟨hA, hsv, hhs, t5, t8, t9, t10, t11⟩ := id hX
  obtain ⟨h0, h1, h2, h3, h4, h5, h6, h7, hR⟩ := id hA
  have hl : lv_has ls 4 [(0, .ref (ad 287)), (1, .int (nI (r))), (2, .int (w))] := hl
  have hin5 : ∀ w ∈ u_ws RX5 TX5 7, w ∈ wsX5_orbit := by decide +kernel
  refine lv_aload_n hx hb dX5_orbit_0 rfl (lv_at hl 0 rfl) ?_
  refine z_get (ref := RX5) (C := RX5) (T := TX5) (N := 7) hx hb hts hin5 hown hG t5 rfl 0 (by decide) (by decide +kernel) rfl rfl dX5_orbit_1 ?_
  refine lv_iload_n hx hb dX5_orbit_4 rfl (lv_at hl 1 rfl) ?_
  refine z_roVN (As := [.int (nI (r))]) (rest := []) (host := "CharmBracelets") (q := (RX3, TX3, 5)) S hG (c_X3_find_1 E (ad := ad) (b := 0) (v := nw) (i := r) hr ⟨hr0, hok.h16 r hr⟩) 1 gX5_orbit_X3_find_n66 (List.mem_of_getElem? (i := 18) rfl) (by decide +kernel) rfl kX3_find.2 ⟨Nat.le_of_ble_eq_true rfl, Nat.le_of_ble_eq_true rfl⟩ ⟨Nat.zero_le _, Nat.zero_le _⟩ (hA) rfl h0 rfl hl.1 rfl rfl (Nat.le_of_ble_eq_true rfl) dX5_orbit_5 ?_
  refine lv_astore_n (lv' := [(3, .ref (ad (0 + 9 + 2 * r))), (0, .ref (ad 287)), (1, .int (nI (r))), (2, .int (w))]) hx hb dX5_orbit_8 rfl hl (by decide) rfl (fun ls hl => ?_)
  refine lv_aload_n hx hb dX5_orbit_9 rfl (lv_at hl 0 rfl) ?_
  refine lv_ifnonnull (tgt := 15) hx hb dX5_orbit_10 (by decide) ?_
  refine lv_iload_n hx hb dX5_orbit_15 rfl (lv_at hl 3 rfl) ?_
  refine z_roSX (As := [.int (w)]) (rest := []) S hG (c_X5_isLevel E) 1 gX5_orbit_X5_isLevel rfl kX5_isLevel.2 ⟨Nat.le_of_ble_eq_true rfl, Nat.le_of_ble_eq_true rfl⟩ ⟨Nat.zero_le _, Nat.zero_le _⟩ (trivial) rfl hl.1 rfl rfl (Nat.le_of_ble_eq_true rfl) dX5_orbit_16 ?_
  refine z_bne (tgt := 25) hx hb dX5_orbit_19 (by decide) (fun c_1 => by exfalso; rw [hw] at c_1; cases c_1) (fun c_1 => ?_)
  refine lv_bipush (v := (-2)) hx hb dX5_orbit_22 (by decide) ?_
  exact hret _ _ _ dX5_orbit_24 (rfl)

set_option maxHeartbeats 4000000 in
set_option maxRecDepth 100000 in
theorem c_X5_orbit_2 (E : zEnv) {ad : Nat → Nat} {nw sv : zS} {an : Bool} {hs : Nat → zS} {ct ln : Nat} {cd : Nat → Int32} {r lv : Nat} (hok : zOk nw) (hr : r < 6) (hr0 : zSz nw r ≠ 0) (hlv : lv ≤ 2) : zRO E yX5_orbit wsX5_orbit 4 92 [.ref (ad 287), .int (nI (r)), .int (nI (lv))] (fun H => zCW E ad nw sv an hs ct ln cd H) (some (.int (nI (zob (zSz nw r) (zKd nw r) lv)))) := by
  refine zRO.ofI (maxL := 4) rfl (Nat.le_of_ble_eq_true rfl) (fun p e s m args below meth c H Q hF hP hret ls hl => ?_)
  have S : CallFix p m c cX5_orbit 4 s args wsX5_orbit RX5 := hF.1
  have hG := hF.2
  obtain ⟨hx, hb, hml, hown, hts⟩ := id S
  obtain ⟨π, tn, tt, nb, tf, hp, hX⟩ := hP
  obtain ⟨hA, hsv, hhs, t5, t8, t9, t10, t11⟩ := id hX
  obtain ⟨h0, h1, h2, h3, h4, h5, h6, h7, hR⟩ := id hA
  have hn := hok.sz hr hr0
  have hl : lv_has ls 4 [(0, .ref (ad 287)), (1, .int (nI (r))), (2, .int (nI (lv)))] := hl
  have hin5 : ∀ w ∈ u_ws RX5 TX5 7, w ∈ wsX5_orbit := by decide +kernel
  refine lv_aload_n hx hb dX5_orbit_0 rfl (lv_at hl 0 rfl) ?_
  refine z_get (ref := RX5) (C := RX5) (T := TX5) (N := 7) hx hb hts hin5 hown hG t5 rfl 0 (by decide) (by decide +kernel) rfl rfl dX5_orbit_1 ?_
  refine lv_iload_n hx hb dX5_orbit_4 rfl (lv_at hl 1 rfl) ?_
  refine z_roVN (As := [.int (nI (r))]) (rest := []) (host := "CharmBracelets") (q := (RX3, TX3, 5)) S hG (c_X3_find_1 E (ad := ad) (b := 0) (v := nw) (i := r) hr ⟨hr0, hok.h16 r hr⟩) 1 gX5_orbit_X3_find_n66 (List.mem_of_getElem? (i := 18) rfl) (by decide +kernel) rfl kX3_find.2 ⟨Nat.le_of_ble_eq_true rfl, Nat.le_of_ble_eq_true rfl⟩ ⟨Nat.zero_le _, Nat.zero_le _⟩ (hA) rfl h0 rfl hl.1 rfl rfl (Nat.le_of_ble_eq_true rfl) dX5_orbit_5 ?_
  refine lv_astore_n (lv' := [(3, .ref (ad (0 + 9 + 2 * r))), (0, .ref (ad 287)), (1, .int (nI (r))), (2, .int (nI (lv)))]) hx hb dX5_orbit_8 rfl hl (by decide) rfl (fun ls hl => ?_)
  refine lv_aload_n hx hb dX5_orbit_9 rfl (lv_at hl 0 rfl) ?_
  refine lv_ifnonnull (tgt := 15) hx hb dX5_orbit_10 (by decide) ?_
  refine lv_iload_n hx hb dX5_orbit_15 rfl (lv_at hl 3 rfl) ?_
  refine z_roSX (As := [.int (nI (lv))]) (rest := []) S hG (c_X5_isLevel E) 1 gX5_orbit_X5_isLevel rfl kX5_isLevel.2 ⟨Nat.le_of_ble_eq_true rfl, Nat.le_of_ble_eq_true rfl⟩ ⟨Nat.zero_le _, Nat.zero_le _⟩ (trivial) rfl hl.1 rfl rfl (Nat.le_of_ble_eq_true rfl) dX5_orbit_16 ?_
  refine z_bne (tgt := 25) hx hb dX5_orbit_19 (by decide) (fun c_1 => ?_) (fun c_1 => by exfalso; rw [zin_y (by omega) hlv (by decide)] at c_1; cases c_1)
  refine lv_aload_n hx hb dX5_orbit_25 rfl (lv_at hl 0 rfl) ?_
  refine lv_iload_n hx hb dX5_orbit_26 rfl (lv_at hl 3 rfl) ?_
  refine z_roVN (As := [.int (nI (lv))]) (rest := []) (host := "CharmBracelets") (q := (RX2, TX2, 2)) S hG (c_X2_differentRings E (n := (zSz nw r)) (f := (zKd nw r)) hn hlv) 1 gX5_orbit_X2_differentRings_n134 (List.mem_of_getElem? (i := 50) rfl) (by decide +kernel) rfl kX2_differentRings.2 ⟨Nat.le_of_ble_eq_true rfl, Nat.le_of_ble_eq_true rfl⟩ ⟨Nat.zero_le _, Nat.zero_le _⟩ (hR r (by omega)) rfl (hR r (by omega)).1 rfl hl.1 rfl rfl (Nat.le_of_ble_eq_true rfl) dX5_orbit_27 ?_
  exact hret _ _ _ dX5_orbit_30 (rfl)

set_option maxHeartbeats 4000000 in
set_option maxRecDepth 100000 in
theorem c_X5_fixed_0 (E : zEnv) {ad : Nat → Nat} {nw sv : zS} {an : Bool} {hs : Nat → zS} {ct ln : Nat} {cd : Nat → Int32} {x : Int32} (hok : zOk nw) (hq : zfnd (zSz nw) x = none) : zRO E yX5_fixed wsX5_fixed 3 68 [.ref (ad 287), .int (x)] (fun H => zCW E ad nw sv an hs ct ln cd H) (some (.int (-1))) := by
  refine zRO.ofI (maxL := 5) rfl (Nat.le_of_ble_eq_true rfl) (fun p e s m args below meth c H Q hF hP hret ls hl => ?_)
  have S : CallFix p m c cX5_fixed 5 s args wsX5_fixed RX5 := hF.1
  have hG := hF.2
  obtain ⟨hx, hb, hml, hown, hts⟩ := id S
  obtain ⟨π, tn, tt, nb, tf, hp, hX⟩ := hP
  obtain ⟨hA, hsv, hhs, t5, t8, t9, t10, t11⟩ := id hX
  obtain ⟨h0, h1, h2, h3, h4, h5, h6, h7, hR⟩ := id hA
  have hl : lv_has ls 5 [(0, .ref (ad 287)), (1, .int (x))] := hl
  have hin2 : ∀ w ∈ u_ws RX2 TX2 2, w ∈ wsX5_fixed := by decide +kernel
  have hin5 : ∀ w ∈ u_ws RX5 TX5 7, w ∈ wsX5_fixed := by decide +kernel
  refine lv_aload_n hx hb dX5_fixed_0 rfl (lv_at hl 0 rfl) ?_
  refine z_get (ref := RX5) (C := RX5) (T := TX5) (N := 7) hx hb hts hin5 hown hG t5 rfl 0 (by decide) (by decide +kernel) rfl rfl dX5_fixed_1 ?_
  refine lv_iload_n hx hb dX5_fixed_4 rfl (lv_at hl 1 rfl) ?_
  refine z_roVN (As := [.int (x)]) (rest := []) (host := "CharmBracelets") (q := (RX3, TX3, 5)) S hG (c_X3_find_0 E (ad := ad) (b := 0) (v := nw) hok.h16 hq) 1 gX5_fixed_X3_find_n66 (List.mem_of_getElem? (i := 18) rfl) (by decide +kernel) rfl kX3_find.2 ⟨Nat.le_of_ble_eq_true rfl, Nat.le_of_ble_eq_true rfl⟩ ⟨Nat.zero_le _, Nat.zero_le _⟩ (hA) rfl h0 rfl hl.1 rfl rfl (Nat.le_of_ble_eq_true rfl) dX5_fixed_5 ?_
  refine lv_astore_nN (lv' := [(2, .null), (0, .ref (ad 287)), (1, .int (x))]) hx hb dX5_fixed_8 rfl hl (by decide) rfl (fun ls hl => ?_)
  refine lv_aload_nN hx hb dX5_fixed_9 rfl (lv_at hl 0 rfl) ?_
  refine lv_ifnonnullN hx hb dX5_fixed_10 ?_
  refine lv_iconst (v := (-1)) hx hb dX5_fixed_13 (by decide) ?_
  exact hret _ _ _ dX5_fixed_14 (rfl)

set_option maxHeartbeats 4000000 in
set_option maxRecDepth 100000 in
theorem c_X5_fixed_1 (E : zEnv) {ad : Nat → Nat} {nw sv : zS} {an : Bool} {hs : Nat → zS} {ct ln : Nat} {cd : Nat → Int32} {r : Nat} (hok : zOk nw) (hr : r < 6) (hr0 : zSz nw r ≠ 0) : zRO E yX5_fixed wsX5_fixed 3 68 [.ref (ad 287), .int (nI (r))] (fun H => zCW E ad nw sv an hs ct ln cd H) (some (.int (zset (fun u9 => decide (zdf (zSz nw r) (zKd nw r) (u9 * (zSz nw r) / 4) (zKd nw r) = 0)) 4))) := by
  refine zRO.ofI (maxL := 5) rfl (Nat.le_of_ble_eq_true rfl) (fun p e s m args below meth c H Q hF hP hret ls hl => ?_)
  have S : CallFix p m c cX5_fixed 5 s args wsX5_fixed RX5 := hF.1
  have hG := hF.2
  obtain ⟨hx, hb, hml, hown, hts⟩ := id S
  obtain ⟨π, tn, tt, nb, tf, hp, hX⟩ := hP
  obtain ⟨hA, hsv, hhs, t5, t8, t9, t10, t11⟩ := id hX
  obtain ⟨h0, h1, h2, h3, h4, h5, h6, h7, hR⟩ := id hA
  have hn := hok.sz hr hr0
  have hl : lv_has ls 5 [(0, .ref (ad 287)), (1, .int (nI (r)))] := hl
  have hin2 : ∀ w ∈ u_ws RX2 TX2 2, w ∈ wsX5_fixed := by decide +kernel
  have hin5 : ∀ w ∈ u_ws RX5 TX5 7, w ∈ wsX5_fixed := by decide +kernel
  refine lv_aload_n hx hb dX5_fixed_0 rfl (lv_at hl 0 rfl) ?_
  refine z_get (ref := RX5) (C := RX5) (T := TX5) (N := 7) hx hb hts hin5 hown hG t5 rfl 0 (by decide) (by decide +kernel) rfl rfl dX5_fixed_1 ?_
  refine lv_iload_n hx hb dX5_fixed_4 rfl (lv_at hl 1 rfl) ?_
  refine z_roVN (As := [.int (nI (r))]) (rest := []) (host := "CharmBracelets") (q := (RX3, TX3, 5)) S hG (c_X3_find_1 E (ad := ad) (b := 0) (v := nw) (i := r) hr ⟨hr0, hok.h16 r hr⟩) 1 gX5_fixed_X3_find_n66 (List.mem_of_getElem? (i := 18) rfl) (by decide +kernel) rfl kX3_find.2 ⟨Nat.le_of_ble_eq_true rfl, Nat.le_of_ble_eq_true rfl⟩ ⟨Nat.zero_le _, Nat.zero_le _⟩ (hA) rfl h0 rfl hl.1 rfl rfl (Nat.le_of_ble_eq_true rfl) dX5_fixed_5 ?_
  refine lv_astore_n (lv' := [(2, .ref (ad (0 + 9 + 2 * r))), (0, .ref (ad 287)), (1, .int (nI (r)))]) hx hb dX5_fixed_8 rfl hl (by decide) rfl (fun ls hl => ?_)
  refine lv_aload_n hx hb dX5_fixed_9 rfl (lv_at hl 0 rfl) ?_
  refine lv_ifnonnull (tgt := 15) hx hb dX5_fixed_10 (by decide) ?_
  refine lv_iconst (v := nI (0)) hx hb dX5_fixed_15 (by decide) ?_
  refine lv_istore_n (lv' := [(3, .int (nI (0))), (2, .ref (ad (0 + 9 + 2 * r))), (0, .ref (ad 287)), (1, .int (nI (r)))]) hx hb dX5_fixed_16 rfl hl (by decide) rfl (fun ls hl => ?_)
  refine lv_iconst (v := nI (0)) hx hb dX5_fixed_17 (by decide) ?_
  refine lv_istore (lv' := [(4, .int (nI (0))), (3, .int (nI (0))), (2, .ref (ad (0 + 9 + 2 * r))), (0, .ref (ad 287)), (1, .int (nI (r)))]) hx hb dX5_fixed_18 hl (by decide) rfl (fun ls hl => ?_)
  have L20 : ∀ (dd : Nat) (t : Nat), 4 - t < dd → (t ≤ 4) → ∀ (ls : Array Slot), lv_has ls 5 [(0, .ref (ad 287)), (1, .int (nI (r))), (2, .ref (ad (0 + 9 + 2 * r))), (3, .int (zset (fun u9 => decide (zdf (zSz nw r) (zKd nw r) (u9 * (zSz nw r) / 4) (zKd nw r) = 0)) t)), (4, .int (nI (t)))] → W p (zl E) e (zRm 3 68) s m args below meth c H [] 0 0 Q (F0 m 20 ls []) := by
    intro dd
    induction dd with
    | zero => intro t hdd; exact absurd hdd (Nat.not_lt_zero _)
    | succ dd ih20 =>
      intro t hdd20 ht ls hl
      refine lv_iload hx hb dX5_fixed_20 (lv_at hl 4 rfl) ?_
      refine lv_iconst (v := nI (4)) hx hb dX5_fixed_22 (by decide) ?_
      refine z_cge (tgt := 57) hx hb dX5_fixed_23 (by decide) ⟨by omega, by omega⟩ (fun c_1 => ?_) (fun c_1 => ?_)
      · refine lv_iload_n hx hb dX5_fixed_57 rfl (lv_at hl 3 rfl) ?_
        exact hret _ _ _ dX5_fixed_58 (by rw [show t = 4 by omega])
      · refine lv_aload_n hx hb dX5_fixed_26 rfl (lv_at hl 2 rfl) ?_
        refine lv_iconst (v := nI (0)) hx hb dX5_fixed_27 (by decide) ?_
        refine lv_iload hx hb dX5_fixed_28 (lv_at hl 4 rfl) ?_
        refine lv_aload_n hx hb dX5_fixed_30 rfl (lv_at hl 2 rfl) ?_
        refine z_getN (own := RX5) (ref := RX2) (host := "CharmBracelets") (C := RX2) (T := TX2) (N := 2) hx hb hts hin2 hown hG (hR r (by omega)).1 rfl 0 (by decide) (List.mem_of_getElem? (i := 4) rfl) rfl rfl dX5_fixed_31 ?_
        refine z_roSX (As := [.int (nI (0)), .int (nI (t)), .int (nI (zSz nw r))]) (rest := [.ref (ad (0 + 9 + 2 * r))]) S hG (c_X5_changeAt E (lv := 0) (i := t) (n := (zSz nw r)) (by decide) (by omega) hn.2) 3 gX5_fixed_X5_changeAt rfl kX5_changeAt.2 ⟨Nat.le_of_ble_eq_true rfl, Nat.le_of_ble_eq_true rfl⟩ ⟨Nat.zero_le _, Nat.zero_le _⟩ (trivial) rfl hl.1 rfl rfl (Nat.le_of_ble_eq_true rfl) dX5_fixed_34 ?_
        refine lv_aload_n hx hb dX5_fixed_37 rfl (lv_at hl 2 rfl) ?_
        refine z_roVN (As := [.int (nI (t * (zSz nw r) / 4)), .ref (ad (0 + 9 + 2 * r))]) (rest := []) (host := "CharmBracelets") (q := (RX2, TX2, 2)) S hG (c_X2_differences E (n := (zSz nw r)) (f := (zKd nw r)) (m2 := (zSz nw r)) (g := (zKd nw r)) (ch := t * (zSz nw r) / 4) ⟨by have h9 : t * (zSz nw r) ≤ 3 * (zSz nw r) := Nat.mul_le_mul_right _ (by omega); omega, hn.2⟩) 2 gX5_fixed_X2_differences_n137 (List.mem_of_getElem? (i := 30) rfl) (by decide +kernel) rfl kX2_differences.2 ⟨Nat.le_of_ble_eq_true rfl, Nat.le_of_ble_eq_true rfl⟩ ⟨Nat.zero_le _, Nat.zero_le _⟩ (⟨hR r (by omega), hR r (by omega)⟩) rfl (hR r (by omega)).1 rfl hl.1 rfl rfl (Nat.le_of_ble_eq_true rfl) dX5_fixed_38 ?_
        refine z_fne (tgt := 51) hx hb dX5_fixed_41 (by decide) (by have h9 := zdf_le (zSz nw r) (zKd nw r) (t * (zSz nw r) / 4) (zKd nw r); omega) (fun c_2 => ?_) (fun c_2 => ?_)
        · refine lv_iinc (v := nI (t + 1)) (lv' := [(4, .int (nI (t + 1))), (0, .ref (ad 287)), (1, .int (nI (r))), (2, .ref (ad (0 + 9 + 2 * r))), (3, .int (zset (fun u9 => decide (zdf (zSz nw r) (zKd nw r) (u9 * (zSz nw r) / 4) (zKd nw r) = 0)) t))]) hx hb dX5_fixed_51 hl (k := 4) rfl (z_inc1 _) (by decide) rfl (fun ls hl => ?_)
          refine lv_goto (tgt := 20) hx hb dX5_fixed_54 (by decide) ?_
          have hl9 := lv_sub hl [1, 2, 3, 4, 0] (l' := [(0, .ref (ad 287)), (1, .int (nI (r))), (2, .ref (ad (0 + 9 + 2 * r))), (3, .int (zset (fun u9 => decide (zdf (zSz nw r) (zKd nw r) (u9 * (zSz nw r) / 4) (zKd nw r) = 0)) t)), (4, .int (nI (t + 1)))]) rfl
          have e9_3 : (zset (fun u9 => decide (zdf (zSz nw r) (zKd nw r) (u9 * (zSz nw r) / 4) (zKd nw r) = 0)) t) = (zset (fun u9 => decide (zdf (zSz nw r) (zKd nw r) (u9 * (zSz nw r) / 4) (zKd nw r) = 0)) (t + 1)) := by first | exact zset_t (p := (fun u9 => decide (zdf (zSz nw r) (zKd nw r) (u9 * (zSz nw r) / 4) (zKd nw r) = 0))) (decide_eq_true c_2) | exact zset_f (p := (fun u9 => decide (zdf (zSz nw r) (zKd nw r) (u9 * (zSz nw r) / 4) (zKd nw r) = 0))) (decide_eq_false c_2)
          have e9_4 : (t + 1) = ((t + 1)) := by omega
          exact ih20 (t + 1) (by omega) (by omega) ls (by rw [← e9_3, ← e9_4]; exact hl9)
        · refine lv_iload_n hx hb dX5_fixed_44 rfl (lv_at hl 3 rfl) ?_
          refine lv_iconst (v := nI (1)) hx hb dX5_fixed_45 (by decide) ?_
          refine lv_iload hx hb dX5_fixed_46 (lv_at hl 4 rfl) ?_
          refine lv_ishl hx hb dX5_fixed_48 ?_
          refine lv_ior hx hb dX5_fixed_49 ?_
          refine lv_istore_n (lv' := [(3, .int ((zset (fun u9 => decide (zdf (zSz nw r) (zKd nw r) (u9 * (zSz nw r) / 4) (zKd nw r) = 0)) t) ||| (nI (1) <<< (nI (t) &&& 31)))), (0, .ref (ad 287)), (1, .int (nI (r))), (2, .ref (ad (0 + 9 + 2 * r))), (4, .int (nI (t)))]) hx hb dX5_fixed_50 rfl hl (by decide) rfl (fun ls hl => ?_)
          refine lv_iinc (v := nI (t + 1)) (lv' := [(4, .int (nI (t + 1))), (3, .int ((zset (fun u9 => decide (zdf (zSz nw r) (zKd nw r) (u9 * (zSz nw r) / 4) (zKd nw r) = 0)) t) ||| (nI (1) <<< (nI (t) &&& 31)))), (0, .ref (ad 287)), (1, .int (nI (r))), (2, .ref (ad (0 + 9 + 2 * r)))]) hx hb dX5_fixed_51 hl (k := 4) rfl (z_inc1 _) (by decide) rfl (fun ls hl => ?_)
          refine lv_goto (tgt := 20) hx hb dX5_fixed_54 (by decide) ?_
          have hl9 := lv_sub hl [2, 3, 4, 1, 0] (l' := [(0, .ref (ad 287)), (1, .int (nI (r))), (2, .ref (ad (0 + 9 + 2 * r))), (3, .int ((zset (fun u9 => decide (zdf (zSz nw r) (zKd nw r) (u9 * (zSz nw r) / 4) (zKd nw r) = 0)) t) ||| (nI (1) <<< (nI (t) &&& 31)))), (4, .int (nI (t + 1)))]) rfl
          have e9_3 : ((zset (fun u9 => decide (zdf (zSz nw r) (zKd nw r) (u9 * (zSz nw r) / 4) (zKd nw r) = 0)) t) ||| (nI (1) <<< (nI (t) &&& 31))) = (zset (fun u9 => decide (zdf (zSz nw r) (zKd nw r) (u9 * (zSz nw r) / 4) (zKd nw r) = 0)) (t + 1)) := by first | exact zset_t (p := (fun u9 => decide (zdf (zSz nw r) (zKd nw r) (u9 * (zSz nw r) / 4) (zKd nw r) = 0))) (decide_eq_true c_2) | exact zset_f (p := (fun u9 => decide (zdf (zSz nw r) (zKd nw r) (u9 * (zSz nw r) / 4) (zKd nw r) = 0))) (decide_eq_false c_2)
          have e9_4 : (t + 1) = ((t + 1)) := by omega
          exact ih20 (t + 1) (by omega) (by omega) ls (by rw [← e9_3, ← e9_4]; exact hl9)
  exact L20 ((4 - (0)) + 1) (0) (Nat.lt_succ_self _) (by decide) ls (lv_sub hl [3, 4, 2, 1, 0] rfl)

set_option maxHeartbeats 4000000 in
set_option maxRecDepth 100000 in
theorem c_X5_distance_0 (E : zEnv) {ad : Nat → Nat} {nw sv : zS} {an : Bool} {hs : Nat → zS} {ct ln : Nat} {cd : Nat → Int32} {x y : Int32} (hok : zOk nw) (hq : zfnd (zSz nw) x = none) (hqy : zfnd (zSz nw) y = none) : zRO E yX5_distance wsX5_distance 4 93 [.ref (ad 287), .int (x), .int (y)] (fun H => zCW E ad nw sv an hs ct ln cd H) (some (.int (-1))) := by
  refine zRO.ofI (maxL := 5) rfl (Nat.le_of_ble_eq_true rfl) (fun p e s m args below meth c H Q hF hP hret ls hl => ?_)
  have S : CallFix p m c cX5_distance 5 s args wsX5_distance RX5 := hF.1
  have hG := hF.2
  obtain ⟨hx, hb, hml, hown, hts⟩ := id S
  obtain ⟨π, tn, tt, nb, tf, hp, hX⟩ := hP
  obtain ⟨hA, hsv, hhs, t5, t8, t9, t10, t11⟩ := id hX
  obtain ⟨h0, h1, h2, h3, h4, h5, h6, h7, hR⟩ := id hA
  have hl : lv_has ls 5 [(0, .ref (ad 287)), (1, .int (x)), (2, .int (y))] := hl
  have hin2 : ∀ w ∈ u_ws RX2 TX2 2, w ∈ wsX5_distance := by decide +kernel
  have hin5 : ∀ w ∈ u_ws RX5 TX5 7, w ∈ wsX5_distance := by decide +kernel
  refine lv_aload_n hx hb dX5_distance_0 rfl (lv_at hl 0 rfl) ?_
  refine z_get (ref := RX5) (C := RX5) (T := TX5) (N := 7) hx hb hts hin5 hown hG t5 rfl 0 (by decide) (by decide +kernel) rfl rfl dX5_distance_1 ?_
  refine lv_iload_n hx hb dX5_distance_4 rfl (lv_at hl 1 rfl) ?_
  refine z_roVN (As := [.int (x)]) (rest := []) (host := "CharmBracelets") (q := (RX3, TX3, 5)) S hG (c_X3_find_0 E (ad := ad) (b := 0) (v := nw) hok.h16 hq) 1 gX5_distance_X3_find_n66 (List.mem_of_getElem? (i := 18) rfl) (by decide +kernel) rfl kX3_find.2 ⟨Nat.le_of_ble_eq_true rfl, Nat.le_of_ble_eq_true rfl⟩ ⟨Nat.zero_le _, Nat.zero_le _⟩ (hA) rfl h0 rfl hl.1 rfl rfl (Nat.le_of_ble_eq_true rfl) dX5_distance_5 ?_
  refine lv_astore_nN (lv' := [(3, .null), (0, .ref (ad 287)), (1, .int (x)), (2, .int (y))]) hx hb dX5_distance_8 rfl hl (by decide) rfl (fun ls hl => ?_)
  refine lv_aload_n hx hb dX5_distance_9 rfl (lv_at hl 1 rfl) ?_
  refine z_get (ref := RX5) (C := RX5) (T := TX5) (N := 7) hx hb hts hin5 hown hG t5 rfl 0 (by decide) (by decide +kernel) rfl rfl dX5_distance_10 ?_
  refine lv_iload_n hx hb dX5_distance_13 rfl (lv_at hl 3 rfl) ?_
  refine z_roVN (As := [.int (y)]) (rest := []) (host := "CharmBracelets") (q := (RX3, TX3, 5)) S hG (c_X3_find_0 E (ad := ad) (b := 0) (v := nw) hok.h16 hqy) 1 gX5_distance_X3_find_n66 (List.mem_of_getElem? (i := 18) rfl) (by decide +kernel) rfl kX3_find.2 ⟨Nat.le_of_ble_eq_true rfl, Nat.le_of_ble_eq_true rfl⟩ ⟨Nat.zero_le _, Nat.zero_le _⟩ (hA) rfl h0 rfl hl.1 rfl rfl (Nat.le_of_ble_eq_true rfl) dX5_distance_14 ?_
  refine lv_astoreN (lv' := [(4, .null), (3, .null), (0, .ref (ad 287)), (1, .int (x)), (2, .int (y))]) hx hb dX5_distance_17 hl (by decide) rfl (fun ls hl => ?_)
  refine lv_aload_nN hx hb dX5_distance_19 rfl (lv_at hl 1 rfl) ?_
  refine lv_ifnullN (tgt := 28) hx hb dX5_distance_20 (by decide) ?_
  refine lv_iconst (v := (-1)) hx hb dX5_distance_28 (by decide) ?_
  exact hret _ _ _ dX5_distance_29 (rfl)

set_option maxHeartbeats 4000000 in
set_option maxRecDepth 100000 in
theorem c_X5_distance_0s (E : zEnv) {ad : Nat → Nat} {nw sv : zS} {an : Bool} {hs : Nat → zS} {ct ln : Nat} {cd : Nat → Int32} {x : Int32} {r2 : Nat} (hok : zOk nw) (hq : zfnd (zSz nw) x = none) (hr2 : r2 < 6) (hr20 : zSz nw r2 ≠ 0) : zRO E yX5_distance wsX5_distance 4 93 [.ref (ad 287), .int (x), .int (nI (r2))] (fun H => zCW E ad nw sv an hs ct ln cd H) (some (.int (-1))) := by
  refine zRO.ofI (maxL := 5) rfl (Nat.le_of_ble_eq_true rfl) (fun p e s m args below meth c H Q hF hP hret ls hl => ?_)
  have S : CallFix p m c cX5_distance 5 s args wsX5_distance RX5 := hF.1
  have hG := hF.2
  obtain ⟨hx, hb, hml, hown, hts⟩ := id S
  obtain ⟨π, tn, tt, nb, tf, hp, hX⟩ := hP
  obtain ⟨hA, hsv, hhs, t5, t8, t9, t10, t11⟩ := id hX
  obtain ⟨h0, h1, h2, h3, h4, h5, h6, h7, hR⟩ := id hA
  have hl : lv_has ls 5 [(0, .ref (ad 287)), (1, .int (x)), (2, .int (nI (r2)))] := hl
  have hin2 : ∀ w ∈ u_ws RX2 TX2 2, w ∈ wsX5_distance := by decide +kernel
  have hin5 : ∀ w ∈ u_ws RX5 TX5 7, w ∈ wsX5_distance := by decide +kernel
  refine lv_aload_n hx hb dX5_distance_0 rfl (lv_at hl 0 rfl) ?_
  refine z_get (ref := RX5) (C := RX5) (T := TX5) (N := 7) hx hb hts hin5 hown hG t5 rfl 0 (by decide) (by decide +kernel) rfl rfl dX5_distance_1 ?_
  refine lv_iload_n hx hb dX5_distance_4 rfl (lv_at hl 1 rfl) ?_
  refine z_roVN (As := [.int (x)]) (rest := []) (host := "CharmBracelets") (q := (RX3, TX3, 5)) S hG (c_X3_find_0 E (ad := ad) (b := 0) (v := nw) hok.h16 hq) 1 gX5_distance_X3_find_n66 (List.mem_of_getElem? (i := 18) rfl) (by decide +kernel) rfl kX3_find.2 ⟨Nat.le_of_ble_eq_true rfl, Nat.le_of_ble_eq_true rfl⟩ ⟨Nat.zero_le _, Nat.zero_le _⟩ (hA) rfl h0 rfl hl.1 rfl rfl (Nat.le_of_ble_eq_true rfl) dX5_distance_5 ?_
  refine lv_astore_nN (lv' := [(3, .null), (0, .ref (ad 287)), (1, .int (x)), (2, .int (nI (r2)))]) hx hb dX5_distance_8 rfl hl (by decide) rfl (fun ls hl => ?_)
  refine lv_aload_n hx hb dX5_distance_9 rfl (lv_at hl 1 rfl) ?_
  refine z_get (ref := RX5) (C := RX5) (T := TX5) (N := 7) hx hb hts hin5 hown hG t5 rfl 0 (by decide) (by decide +kernel) rfl rfl dX5_distance_10 ?_
  refine lv_iload_n hx hb dX5_distance_13 rfl (lv_at hl 3 rfl) ?_
  refine z_roVN (As := [.int (nI (r2))]) (rest := []) (host := "CharmBracelets") (q := (RX3, TX3, 5)) S hG (c_X3_find_1 E (ad := ad) (b := 0) (v := nw) (i := r2) hr2 ⟨hr20, hok.h16 r2 hr2⟩) 1 gX5_distance_X3_find_n66 (List.mem_of_getElem? (i := 18) rfl) (by decide +kernel) rfl kX3_find.2 ⟨Nat.le_of_ble_eq_true rfl, Nat.le_of_ble_eq_true rfl⟩ ⟨Nat.zero_le _, Nat.zero_le _⟩ (hA) rfl h0 rfl hl.1 rfl rfl (Nat.le_of_ble_eq_true rfl) dX5_distance_14 ?_
  refine lv_astore (lv' := [(4, .ref (ad (0 + 9 + 2 * r2))), (3, .null), (0, .ref (ad 287)), (1, .int (x)), (2, .int (nI (r2)))]) hx hb dX5_distance_17 hl (by decide) rfl (fun ls hl => ?_)
  refine lv_aload_nN hx hb dX5_distance_19 rfl (lv_at hl 1 rfl) ?_
  refine lv_ifnullN (tgt := 28) hx hb dX5_distance_20 (by decide) ?_
  refine lv_iconst (v := (-1)) hx hb dX5_distance_28 (by decide) ?_
  exact hret _ _ _ dX5_distance_29 (rfl)

set_option maxHeartbeats 4000000 in
set_option maxRecDepth 100000 in
theorem c_X5_distance_1 (E : zEnv) {ad : Nat → Nat} {nw sv : zS} {an : Bool} {hs : Nat → zS} {ct ln : Nat} {cd : Nat → Int32} {r : Nat} {y : Int32} (hok : zOk nw) (hr : r < 6) (hr0 : zSz nw r ≠ 0) (hqy : zfnd (zSz nw) y = none) : zRO E yX5_distance wsX5_distance 4 93 [.ref (ad 287), .int (nI (r)), .int (y)] (fun H => zCW E ad nw sv an hs ct ln cd H) (some (.int (-1))) := by
  refine zRO.ofI (maxL := 5) rfl (Nat.le_of_ble_eq_true rfl) (fun p e s m args below meth c H Q hF hP hret ls hl => ?_)
  have S : CallFix p m c cX5_distance 5 s args wsX5_distance RX5 := hF.1
  have hG := hF.2
  obtain ⟨hx, hb, hml, hown, hts⟩ := id S
  obtain ⟨π, tn, tt, nb, tf, hp, hX⟩ := hP
  obtain ⟨hA, hsv, hhs, t5, t8, t9, t10, t11⟩ := id hX
  obtain ⟨h0, h1, h2, h3, h4, h5, h6, h7, hR⟩ := id hA
  have hl : lv_has ls 5 [(0, .ref (ad 287)), (1, .int (nI (r))), (2, .int (y))] := hl
  have hin2 : ∀ w ∈ u_ws RX2 TX2 2, w ∈ wsX5_distance := by decide +kernel
  have hin5 : ∀ w ∈ u_ws RX5 TX5 7, w ∈ wsX5_distance := by decide +kernel
  refine lv_aload_n hx hb dX5_distance_0 rfl (lv_at hl 0 rfl) ?_
  refine z_get (ref := RX5) (C := RX5) (T := TX5) (N := 7) hx hb hts hin5 hown hG t5 rfl 0 (by decide) (by decide +kernel) rfl rfl dX5_distance_1 ?_
  refine lv_iload_n hx hb dX5_distance_4 rfl (lv_at hl 1 rfl) ?_
  refine z_roVN (As := [.int (nI (r))]) (rest := []) (host := "CharmBracelets") (q := (RX3, TX3, 5)) S hG (c_X3_find_1 E (ad := ad) (b := 0) (v := nw) (i := r) hr ⟨hr0, hok.h16 r hr⟩) 1 gX5_distance_X3_find_n66 (List.mem_of_getElem? (i := 18) rfl) (by decide +kernel) rfl kX3_find.2 ⟨Nat.le_of_ble_eq_true rfl, Nat.le_of_ble_eq_true rfl⟩ ⟨Nat.zero_le _, Nat.zero_le _⟩ (hA) rfl h0 rfl hl.1 rfl rfl (Nat.le_of_ble_eq_true rfl) dX5_distance_5 ?_
  refine lv_astore_n (lv' := [(3, .ref (ad (0 + 9 + 2 * r))), (0, .ref (ad 287)), (1, .int (nI (r))), (2, .int (y))]) hx hb dX5_distance_8 rfl hl (by decide) rfl (fun ls hl => ?_)
  refine lv_aload_n hx hb dX5_distance_9 rfl (lv_at hl 1 rfl) ?_
  refine z_get (ref := RX5) (C := RX5) (T := TX5) (N := 7) hx hb hts hin5 hown hG t5 rfl 0 (by decide) (by decide +kernel) rfl rfl dX5_distance_10 ?_
  refine lv_iload_n hx hb dX5_distance_13 rfl (lv_at hl 3 rfl) ?_
  refine z_roVN (As := [.int (y)]) (rest := []) (host := "CharmBracelets") (q := (RX3, TX3, 5)) S hG (c_X3_find_0 E (ad := ad) (b := 0) (v := nw) hok.h16 hqy) 1 gX5_distance_X3_find_n66 (List.mem_of_getElem? (i := 18) rfl) (by decide +kernel) rfl kX3_find.2 ⟨Nat.le_of_ble_eq_true rfl, Nat.le_of_ble_eq_true rfl⟩ ⟨Nat.zero_le _, Nat.zero_le _⟩ (hA) rfl h0 rfl hl.1 rfl rfl (Nat.le_of_ble_eq_true rfl) dX5_distance_14 ?_
  refine lv_astoreN (lv' := [(4, .null), (3, .ref (ad (0 + 9 + 2 * r))), (0, .ref (ad 287)), (1, .int (nI (r))), (2, .int (y))]) hx hb dX5_distance_17 hl (by decide) rfl (fun ls hl => ?_)
  refine lv_aload_n hx hb dX5_distance_19 rfl (lv_at hl 1 rfl) ?_
  refine lv_ifnull hx hb dX5_distance_20 ?_
  refine lv_aloadN hx hb dX5_distance_23 (lv_at hl 0 rfl) ?_
  refine lv_ifnonnullN hx hb dX5_distance_25 ?_
  refine lv_iconst (v := (-1)) hx hb dX5_distance_28 (by decide) ?_
  exact hret _ _ _ dX5_distance_29 (rfl)

set_option maxHeartbeats 4000000 in
set_option maxRecDepth 100000 in
theorem c_X5_distance_2 (E : zEnv) {ad : Nat → Nat} {nw sv : zS} {an : Bool} {hs : Nat → zS} {ct ln : Nat} {cd : Nat → Int32} {r r2 : Nat} (hok : zOk nw) (hr : r < 6) (hr0 : zSz nw r ≠ 0) (hr2 : r2 < 6) (hr20 : zSz nw r2 ≠ 0) (hne : (zSz nw r) ≠ (zSz nw r2)) : zRO E yX5_distance wsX5_distance 4 93 [.ref (ad 287), .int (nI (r)), .int (nI (r2))] (fun H => zCW E ad nw sv an hs ct ln cd H) (some (.int (-6))) := by
  refine zRO.ofI (maxL := 5) rfl (Nat.le_of_ble_eq_true rfl) (fun p e s m args below meth c H Q hF hP hret ls hl => ?_)
  have S : CallFix p m c cX5_distance 5 s args wsX5_distance RX5 := hF.1
  have hG := hF.2
  obtain ⟨hx, hb, hml, hown, hts⟩ := id S
  obtain ⟨π, tn, tt, nb, tf, hp, hX⟩ := hP
  obtain ⟨hA, hsv, hhs, t5, t8, t9, t10, t11⟩ := id hX
  obtain ⟨h0, h1, h2, h3, h4, h5, h6, h7, hR⟩ := id hA
  have hl : lv_has ls 5 [(0, .ref (ad 287)), (1, .int (nI (r))), (2, .int (nI (r2)))] := hl
  have hin2 : ∀ w ∈ u_ws RX2 TX2 2, w ∈ wsX5_distance := by decide +kernel
  have hin5 : ∀ w ∈ u_ws RX5 TX5 7, w ∈ wsX5_distance := by decide +kernel
  refine lv_aload_n hx hb dX5_distance_0 rfl (lv_at hl 0 rfl) ?_
  refine z_get (ref := RX5) (C := RX5) (T := TX5) (N := 7) hx hb hts hin5 hown hG t5 rfl 0 (by decide) (by decide +kernel) rfl rfl dX5_distance_1 ?_
  refine lv_iload_n hx hb dX5_distance_4 rfl (lv_at hl 1 rfl) ?_
  refine z_roVN (As := [.int (nI (r))]) (rest := []) (host := "CharmBracelets") (q := (RX3, TX3, 5)) S hG (c_X3_find_1 E (ad := ad) (b := 0) (v := nw) (i := r) hr ⟨hr0, hok.h16 r hr⟩) 1 gX5_distance_X3_find_n66 (List.mem_of_getElem? (i := 18) rfl) (by decide +kernel) rfl kX3_find.2 ⟨Nat.le_of_ble_eq_true rfl, Nat.le_of_ble_eq_true rfl⟩ ⟨Nat.zero_le _, Nat.zero_le _⟩ (hA) rfl h0 rfl hl.1 rfl rfl (Nat.le_of_ble_eq_true rfl) dX5_distance_5 ?_
  refine lv_astore_n (lv' := [(3, .ref (ad (0 + 9 + 2 * r))), (0, .ref (ad 287)), (1, .int (nI (r))), (2, .int (nI (r2)))]) hx hb dX5_distance_8 rfl hl (by decide) rfl (fun ls hl => ?_)
  refine lv_aload_n hx hb dX5_distance_9 rfl (lv_at hl 1 rfl) ?_
  refine z_get (ref := RX5) (C := RX5) (T := TX5) (N := 7) hx hb hts hin5 hown hG t5 rfl 0 (by decide) (by decide +kernel) rfl rfl dX5_distance_10 ?_
  refine lv_iload_n hx hb dX5_distance_13 rfl (lv_at hl 3 rfl) ?_
  refine z_roVN (As := [.int (nI (r2))]) (rest := []) (host := "CharmBracelets") (q := (RX3, TX3, 5)) S hG (c_X3_find_1 E (ad := ad) (b := 0) (v := nw) (i := r2) hr2 ⟨hr20, hok.h16 r2 hr2⟩) 1 gX5_distance_X3_find_n66 (List.mem_of_getElem? (i := 18) rfl) (by decide +kernel) rfl kX3_find.2 ⟨Nat.le_of_ble_eq_true rfl, Nat.le_of_ble_eq_true rfl⟩ ⟨Nat.zero_le _, Nat.zero_le _⟩ (hA) rfl h0 rfl hl.1 rfl rfl (Nat.le_of_ble_eq_true rfl) dX5_distance_14 ?_
  refine lv_astore (lv' := [(4, .ref (ad (0 + 9 + 2 * r2))), (3, .ref (ad (0 + 9 + 2 * r))), (0, .ref (ad 287)), (1, .int (nI (r))), (2, .int (nI (r2)))]) hx hb dX5_distance_17 hl (by decide) rfl (fun ls hl => ?_)
  refine lv_aload_n hx hb dX5_distance_19 rfl (lv_at hl 1 rfl) ?_
  refine lv_ifnull hx hb dX5_distance_20 ?_
  refine lv_aload hx hb dX5_distance_23 (lv_at hl 0 rfl) ?_
  refine lv_ifnonnull (tgt := 30) hx hb dX5_distance_25 (by decide) ?_
  refine lv_aload_n hx hb dX5_distance_30 rfl (lv_at hl 1 rfl) ?_
  refine z_getN (own := RX5) (ref := RX2) (host := "CharmBracelets") (C := RX2) (T := TX2) (N := 2) hx hb hts hin2 hown hG (hR r (by omega)).1 rfl 0 (by decide) (List.mem_of_getElem? (i := 4) rfl) rfl rfl dX5_distance_31 ?_
  refine lv_aload hx hb dX5_distance_34 (lv_at hl 0 rfl) ?_
  refine z_getN (own := RX5) (ref := RX2) (host := "CharmBracelets") (C := RX2) (T := TX2) (N := 2) hx hb hts hin2 hown hG (hR r2 (by omega)).1 rfl 0 (by decide) (List.mem_of_getElem? (i := 4) rfl) rfl rfl dX5_distance_36 ?_
  refine z_ceq (tgt := 45) hx hb dX5_distance_39 (by decide) ⟨by have := hok.h16 r hr; omega, by have := hok.h16 r2 hr2; omega⟩ (fun c_1 => by exfalso; omega) (fun c_1 => ?_)
  refine lv_bipush (v := (-6)) hx hb dX5_distance_42 (by decide) ?_
  exact hret _ _ _ dX5_distance_44 (rfl)

set_option maxHeartbeats 4000000 in
set_option maxRecDepth 100000 in
theorem c_X5_distance_3 (E : zEnv) {ad : Nat → Nat} {nw sv : zS} {an : Bool} {hs : Nat → zS} {ct ln : Nat} {cd : Nat → Int32} {r r2 : Nat} (hok : zOk nw) (hr : r < 6) (hr0 : zSz nw r ≠ 0) (hr2 : r2 < 6) (hr20 : zSz nw r2 ≠ 0) (hne : (zSz nw r) = (zSz nw r2)) : zRO E yX5_distance wsX5_distance 4 93 [.ref (ad 287), .int (nI (r)), .int (nI (r2))] (fun H => zCW E ad nw sv an hs ct ln cd H) (some (.int (nI (zmd (zSz nw r) (zKd nw r) (zKd nw r2) 2 (znc 2 (zSz nw r)))))) := by
  refine zRO.ofI (maxL := 5) rfl (Nat.le_of_ble_eq_true rfl) (fun p e s m args below meth c H Q hF hP hret ls hl => ?_)
  have S : CallFix p m c cX5_distance 5 s args wsX5_distance RX5 := hF.1
  have hG := hF.2
  obtain ⟨hx, hb, hml, hown, hts⟩ := id S
  obtain ⟨π, tn, tt, nb, tf, hp, hX⟩ := hP
  obtain ⟨hA, hsv, hhs, t5, t8, t9, t10, t11⟩ := id hX
  obtain ⟨h0, h1, h2, h3, h4, h5, h6, h7, hR⟩ := id hA
  have hn := hok.sz hr hr0
  have hl : lv_has ls 5 [(0, .ref (ad 287)), (1, .int (nI (r))), (2, .int (nI (r2)))] := hl
  have hin2 : ∀ w ∈ u_ws RX2 TX2 2, w ∈ wsX5_distance := by decide +kernel
  have hin5 : ∀ w ∈ u_ws RX5 TX5 7, w ∈ wsX5_distance := by decide +kernel
  refine lv_aload_n hx hb dX5_distance_0 rfl (lv_at hl 0 rfl) ?_
  refine z_get (ref := RX5) (C := RX5) (T := TX5) (N := 7) hx hb hts hin5 hown hG t5 rfl 0 (by decide) (by decide +kernel) rfl rfl dX5_distance_1 ?_
  refine lv_iload_n hx hb dX5_distance_4 rfl (lv_at hl 1 rfl) ?_
  refine z_roVN (As := [.int (nI (r))]) (rest := []) (host := "CharmBracelets") (q := (RX3, TX3, 5)) S hG (c_X3_find_1 E (ad := ad) (b := 0) (v := nw) (i := r) hr ⟨hr0, hok.h16 r hr⟩) 1 gX5_distance_X3_find_n66 (List.mem_of_getElem? (i := 18) rfl) (by decide +kernel) rfl kX3_find.2 ⟨Nat.le_of_ble_eq_true rfl, Nat.le_of_ble_eq_true rfl⟩ ⟨Nat.zero_le _, Nat.zero_le _⟩ (hA) rfl h0 rfl hl.1 rfl rfl (Nat.le_of_ble_eq_true rfl) dX5_distance_5 ?_
  refine lv_astore_n (lv' := [(3, .ref (ad (0 + 9 + 2 * r))), (0, .ref (ad 287)), (1, .int (nI (r))), (2, .int (nI (r2)))]) hx hb dX5_distance_8 rfl hl (by decide) rfl (fun ls hl => ?_)
  refine lv_aload_n hx hb dX5_distance_9 rfl (lv_at hl 1 rfl) ?_
  refine z_get (ref := RX5) (C := RX5) (T := TX5) (N := 7) hx hb hts hin5 hown hG t5 rfl 0 (by decide) (by decide +kernel) rfl rfl dX5_distance_10 ?_
  refine lv_iload_n hx hb dX5_distance_13 rfl (lv_at hl 3 rfl) ?_
  refine z_roVN (As := [.int (nI (r2))]) (rest := []) (host := "CharmBracelets") (q := (RX3, TX3, 5)) S hG (c_X3_find_1 E (ad := ad) (b := 0) (v := nw) (i := r2) hr2 ⟨hr20, hok.h16 r2 hr2⟩) 1 gX5_distance_X3_find_n66 (List.mem_of_getElem? (i := 18) rfl) (by decide +kernel) rfl kX3_find.2 ⟨Nat.le_of_ble_eq_true rfl, Nat.le_of_ble_eq_true rfl⟩ ⟨Nat.zero_le _, Nat.zero_le _⟩ (hA) rfl h0 rfl hl.1 rfl rfl (Nat.le_of_ble_eq_true rfl) dX5_distance_14 ?_
  refine lv_astore (lv' := [(4, .ref (ad (0 + 9 + 2 * r2))), (3, .ref (ad (0 + 9 + 2 * r))), (0, .ref (ad 287)), (1, .int (nI (r))), (2, .int (nI (r2)))]) hx hb dX5_distance_17 hl (by decide) rfl (fun ls hl => ?_)
  refine lv_aload_n hx hb dX5_distance_19 rfl (lv_at hl 1 rfl) ?_
  refine lv_ifnull hx hb dX5_distance_20 ?_
  refine lv_aload hx hb dX5_distance_23 (lv_at hl 0 rfl) ?_
  refine lv_ifnonnull (tgt := 30) hx hb dX5_distance_25 (by decide) ?_
  refine lv_aload_n hx hb dX5_distance_30 rfl (lv_at hl 1 rfl) ?_
  refine z_getN (own := RX5) (ref := RX2) (host := "CharmBracelets") (C := RX2) (T := TX2) (N := 2) hx hb hts hin2 hown hG (hR r (by omega)).1 rfl 0 (by decide) (List.mem_of_getElem? (i := 4) rfl) rfl rfl dX5_distance_31 ?_
  refine lv_aload hx hb dX5_distance_34 (lv_at hl 0 rfl) ?_
  refine z_getN (own := RX5) (ref := RX2) (host := "CharmBracelets") (C := RX2) (T := TX2) (N := 2) hx hb hts hin2 hown hG (hR r2 (by omega)).1 rfl 0 (by decide) (List.mem_of_getElem? (i := 4) rfl) rfl rfl dX5_distance_36 ?_
  refine z_ceq (tgt := 45) hx hb dX5_distance_39 (by decide) ⟨by have := hok.h16 r hr; omega, by have := hok.h16 r2 hr2; omega⟩ (fun c_1 => ?_) (fun c_1 => by exfalso; omega)
  refine lv_aload_n hx hb dX5_distance_45 rfl (lv_at hl 1 rfl) ?_
  refine lv_aload hx hb dX5_distance_46 (lv_at hl 0 rfl) ?_
  refine lv_iconst (v := nI (2)) hx hb dX5_distance_48 (by decide) ?_
  refine z_roVN (As := [.ref (ad (0 + 9 + 2 * r2)), .int (nI (2))]) (rest := []) (host := "CharmBracelets") (q := (RX2, TX2, 2)) S hG (c_X2_leastDifferences E (n := (zSz nw r)) (f := (zKd nw r)) (m2 := (zSz nw r2)) (g := (zKd nw r2)) (lv := 2) hn (by decide)) 2 gX5_distance_X2_leastDifferences_n141 (List.mem_of_getElem? (i := 53) rfl) (by decide +kernel) rfl kX2_leastDifferences.2 ⟨Nat.le_of_ble_eq_true rfl, Nat.le_of_ble_eq_true rfl⟩ ⟨Nat.zero_le _, Nat.zero_le _⟩ (⟨hR r (by omega), hR r2 (by omega)⟩) rfl (hR r (by omega)).1 rfl hl.1 rfl rfl (Nat.le_of_ble_eq_true rfl) dX5_distance_49 ?_
  exact hret _ _ _ dX5_distance_52 (rfl)

set_option maxHeartbeats 4000000 in
set_option maxRecDepth 100000 in
theorem c_X5_motif_0 (E : zEnv) {ad : Nat → Nat} {nw sv : zS} {an : Bool} {hs : Nat → zS} {ct ln : Nat} {cd : Nat → Int32} {y : Int32} (hok : zOk nw) (hy : zMl nw = 0 ∨ zin y 0 (zMl nw - 1) = false) : zRO E yX5_motif wsX5_motif 0 0 [.ref (ad 287), .int (y)] (fun H => zCW E ad nw sv an hs ct ln cd H) (some (.int (-1))) := by
  refine zRO.ofI (maxL := 2) rfl (Nat.le_of_ble_eq_true rfl) (fun p e s m args below meth c H Q hF hP hret ls hl => ?_)
  have S : CallFix p m c cX5_motif 2 s args wsX5_motif RX5 := hF.1
  have hG := hF.2
  obtain ⟨hx, hb, hml, hown, hts⟩ := id S
  obtain ⟨π, tn, tt, nb, tf, hp, hX⟩ := hP
  obtain ⟨hA, hsv, hhs, t5, t8, t9, t10, t11⟩ := id hX
  obtain ⟨h0, h1, h2, h3, h4, h5, h6, h7, hR⟩ := id hA
  have hml6 := hok.2.2.2.1
  have hl : lv_has ls 2 [(0, .ref (ad 287)), (1, .int (y))] := hl
  have hin0 : ∀ w ∈ u_ws RX0 TX0 2, w ∈ wsX5_motif := by decide +kernel
  have hin3 : ∀ w ∈ u_ws RX3 TX3 5, w ∈ wsX5_motif := by decide +kernel
  have hin5 : ∀ w ∈ u_ws RX5 TX5 7, w ∈ wsX5_motif := by decide +kernel
  refine lv_iload_n hx hb dX5_motif_0 rfl (lv_at hl 1 rfl) ?_
  refine lv_if_lt (tgt := 18) hx hb dX5_motif_1 (by decide) (fun c_1 => ?_) (fun c_1 => ?_)
  · refine lv_iconst (v := (-1)) hx hb dX5_motif_18 (by decide) ?_
    exact hret _ _ _ dX5_motif_19 (rfl)
  · refine lv_iload_n hx hb dX5_motif_4 rfl (lv_at hl 1 rfl) ?_
    refine lv_aload_n hx hb dX5_motif_5 rfl (lv_at hl 0 rfl) ?_
    refine z_get (ref := RX5) (C := RX5) (T := TX5) (N := 7) hx hb hts hin5 hown hG t5 rfl 0 (by decide) (by decide +kernel) rfl rfl dX5_motif_6 ?_
    refine z_getN (own := RX5) (ref := RX3) (host := "CharmBracelets") (C := RX3) (T := TX3) (N := 5) hx hb hts hin3 hown hG h0 rfl 3 (by decide) (List.mem_of_getElem? (i := 11) rfl) rfl rfl dX5_motif_9 ?_
    refine z_getN (own := RX5) (ref := RX0) (host := "CharmBracelets") (C := RX0) (T := TX0) (N := 2) hx hb hts hin0 hown hG h4.1 rfl 0 (by decide) (List.mem_of_getElem? (i := 0) rfl) rfl rfl dX5_motif_12 ?_
    refine lv_icmp_lt (tgt := 20) hx hb dX5_motif_15 (by decide) (fun c_2 => by exfalso; exact zin_c3 hy (by omega) c_1 c_2) (fun c_2 => ?_)
    refine lv_iconst (v := (-1)) hx hb dX5_motif_18 (by decide) ?_
    exact hret _ _ _ dX5_motif_19 (rfl)

set_option maxHeartbeats 4000000 in
set_option maxRecDepth 100000 in
theorem c_X5_motif_1 (E : zEnv) {ad : Nat → Nat} {nw sv : zS} {an : Bool} {hs : Nat → zS} {ct ln : Nat} {cd : Nat → Int32} {j : Nat} (hok : zOk nw) (hj : j < zMl nw) : zRO E yX5_motif wsX5_motif 0 0 [.ref (ad 287), .int (nI (j))] (fun H => zCW E ad nw sv an hs ct ln cd H) (some (.int (zSg nw j))) := by
  refine zRO.ofI (maxL := 2) rfl (Nat.le_of_ble_eq_true rfl) (fun p e s m args below meth c H Q hF hP hret ls hl => ?_)
  have S : CallFix p m c cX5_motif 2 s args wsX5_motif RX5 := hF.1
  have hG := hF.2
  obtain ⟨hx, hb, hml, hown, hts⟩ := id S
  obtain ⟨π, tn, tt, nb, tf, hp, hX⟩ := hP
  obtain ⟨hA, hsv, hhs, t5, t8, t9, t10, t11⟩ := id hX
  obtain ⟨h0, h1, h2, h3, h4, h5, h6, h7, hR⟩ := id hA
  have hml6 := hok.2.2.2.1
  have hl : lv_has ls 2 [(0, .ref (ad 287)), (1, .int (nI (j)))] := hl
  have hin0 : ∀ w ∈ u_ws RX0 TX0 2, w ∈ wsX5_motif := by decide +kernel
  have hin3 : ∀ w ∈ u_ws RX3 TX3 5, w ∈ wsX5_motif := by decide +kernel
  have hin5 : ∀ w ∈ u_ws RX5 TX5 7, w ∈ wsX5_motif := by decide +kernel
  refine lv_iload_n hx hb dX5_motif_0 rfl (lv_at hl 1 rfl) ?_
  refine z_flt (tgt := 18) hx hb dX5_motif_1 (by decide) (by omega) ?_
  refine lv_iload_n hx hb dX5_motif_4 rfl (lv_at hl 1 rfl) ?_
  refine lv_aload_n hx hb dX5_motif_5 rfl (lv_at hl 0 rfl) ?_
  refine z_get (ref := RX5) (C := RX5) (T := TX5) (N := 7) hx hb hts hin5 hown hG t5 rfl 0 (by decide) (by decide +kernel) rfl rfl dX5_motif_6 ?_
  refine z_getN (own := RX5) (ref := RX3) (host := "CharmBracelets") (C := RX3) (T := TX3) (N := 5) hx hb hts hin3 hown hG h0 rfl 3 (by decide) (List.mem_of_getElem? (i := 11) rfl) rfl rfl dX5_motif_9 ?_
  refine z_getN (own := RX5) (ref := RX0) (host := "CharmBracelets") (C := RX0) (T := TX0) (N := 2) hx hb hts hin0 hown hG h4.1 rfl 0 (by decide) (List.mem_of_getElem? (i := 0) rfl) rfl rfl dX5_motif_12 ?_
  refine z_clt (tgt := 20) hx hb dX5_motif_15 (by decide) ⟨by omega, by omega⟩ (fun c_2 => ?_) (fun c_2 => by exfalso; omega)
  refine lv_aload_n hx hb dX5_motif_20 rfl (lv_at hl 0 rfl) ?_
  refine z_get (ref := RX5) (C := RX5) (T := TX5) (N := 7) hx hb hts hin5 hown hG t5 rfl 0 (by decide) (by decide +kernel) rfl rfl dX5_motif_21 ?_
  refine z_getN (own := RX5) (ref := RX3) (host := "CharmBracelets") (C := RX3) (T := TX3) (N := 5) hx hb hts hin3 hown hG h0 rfl 3 (by decide) (List.mem_of_getElem? (i := 11) rfl) rfl rfl dX5_motif_24 ?_
  refine z_getN (own := RX5) (ref := RX0) (host := "CharmBracelets") (C := RX0) (T := TX0) (N := 2) hx hb hts hin0 hown hG h4.1 rfl 1 (by decide) (List.mem_of_getElem? (i := 1) rfl) rfl rfl dX5_motif_27 ?_
  refine lv_iload_n hx hb dX5_motif_30 rfl (lv_at hl 1 rfl) ?_
  refine z_iald (j := j) hx hb hG h4.2 ⟨by omega, by omega⟩ dX5_motif_31 ?_
  exact hret _ _ _ dX5_motif_32 (rfl)

set_option maxHeartbeats 4000000 in
set_option maxRecDepth 100000 in
theorem c_X5_motifAt_0 (E : zEnv) {ad : Nat → Nat} {nw sv : zS} {an : Bool} {hs : Nat → zS} {ct ln : Nat} {cd : Nat → Int32} {x : Int32} (hok : zOk nw) (hq : zfnd (zSz nw) x = none) : zRO E yX5_motifAt wsX5_motifAt 3 67 [.ref (ad 287), .int (x)] (fun H => zCW E ad nw sv an hs ct ln cd H) (some (.int (-1))) := by
  refine zRO.ofI (maxL := 3) rfl (Nat.le_of_ble_eq_true rfl) (fun p e s m args below meth c H Q hF hP hret ls hl => ?_)
  have S : CallFix p m c cX5_motifAt 3 s args wsX5_motifAt RX5 := hF.1
  have hG := hF.2
  obtain ⟨hx, hb, hml, hown, hts⟩ := id S
  obtain ⟨π, tn, tt, nb, tf, hp, hX⟩ := hP
  obtain ⟨hA, hsv, hhs, t5, t8, t9, t10, t11⟩ := id hX
  obtain ⟨h0, h1, h2, h3, h4, h5, h6, h7, hR⟩ := id hA
  have hl : lv_has ls 3 [(0, .ref (ad 287)), (1, .int (x))] := hl
  have hin3 : ∀ w ∈ u_ws RX3 TX3 5, w ∈ wsX5_motifAt := by decide +kernel
  have hin5 : ∀ w ∈ u_ws RX5 TX5 7, w ∈ wsX5_motifAt := by decide +kernel
  refine lv_aload_n hx hb dX5_motifAt_0 rfl (lv_at hl 0 rfl) ?_
  refine z_get (ref := RX5) (C := RX5) (T := TX5) (N := 7) hx hb hts hin5 hown hG t5 rfl 0 (by decide) (by decide +kernel) rfl rfl dX5_motifAt_1 ?_
  refine lv_iload_n hx hb dX5_motifAt_4 rfl (lv_at hl 1 rfl) ?_
  refine z_roVN (As := [.int (x)]) (rest := []) (host := "CharmBracelets") (q := (RX3, TX3, 5)) S hG (c_X3_find_0 E (ad := ad) (b := 0) (v := nw) hok.h16 hq) 1 gX5_motifAt_X3_find_n66 (List.mem_of_getElem? (i := 18) rfl) (by decide +kernel) rfl kX3_find.2 ⟨Nat.le_of_ble_eq_true rfl, Nat.le_of_ble_eq_true rfl⟩ ⟨Nat.zero_le _, Nat.zero_le _⟩ (hA) rfl h0 rfl hl.1 rfl rfl (Nat.le_of_ble_eq_true rfl) dX5_motifAt_5 ?_
  refine lv_astore_nN (lv' := [(2, .null), (0, .ref (ad 287)), (1, .int (x))]) hx hb dX5_motifAt_8 rfl hl (by decide) rfl (fun ls hl => ?_)
  refine lv_aload_nN hx hb dX5_motifAt_9 rfl (lv_at hl 0 rfl) ?_
  refine lv_ifnonnullN hx hb dX5_motifAt_10 ?_
  refine lv_iconst (v := (-1)) hx hb dX5_motifAt_13 (by decide) ?_
  exact hret _ _ _ dX5_motifAt_14 (rfl)

set_option maxHeartbeats 4000000 in
set_option maxRecDepth 100000 in
theorem c_X5_motifAt_1 (E : zEnv) {ad : Nat → Nat} {nw sv : zS} {an : Bool} {hs : Nat → zS} {ct ln : Nat} {cd : Nat → Int32} {r : Nat} (hok : zOk nw) (hr : r < 6) (hr0 : zSz nw r ≠ 0) : zRO E yX5_motifAt wsX5_motifAt 3 67 [.ref (ad 287), .int (nI (r))] (fun H => zCW E ad nw sv an hs ct ln cd H) (some (.int (zset (zmt (zMl nw) (zSg nw) (zSz nw r) (zKd nw r)) (zSz nw r)))) := by
  refine zRO.ofI (maxL := 3) rfl (Nat.le_of_ble_eq_true rfl) (fun p e s m args below meth c H Q hF hP hret ls hl => ?_)
  have S : CallFix p m c cX5_motifAt 3 s args wsX5_motifAt RX5 := hF.1
  have hG := hF.2
  obtain ⟨hx, hb, hml, hown, hts⟩ := id S
  obtain ⟨π, tn, tt, nb, tf, hp, hX⟩ := hP
  obtain ⟨hA, hsv, hhs, t5, t8, t9, t10, t11⟩ := id hX
  obtain ⟨h0, h1, h2, h3, h4, h5, h6, h7, hR⟩ := id hA
  have hn := hok.sz hr hr0
  have hml6 := hok.2.2.2.1
  have hl : lv_has ls 3 [(0, .ref (ad 287)), (1, .int (nI (r)))] := hl
  have hin3 : ∀ w ∈ u_ws RX3 TX3 5, w ∈ wsX5_motifAt := by decide +kernel
  have hin5 : ∀ w ∈ u_ws RX5 TX5 7, w ∈ wsX5_motifAt := by decide +kernel
  refine lv_aload_n hx hb dX5_motifAt_0 rfl (lv_at hl 0 rfl) ?_
  refine z_get (ref := RX5) (C := RX5) (T := TX5) (N := 7) hx hb hts hin5 hown hG t5 rfl 0 (by decide) (by decide +kernel) rfl rfl dX5_motifAt_1 ?_
  refine lv_iload_n hx hb dX5_motifAt_4 rfl (lv_at hl 1 rfl) ?_
  refine z_roVN (As := [.int (nI (r))]) (rest := []) (host := "CharmBracelets") (q := (RX3, TX3, 5)) S hG (c_X3_find_1 E (ad := ad) (b := 0) (v := nw) (i := r) hr ⟨hr0, hok.h16 r hr⟩) 1 gX5_motifAt_X3_find_n66 (List.mem_of_getElem? (i := 18) rfl) (by decide +kernel) rfl kX3_find.2 ⟨Nat.le_of_ble_eq_true rfl, Nat.le_of_ble_eq_true rfl⟩ ⟨Nat.zero_le _, Nat.zero_le _⟩ (hA) rfl h0 rfl hl.1 rfl rfl (Nat.le_of_ble_eq_true rfl) dX5_motifAt_5 ?_
  refine lv_astore_n (lv' := [(2, .ref (ad (0 + 9 + 2 * r))), (0, .ref (ad 287)), (1, .int (nI (r)))]) hx hb dX5_motifAt_8 rfl hl (by decide) rfl (fun ls hl => ?_)
  refine lv_aload_n hx hb dX5_motifAt_9 rfl (lv_at hl 0 rfl) ?_
  refine lv_ifnonnull (tgt := 15) hx hb dX5_motifAt_10 (by decide) ?_
  refine lv_aload_n hx hb dX5_motifAt_15 rfl (lv_at hl 1 rfl) ?_
  refine z_get (ref := RX5) (C := RX5) (T := TX5) (N := 7) hx hb hts hin5 hown hG t5 rfl 0 (by decide) (by decide +kernel) rfl rfl dX5_motifAt_16 ?_
  refine z_getN (own := RX5) (ref := RX3) (host := "CharmBracelets") (C := RX3) (T := TX3) (N := 5) hx hb hts hin3 hown hG h0 rfl 3 (by decide) (List.mem_of_getElem? (i := 11) rfl) rfl rfl dX5_motifAt_19 ?_
  refine lv_aload_n hx hb dX5_motifAt_22 rfl (lv_at hl 0 rfl) ?_
  refine z_roVN (As := [.ref (ad (0 + 9 + 2 * r))]) (rest := []) (host := "CharmBracelets") (q := (RX0, TX0, 2)) S hG (c_X0_slotSet E (mo := ad (0 + 4)) (mk := ad (0 + 5)) (ml := zMl nw) (sg := zSg nw) (n := (zSz nw r)) (f := (zKd nw r)) hn hml6) 1 gX5_motifAt_X0_slotSet_n171 (List.mem_of_getElem? (i := 38) rfl) (by decide +kernel) rfl kX0_slotSet.2 ⟨Nat.le_of_ble_eq_true rfl, Nat.le_of_ble_eq_true rfl⟩ ⟨Nat.zero_le _, Nat.zero_le _⟩ (⟨h4, hR r (by omega)⟩) rfl h4.1 rfl hl.1 rfl rfl (Nat.le_of_ble_eq_true rfl) dX5_motifAt_23 ?_
  exact hret _ _ _ dX5_motifAt_26 (rfl)

set_option maxHeartbeats 4000000 in
set_option maxRecDepth 100000 in
theorem c_X5_staysAt_0 (E : zEnv) {ad : Nat → Nat} {nw sv : zS} {an : Bool} {hs : Nat → zS} {ct ln : Nat} {cd : Nat → Int32} {x : Int32} (hok : zOk nw) (hq : zfnd (zSz nw) x = none) : zRO E yX5_staysAt wsX5_staysAt 3 67 [.ref (ad 287), .int (x)] (fun H => zCW E ad nw sv an hs ct ln cd H) (some (.int (-1))) := by
  refine zRO.ofI (maxL := 6) rfl (Nat.le_of_ble_eq_true rfl) (fun p e s m args below meth c H Q hF hP hret ls hl => ?_)
  have S : CallFix p m c cX5_staysAt 6 s args wsX5_staysAt RX5 := hF.1
  have hG := hF.2
  obtain ⟨hx, hb, hml, hown, hts⟩ := id S
  obtain ⟨π, tn, tt, nb, tf, hp, hX⟩ := hP
  obtain ⟨hA, hsv, hhs, t5, t8, t9, t10, t11⟩ := id hX
  obtain ⟨h0, h1, h2, h3, h4, h5, h6, h7, hR⟩ := id hA
  have hl : lv_has ls 6 [(0, .ref (ad 287)), (1, .int (x))] := hl
  have hin3 : ∀ w ∈ u_ws RX3 TX3 5, w ∈ wsX5_staysAt := by decide +kernel
  have hin5 : ∀ w ∈ u_ws RX5 TX5 7, w ∈ wsX5_staysAt := by decide +kernel
  refine lv_aload_n hx hb dX5_staysAt_0 rfl (lv_at hl 0 rfl) ?_
  refine z_get (ref := RX5) (C := RX5) (T := TX5) (N := 7) hx hb hts hin5 hown hG t5 rfl 0 (by decide) (by decide +kernel) rfl rfl dX5_staysAt_1 ?_
  refine lv_iload_n hx hb dX5_staysAt_4 rfl (lv_at hl 1 rfl) ?_
  refine z_roVN (As := [.int (x)]) (rest := []) (host := "CharmBracelets") (q := (RX3, TX3, 5)) S hG (c_X3_find_0 E (ad := ad) (b := 0) (v := nw) hok.h16 hq) 1 gX5_staysAt_X3_find_n66 (List.mem_of_getElem? (i := 18) rfl) (by decide +kernel) rfl kX3_find.2 ⟨Nat.le_of_ble_eq_true rfl, Nat.le_of_ble_eq_true rfl⟩ ⟨Nat.zero_le _, Nat.zero_le _⟩ (hA) rfl h0 rfl hl.1 rfl rfl (Nat.le_of_ble_eq_true rfl) dX5_staysAt_5 ?_
  refine lv_astore_nN (lv' := [(2, .null), (0, .ref (ad 287)), (1, .int (x))]) hx hb dX5_staysAt_8 rfl hl (by decide) rfl (fun ls hl => ?_)
  refine lv_aload_nN hx hb dX5_staysAt_9 rfl (lv_at hl 0 rfl) ?_
  refine lv_ifnonnullN hx hb dX5_staysAt_10 ?_
  refine lv_iconst (v := (-1)) hx hb dX5_staysAt_13 (by decide) ?_
  exact hret _ _ _ dX5_staysAt_14 (rfl)

set_option maxHeartbeats 4000000 in
set_option maxRecDepth 100000 in
theorem c_X5_staysAt_1 (E : zEnv) {ad : Nat → Nat} {nw sv : zS} {an : Bool} {hs : Nat → zS} {ct ln : Nat} {cd : Nat → Int32} {r : Nat} (hok : zOk nw) (hr : r < 6) (hr0 : zSz nw r ≠ 0) : zRO E yX5_staysAt wsX5_staysAt 3 67 [.ref (ad 287), .int (nI (r))] (fun H => zCW E ad nw sv an hs ct ln cd H) (some (.int (zst3 (zset (zmt (zMl nw) (zSg nw) (zSz nw r) (zKd nw r)) (zSz nw r)) (zSz nw r) 3))) := by
  refine zRO.ofI (maxL := 6) rfl (Nat.le_of_ble_eq_true rfl) (fun p e s m args below meth c H Q hF hP hret ls hl => ?_)
  have S : CallFix p m c cX5_staysAt 6 s args wsX5_staysAt RX5 := hF.1
  have hG := hF.2
  obtain ⟨hx, hb, hml, hown, hts⟩ := id S
  obtain ⟨π, tn, tt, nb, tf, hp, hX⟩ := hP
  obtain ⟨hA, hsv, hhs, t5, t8, t9, t10, t11⟩ := id hX
  obtain ⟨h0, h1, h2, h3, h4, h5, h6, h7, hR⟩ := id hA
  have hn := hok.sz hr hr0
  have hml6 := hok.2.2.2.1
  have hl : lv_has ls 6 [(0, .ref (ad 287)), (1, .int (nI (r)))] := hl
  have hin3 : ∀ w ∈ u_ws RX3 TX3 5, w ∈ wsX5_staysAt := by decide +kernel
  have hin5 : ∀ w ∈ u_ws RX5 TX5 7, w ∈ wsX5_staysAt := by decide +kernel
  refine lv_aload_n hx hb dX5_staysAt_0 rfl (lv_at hl 0 rfl) ?_
  refine z_get (ref := RX5) (C := RX5) (T := TX5) (N := 7) hx hb hts hin5 hown hG t5 rfl 0 (by decide) (by decide +kernel) rfl rfl dX5_staysAt_1 ?_
  refine lv_iload_n hx hb dX5_staysAt_4 rfl (lv_at hl 1 rfl) ?_
  refine z_roVN (As := [.int (nI (r))]) (rest := []) (host := "CharmBracelets") (q := (RX3, TX3, 5)) S hG (c_X3_find_1 E (ad := ad) (b := 0) (v := nw) (i := r) hr ⟨hr0, hok.h16 r hr⟩) 1 gX5_staysAt_X3_find_n66 (List.mem_of_getElem? (i := 18) rfl) (by decide +kernel) rfl kX3_find.2 ⟨Nat.le_of_ble_eq_true rfl, Nat.le_of_ble_eq_true rfl⟩ ⟨Nat.zero_le _, Nat.zero_le _⟩ (hA) rfl h0 rfl hl.1 rfl rfl (Nat.le_of_ble_eq_true rfl) dX5_staysAt_5 ?_
  refine lv_astore_n (lv' := [(2, .ref (ad (0 + 9 + 2 * r))), (0, .ref (ad 287)), (1, .int (nI (r)))]) hx hb dX5_staysAt_8 rfl hl (by decide) rfl (fun ls hl => ?_)
  refine lv_aload_n hx hb dX5_staysAt_9 rfl (lv_at hl 0 rfl) ?_
  refine lv_ifnonnull (tgt := 15) hx hb dX5_staysAt_10 (by decide) ?_
  refine lv_aload_n hx hb dX5_staysAt_15 rfl (lv_at hl 1 rfl) ?_
  refine z_get (ref := RX5) (C := RX5) (T := TX5) (N := 7) hx hb hts hin5 hown hG t5 rfl 0 (by decide) (by decide +kernel) rfl rfl dX5_staysAt_16 ?_
  refine z_getN (own := RX5) (ref := RX3) (host := "CharmBracelets") (C := RX3) (T := TX3) (N := 5) hx hb hts hin3 hown hG h0 rfl 3 (by decide) (List.mem_of_getElem? (i := 11) rfl) rfl rfl dX5_staysAt_19 ?_
  refine lv_aload_n hx hb dX5_staysAt_22 rfl (lv_at hl 0 rfl) ?_
  refine z_roVN (As := [.ref (ad (0 + 9 + 2 * r))]) (rest := []) (host := "CharmBracelets") (q := (RX0, TX0, 2)) S hG (c_X0_slotSet E (mo := ad (0 + 4)) (mk := ad (0 + 5)) (ml := zMl nw) (sg := zSg nw) (n := (zSz nw r)) (f := (zKd nw r)) hn hml6) 1 gX5_staysAt_X0_slotSet_n171 (List.mem_of_getElem? (i := 38) rfl) (by decide +kernel) rfl kX0_slotSet.2 ⟨Nat.le_of_ble_eq_true rfl, Nat.le_of_ble_eq_true rfl⟩ ⟨Nat.zero_le _, Nat.zero_le _⟩ (⟨h4, hR r (by omega)⟩) rfl h4.1 rfl hl.1 rfl rfl (Nat.le_of_ble_eq_true rfl) dX5_staysAt_23 ?_
  refine lv_istore_n (lv' := [(3, .int (zset (zmt (zMl nw) (zSg nw) (zSz nw r) (zKd nw r)) (zSz nw r))), (2, .ref (ad (0 + 9 + 2 * r))), (0, .ref (ad 287)), (1, .int (nI (r)))]) hx hb dX5_staysAt_26 rfl hl (by decide) rfl (fun ls hl => ?_)
  refine lv_iload_n hx hb dX5_staysAt_27 rfl (lv_at hl 0 rfl) ?_
  refine lv_istore (lv' := [(4, .int (zset (zmt (zMl nw) (zSg nw) (zSz nw r) (zKd nw r)) (zSz nw r))), (3, .int (zset (zmt (zMl nw) (zSg nw) (zSz nw r) (zKd nw r)) (zSz nw r))), (2, .ref (ad (0 + 9 + 2 * r))), (0, .ref (ad 287)), (1, .int (nI (r)))]) hx hb dX5_staysAt_28 hl (by decide) rfl (fun ls hl => ?_)
  refine lv_iconst (v := nI (1)) hx hb dX5_staysAt_30 (by decide) ?_
  refine lv_istore (lv' := [(5, .int (nI (1))), (4, .int (zset (zmt (zMl nw) (zSg nw) (zSz nw r) (zKd nw r)) (zSz nw r))), (3, .int (zset (zmt (zMl nw) (zSg nw) (zSz nw r) (zKd nw r)) (zSz nw r))), (2, .ref (ad (0 + 9 + 2 * r))), (0, .ref (ad 287)), (1, .int (nI (r)))]) hx hb dX5_staysAt_31 hl (by decide) rfl (fun ls hl => ?_)
  have L33 : ∀ (dd : Nat) (q : Nat), 4 - q < dd → (q ≤ 4) → (1 ≤ q) → ∀ (ls : Array Slot), lv_has ls 6 [(0, .ref (ad 287)), (1, .int (nI (r))), (2, .ref (ad (0 + 9 + 2 * r))), (3, .int (zset (zmt (zMl nw) (zSg nw) (zSz nw r) (zKd nw r)) (zSz nw r))), (4, .int (zst3 (zset (zmt (zMl nw) (zSg nw) (zSz nw r) (zKd nw r)) (zSz nw r)) (zSz nw r) (q - 1))), (5, .int (nI (q)))] → W p (zl E) e (zRm 3 67) s m args below meth c H [] 0 0 Q (F0 m 33 ls []) := by
    intro dd
    induction dd with
    | zero => intro q hdd; exact absurd hdd (Nat.not_lt_zero _)
    | succ dd ih33 =>
      intro q hdd33 hq4 hq1 ls hl
      refine lv_iload hx hb dX5_staysAt_33 (lv_at hl 5 rfl) ?_
      refine lv_iconst (v := nI (4)) hx hb dX5_staysAt_35 (by decide) ?_
      refine z_cge (tgt := 57) hx hb dX5_staysAt_36 (by decide) ⟨by omega, by omega⟩ (fun c_1 => ?_) (fun c_1 => ?_)
      · refine lv_iload hx hb dX5_staysAt_57 (lv_at hl 4 rfl) ?_
        exact hret _ _ _ dX5_staysAt_59 (by rw [show q - 1 = 3 by omega])
      · refine lv_iload hx hb dX5_staysAt_39 (lv_at hl 4 rfl) ?_
        refine lv_aload_n hx hb dX5_staysAt_41 rfl (lv_at hl 2 rfl) ?_
        refine lv_iload_n hx hb dX5_staysAt_42 rfl (lv_at hl 3 rfl) ?_
        refine lv_iload hx hb dX5_staysAt_43 (lv_at hl 5 rfl) ?_
        refine z_roVN (As := [.int (zset (zmt (zMl nw) (zSg nw) (zSz nw r) (zKd nw r)) (zSz nw r)), .int (nI (q))]) (rest := [.int (zst3 (zset (zmt (zMl nw) (zSg nw) (zSz nw r) (zKd nw r)) (zSz nw r)) (zSz nw r) (q - 1))]) (host := "CharmBracelets") (q := (RX2, TX2, 2)) S hG (c_X2_slotsTurnedInto E (n := (zSz nw r)) (f := (zKd nw r)) (w := zset (zmt (zMl nw) (zSg nw) (zSz nw r) (zKd nw r)) (zSz nw r)) (q := q) hn (by omega)) 2 gX5_staysAt_X2_slotsTurnedInto_n188 (List.mem_of_getElem? (i := 51) rfl) (by decide +kernel) rfl kX2_slotsTurnedInto.2 ⟨Nat.le_of_ble_eq_true rfl, Nat.le_of_ble_eq_true rfl⟩ ⟨Nat.zero_le _, Nat.zero_le _⟩ (hR r (by omega)) rfl (hR r (by omega)).1 rfl hl.1 rfl rfl (Nat.le_of_ble_eq_true rfl) dX5_staysAt_45 ?_
        refine lv_iand hx hb dX5_staysAt_48 ?_
        refine lv_istore (lv' := [(4, .int ((zst3 (zset (zmt (zMl nw) (zSg nw) (zSz nw r) (zKd nw r)) (zSz nw r)) (zSz nw r) (q - 1)) &&& (zset (fun s => decide (¬ ((zset (zmt (zMl nw) (zSg nw) (zSz nw r) (zKd nw r)) (zSz nw r)) >>> (nI ((s + q * (zSz nw r) / 4) % (zSz nw r)) &&& 31)) &&& 1 = 0)) (zSz nw r)))), (0, .ref (ad 287)), (1, .int (nI (r))), (2, .ref (ad (0 + 9 + 2 * r))), (3, .int (zset (zmt (zMl nw) (zSg nw) (zSz nw r) (zKd nw r)) (zSz nw r))), (5, .int (nI (q)))]) hx hb dX5_staysAt_49 hl (by decide) rfl (fun ls hl => ?_)
        refine lv_iinc (v := nI (q + 1)) (lv' := [(5, .int (nI (q + 1))), (4, .int ((zst3 (zset (zmt (zMl nw) (zSg nw) (zSz nw r) (zKd nw r)) (zSz nw r)) (zSz nw r) (q - 1)) &&& (zset (fun s => decide (¬ ((zset (zmt (zMl nw) (zSg nw) (zSz nw r) (zKd nw r)) (zSz nw r)) >>> (nI ((s + q * (zSz nw r) / 4) % (zSz nw r)) &&& 31)) &&& 1 = 0)) (zSz nw r)))), (0, .ref (ad 287)), (1, .int (nI (r))), (2, .ref (ad (0 + 9 + 2 * r))), (3, .int (zset (zmt (zMl nw) (zSg nw) (zSz nw r) (zKd nw r)) (zSz nw r)))]) hx hb dX5_staysAt_51 hl (k := 5) rfl (z_inc1 _) (by decide) rfl (fun ls hl => ?_)
        refine lv_goto (tgt := 33) hx hb dX5_staysAt_54 (by decide) ?_
        have hl9 := lv_sub hl [2, 3, 4, 5, 1, 0] (l' := [(0, .ref (ad 287)), (1, .int (nI (r))), (2, .ref (ad (0 + 9 + 2 * r))), (3, .int (zset (zmt (zMl nw) (zSg nw) (zSz nw r) (zKd nw r)) (zSz nw r))), (4, .int ((zst3 (zset (zmt (zMl nw) (zSg nw) (zSz nw r) (zKd nw r)) (zSz nw r)) (zSz nw r) (q - 1)) &&& (zset (fun s => decide (¬ ((zset (zmt (zMl nw) (zSg nw) (zSz nw r) (zKd nw r)) (zSz nw r)) >>> (nI ((s + q * (zSz nw r) / 4) % (zSz nw r)) &&& 31)) &&& 1 = 0)) (zSz nw r)))), (5, .int (nI (q + 1)))]) rfl
        have e9_4 : ((zst3 (zset (zmt (zMl nw) (zSg nw) (zSz nw r) (zKd nw r)) (zSz nw r)) (zSz nw r) (q - 1)) &&& (zset (fun s => decide (¬ ((zset (zmt (zMl nw) (zSg nw) (zSz nw r) (zKd nw r)) (zSz nw r)) >>> (nI ((s + q * (zSz nw r) / 4) % (zSz nw r)) &&& 31)) &&& 1 = 0)) (zSz nw r))) = (zst3 (zset (zmt (zMl nw) (zSg nw) (zSz nw r) (zKd nw r)) (zSz nw r)) (zSz nw r) ((q + 1) - 1)) := zst3_s hq1
        have e9_5 : (q + 1) = ((q + 1)) := by omega
        exact ih33 (q + 1) (by omega) (by omega) (by omega) ls (by rw [← e9_4, ← e9_5]; exact hl9)
  exact L33 ((4 - (1)) + 1) (1) (Nat.lt_succ_self _) (by decide) (by decide) ls (lv_sub hl [4, 5, 3, 2, 1, 0] rfl)

set_option maxHeartbeats 4000000 in
set_option maxRecDepth 100000 in
theorem c_X5_setMotif_0 (E : zEnv) {ad : Nat → Nat} {nw sv : zS} {an : Bool} {hs : Nat → zS} {ct ln : Nat} {cd : Nat → Int32} {x y w : Int32} (hok : zOk nw) (hinj : zInj ad) (hct : ct ≤ 5) (hq : zfnd (zSz nw) x = none) : zWR E yX5_setMotif wsX5_setMotif 5 145 [.ref (ad 287), .int (x), .int (y), .int (w)] (fun H => zCW E ad nw sv an hs ct ln cd H) (some (.int (-1))) (fun H => zCW E ad nw sv an hs ct ln cd H) (zAC ad) := by
  refine zWR.ofI (maxL := 7) rfl (Nat.le_of_ble_eq_true rfl) (fun p e s m args below meth c H Q hF hP hret ls hl => ?_)
  have S : CallFix p m c cX5_setMotif 7 s args wsX5_setMotif RX5 := hF.1
  have hG := hF.2
  obtain ⟨hx, hb, hml, hown, hts⟩ := id S
  have hS : va_S (zAC ad) H H [] := va_S.rf
  obtain ⟨locs, hlocs⟩ : ∃ x : List Loc, x = [] := ⟨_, rfl⟩
  rw [← hlocs] at hS ⊢
  have hz : H.size = H.size := rfl
  obtain ⟨π, tn, tt, nb, tf, hp, hX⟩ := hP
  obtain ⟨hA, hsv, hhs, t5, t8, t9, t10, t11⟩ := id hX
  obtain ⟨h0, h1, h2, h3, h4, h5, h6, h7, hR⟩ := id hA
  have hl : lv_has ls 7 [(0, .ref (ad 287)), (1, .int (x)), (2, .int (y)), (3, .int (w))] := hl
  have hin2 : ∀ w ∈ u_ws RX2 TX2 2, w ∈ wsX5_setMotif := by decide +kernel
  have hin3 : ∀ w ∈ u_ws RX3 TX3 5, w ∈ wsX5_setMotif := by decide +kernel
  have hin5 : ∀ w ∈ u_ws RX5 TX5 7, w ∈ wsX5_setMotif := by decide +kernel
  refine lv_aload_n hx hb dX5_setMotif_0 rfl (lv_at hl 0 rfl) ?_
  refine z_get (ref := RX5) (C := RX5) (T := TX5) (N := 7) hx hb hts hin5 hown hG t5 rfl 0 (by decide) (by decide +kernel) rfl rfl dX5_setMotif_1 ?_
  refine lv_iload_n hx hb dX5_setMotif_4 rfl (lv_at hl 1 rfl) ?_
  refine z_roVN (As := [.int (x)]) (rest := []) (host := "CharmBracelets") (q := (RX3, TX3, 5)) S hG (c_X3_find_0 E (ad := ad) (b := 0) (v := nw) hok.h16 hq) 1 gX5_setMotif_X3_find_n66 (List.mem_of_getElem? (i := 18) rfl) (by decide +kernel) rfl kX3_find.2 ⟨Nat.le_of_ble_eq_true rfl, Nat.le_of_ble_eq_true rfl⟩ ⟨Nat.zero_le _, Nat.zero_le _⟩ (hA) rfl h0 rfl hl.1 rfl rfl (Nat.le_of_ble_eq_true rfl) dX5_setMotif_5 ?_
  refine lv_astoreN (lv' := [(4, .null), (0, .ref (ad 287)), (1, .int (x)), (2, .int (y)), (3, .int (w))]) hx hb dX5_setMotif_8 hl (by decide) rfl (fun ls hl => ?_)
  refine lv_aloadN hx hb dX5_setMotif_10 (lv_at hl 0 rfl) ?_
  refine lv_ifnullN (tgt := 24) hx hb dX5_setMotif_12 (by decide) ?_
  refine lv_iconst (v := (-1)) hx hb dX5_setMotif_24 (by decide) ?_
  exact hret _ _ _ _ _ hS (hz) dX5_setMotif_25 (rfl) (zsc hp hX)

set_option maxHeartbeats 4000000 in
set_option maxRecDepth 100000 in
theorem c_X5_setMotif_1 (E : zEnv) {ad : Nat → Nat} {nw sv : zS} {an : Bool} {hs : Nat → zS} {ct ln : Nat} {cd : Nat → Int32} {r : Nat} {y w : Int32} (hok : zOk nw) (hinj : zInj ad) (hct : ct ≤ 5) (hr : r < 6) (hr0 : zSz nw r ≠ 0) (hy : zin y 0 ((zSz nw r) - 1) = false) : zWR E yX5_setMotif wsX5_setMotif 5 145 [.ref (ad 287), .int (nI (r)), .int (y), .int (w)] (fun H => zCW E ad nw sv an hs ct ln cd H) (some (.int (-1))) (fun H => zCW E ad nw sv an hs ct ln cd H) (zAC ad) := by
  refine zWR.ofI (maxL := 7) rfl (Nat.le_of_ble_eq_true rfl) (fun p e s m args below meth c H Q hF hP hret ls hl => ?_)
  have S : CallFix p m c cX5_setMotif 7 s args wsX5_setMotif RX5 := hF.1
  have hG := hF.2
  obtain ⟨hx, hb, hml, hown, hts⟩ := id S
  have hS : va_S (zAC ad) H H [] := va_S.rf
  obtain ⟨locs, hlocs⟩ : ∃ x : List Loc, x = [] := ⟨_, rfl⟩
  rw [← hlocs] at hS ⊢
  have hz : H.size = H.size := rfl
  obtain ⟨π, tn, tt, nb, tf, hp, hX⟩ := hP
  obtain ⟨hA, hsv, hhs, t5, t8, t9, t10, t11⟩ := id hX
  obtain ⟨h0, h1, h2, h3, h4, h5, h6, h7, hR⟩ := id hA
  have hn := hok.sz hr hr0
  have hl : lv_has ls 7 [(0, .ref (ad 287)), (1, .int (nI (r))), (2, .int (y)), (3, .int (w))] := hl
  have hin2 : ∀ w ∈ u_ws RX2 TX2 2, w ∈ wsX5_setMotif := by decide +kernel
  have hin3 : ∀ w ∈ u_ws RX3 TX3 5, w ∈ wsX5_setMotif := by decide +kernel
  have hin5 : ∀ w ∈ u_ws RX5 TX5 7, w ∈ wsX5_setMotif := by decide +kernel
  refine lv_aload_n hx hb dX5_setMotif_0 rfl (lv_at hl 0 rfl) ?_
  refine z_get (ref := RX5) (C := RX5) (T := TX5) (N := 7) hx hb hts hin5 hown hG t5 rfl 0 (by decide) (by decide +kernel) rfl rfl dX5_setMotif_1 ?_
  refine lv_iload_n hx hb dX5_setMotif_4 rfl (lv_at hl 1 rfl) ?_
  refine z_roVN (As := [.int (nI (r))]) (rest := []) (host := "CharmBracelets") (q := (RX3, TX3, 5)) S hG (c_X3_find_1 E (ad := ad) (b := 0) (v := nw) (i := r) hr ⟨hr0, hok.h16 r hr⟩) 1 gX5_setMotif_X3_find_n66 (List.mem_of_getElem? (i := 18) rfl) (by decide +kernel) rfl kX3_find.2 ⟨Nat.le_of_ble_eq_true rfl, Nat.le_of_ble_eq_true rfl⟩ ⟨Nat.zero_le _, Nat.zero_le _⟩ (hA) rfl h0 rfl hl.1 rfl rfl (Nat.le_of_ble_eq_true rfl) dX5_setMotif_5 ?_
  refine lv_astore (lv' := [(4, .ref (ad (0 + 9 + 2 * r))), (0, .ref (ad 287)), (1, .int (nI (r))), (2, .int (y)), (3, .int (w))]) hx hb dX5_setMotif_8 hl (by decide) rfl (fun ls hl => ?_)
  refine lv_aload hx hb dX5_setMotif_10 (lv_at hl 0 rfl) ?_
  refine lv_ifnull hx hb dX5_setMotif_12 ?_
  refine lv_aload hx hb dX5_setMotif_15 (lv_at hl 0 rfl) ?_
  refine lv_iload_n hx hb dX5_setMotif_17 rfl (lv_at hl 3 rfl) ?_
  refine z_roVN (As := [.int (y)]) (rest := []) (host := "CharmBracelets") (q := (RX2, TX2, 2)) S hG (c_X2_hasSlot E (n := (zSz nw r)) (f := (zKd nw r)) (x := y) hn) 1 gX5_setMotif_X2_hasSlot_n82 (List.mem_of_getElem? (i := 23) rfl) (by decide +kernel) rfl kX2_hasSlot.2 ⟨Nat.le_of_ble_eq_true rfl, Nat.le_of_ble_eq_true rfl⟩ ⟨Nat.zero_le _, Nat.zero_le _⟩ (hR r (by omega)) rfl (hR r (by omega)).1 rfl hl.1 rfl rfl (Nat.le_of_ble_eq_true rfl) dX5_setMotif_18 ?_
  refine z_bne (tgt := 26) hx hb dX5_setMotif_21 (by decide) (fun c_1 => by exfalso; rw [hy] at c_1; cases c_1) (fun c_1 => ?_)
  refine lv_iconst (v := (-1)) hx hb dX5_setMotif_24 (by decide) ?_
  exact hret _ _ _ _ _ hS (hz) dX5_setMotif_25 (rfl) (zsc hp hX)

set_option maxHeartbeats 4000000 in
set_option maxRecDepth 100000 in
theorem c_X5_setMotif_2 (E : zEnv) {ad : Nat → Nat} {nw sv : zS} {an : Bool} {hs : Nat → zS} {ct ln : Nat} {cd : Nat → Int32} {r j : Nat} {w : Int32} (hok : zOk nw) (hinj : zInj ad) (hct : ct ≤ 5) (hr : r < 6) (hr0 : zSz nw r ≠ 0) (hj : j < (zSz nw r)) (hw : zin w 1 (min 6 (zSz nw r)) = false) : zWR E yX5_setMotif wsX5_setMotif 5 145 [.ref (ad 287), .int (nI (r)), .int (nI (j)), .int (w)] (fun H => zCW E ad nw sv an hs ct ln cd H) (some (.int (-2))) (fun H => zCW E ad nw sv an hs ct ln cd H) (zAC ad) := by
  refine zWR.ofI (maxL := 7) rfl (Nat.le_of_ble_eq_true rfl) (fun p e s m args below meth c H Q hF hP hret ls hl => ?_)
  have S : CallFix p m c cX5_setMotif 7 s args wsX5_setMotif RX5 := hF.1
  have hG := hF.2
  obtain ⟨hx, hb, hml, hown, hts⟩ := id S
  have hS : va_S (zAC ad) H H [] := va_S.rf
  obtain ⟨locs, hlocs⟩ : ∃ x : List Loc, x = [] := ⟨_, rfl⟩
  rw [← hlocs] at hS ⊢
  have hz : H.size = H.size := rfl
  obtain ⟨π, tn, tt, nb, tf, hp, hX⟩ := hP
  obtain ⟨hA, hsv, hhs, t5, t8, t9, t10, t11⟩ := id hX
  obtain ⟨h0, h1, h2, h3, h4, h5, h6, h7, hR⟩ := id hA
  have hn := hok.sz hr hr0
  have hl : lv_has ls 7 [(0, .ref (ad 287)), (1, .int (nI (r))), (2, .int (nI (j))), (3, .int (w))] := hl
  have hin2 : ∀ w ∈ u_ws RX2 TX2 2, w ∈ wsX5_setMotif := by decide +kernel
  have hin3 : ∀ w ∈ u_ws RX3 TX3 5, w ∈ wsX5_setMotif := by decide +kernel
  have hin5 : ∀ w ∈ u_ws RX5 TX5 7, w ∈ wsX5_setMotif := by decide +kernel
  refine lv_aload_n hx hb dX5_setMotif_0 rfl (lv_at hl 0 rfl) ?_
  refine z_get (ref := RX5) (C := RX5) (T := TX5) (N := 7) hx hb hts hin5 hown hG t5 rfl 0 (by decide) (by decide +kernel) rfl rfl dX5_setMotif_1 ?_
  refine lv_iload_n hx hb dX5_setMotif_4 rfl (lv_at hl 1 rfl) ?_
  refine z_roVN (As := [.int (nI (r))]) (rest := []) (host := "CharmBracelets") (q := (RX3, TX3, 5)) S hG (c_X3_find_1 E (ad := ad) (b := 0) (v := nw) (i := r) hr ⟨hr0, hok.h16 r hr⟩) 1 gX5_setMotif_X3_find_n66 (List.mem_of_getElem? (i := 18) rfl) (by decide +kernel) rfl kX3_find.2 ⟨Nat.le_of_ble_eq_true rfl, Nat.le_of_ble_eq_true rfl⟩ ⟨Nat.zero_le _, Nat.zero_le _⟩ (hA) rfl h0 rfl hl.1 rfl rfl (Nat.le_of_ble_eq_true rfl) dX5_setMotif_5 ?_
  refine lv_astore (lv' := [(4, .ref (ad (0 + 9 + 2 * r))), (0, .ref (ad 287)), (1, .int (nI (r))), (2, .int (nI (j))), (3, .int (w))]) hx hb dX5_setMotif_8 hl (by decide) rfl (fun ls hl => ?_)
  refine lv_aload hx hb dX5_setMotif_10 (lv_at hl 0 rfl) ?_
  refine lv_ifnull hx hb dX5_setMotif_12 ?_
  refine lv_aload hx hb dX5_setMotif_15 (lv_at hl 0 rfl) ?_
  refine lv_iload_n hx hb dX5_setMotif_17 rfl (lv_at hl 3 rfl) ?_
  refine z_roVN (As := [.int (nI (j))]) (rest := []) (host := "CharmBracelets") (q := (RX2, TX2, 2)) S hG (c_X2_hasSlot E (n := (zSz nw r)) (f := (zKd nw r)) (x := (nI j)) hn) 1 gX5_setMotif_X2_hasSlot_n82 (List.mem_of_getElem? (i := 23) rfl) (by decide +kernel) rfl kX2_hasSlot.2 ⟨Nat.le_of_ble_eq_true rfl, Nat.le_of_ble_eq_true rfl⟩ ⟨Nat.zero_le _, Nat.zero_le _⟩ (hR r (by omega)) rfl (hR r (by omega)).1 rfl hl.1 rfl rfl (Nat.le_of_ble_eq_true rfl) dX5_setMotif_18 ?_
  refine z_bne (tgt := 26) hx hb dX5_setMotif_21 (by decide) (fun c_1 => ?_) (fun c_1 => by exfalso; rw [zin_y (by omega) (by omega) (by omega)] at c_1; cases c_1)
  refine lv_iload_n hx hb dX5_setMotif_26 rfl (lv_at hl 4 rfl) ?_
  refine lv_iconst (v := nI (1)) hx hb dX5_setMotif_27 (by decide) ?_
  refine lv_icmp_lt (tgt := 46) hx hb dX5_setMotif_28 (by decide) (fun c_2 => ?_) (fun c_2 => ?_)
  · refine lv_bipush (v := (-2)) hx hb dX5_setMotif_46 (by decide) ?_
    exact hret _ _ _ _ _ hS (hz) dX5_setMotif_48 (rfl) (zsc hp hX)
  · refine lv_iload_n hx hb dX5_setMotif_31 rfl (lv_at hl 4 rfl) ?_
    refine lv_bipush (v := nI (6)) hx hb dX5_setMotif_32 (by decide) ?_
    refine lv_icmp_gt (tgt := 46) hx hb dX5_setMotif_34 (by decide) (fun c_3 => ?_) (fun c_3 => ?_)
    · refine lv_bipush (v := (-2)) hx hb dX5_setMotif_46 (by decide) ?_
      exact hret _ _ _ _ _ hS (hz) dX5_setMotif_48 (rfl) (zsc hp hX)
    · refine lv_iload_n hx hb dX5_setMotif_37 rfl (lv_at hl 4 rfl) ?_
      refine lv_aload hx hb dX5_setMotif_38 (lv_at hl 0 rfl) ?_
      refine z_getN (own := RX5) (ref := RX2) (host := "CharmBracelets") (C := RX2) (T := TX2) (N := 2) hx hb hts hin2 hown hG (hR r (by omega)).1 rfl 0 (by decide) (List.mem_of_getElem? (i := 4) rfl) rfl rfl dX5_setMotif_40 ?_
      refine lv_icmp_le (tgt := 49) hx hb dX5_setMotif_43 (by decide) (fun c_4 => by exfalso; exact zin_c4 hw hn c_2 c_3 c_4) (fun c_4 => ?_)
      refine lv_bipush (v := (-2)) hx hb dX5_setMotif_46 (by decide) ?_
      exact hret _ _ _ _ _ hS (hz) dX5_setMotif_48 (rfl) (zsc hp hX)

set_option maxHeartbeats 4000000 in
set_option maxRecDepth 100000 in
theorem c_X5_setMotif_3 (E : zEnv) {ad : Nat → Nat} {nw sv : zS} {an : Bool} {hs : Nat → zS} {ct ln : Nat} {cd : Nat → Int32} {r j w : Nat} (hok : zOk nw) (hinj : zInj ad) (hct : ct ≤ 5) (hr : r < 6) (hr0 : zSz nw r ≠ 0) (hj : j < (zSz nw r)) (hw : 1 ≤ w ∧ w ≤ 6 ∧ w ≤ (zSz nw r)) : zWR E yX5_setMotif wsX5_setMotif 5 145 [.ref (ad 287), .int (nI (r)), .int (nI (j)), .int (nI (w))] (fun H => zCW E ad nw sv an hs ct ln cd H) (some (.int (zjb (zset (zmt w (zpm (fun u => zimg (zSz nw r) (zKd nw r) (zls (zSz nw r) (zKd nw r) 1) ((j + u) % (zSz nw r))) (zSg nw) w) (zSz nw r) (zKd nw r)) (zSz nw r))))) (fun H => zCW E ad (zsMo nw (w) (zpm (fun u => zimg (zSz nw r) (zKd nw r) (zls (zSz nw r) (zKd nw r) 1) ((j + u) % (zSz nw r))) (zSg nw) (w))) sv an (zrH hs ct nw) (zrC ct) ln cd H) (zAC ad) := by
  refine zWR.ofI (maxL := 7) rfl (Nat.le_of_ble_eq_true rfl) (fun p e s m args below meth c H Q hF hP hret ls hl => ?_)
  have S : CallFix p m c cX5_setMotif 7 s args wsX5_setMotif RX5 := hF.1
  have hG := hF.2
  obtain ⟨hx, hb, hml, hown, hts⟩ := id S
  have hS : va_S (zAC ad) H H [] := va_S.rf
  obtain ⟨locs, hlocs⟩ : ∃ x : List Loc, x = [] := ⟨_, rfl⟩
  rw [← hlocs] at hS ⊢
  have hz : H.size = H.size := rfl
  obtain ⟨π, tn, tt, nb, tf, hp, hX⟩ := hP
  obtain ⟨hA, hsv, hhs, t5, t8, t9, t10, t11⟩ := id hX
  obtain ⟨h0, h1, h2, h3, h4, h5, h6, h7, hR⟩ := id hA
  have hn := hok.sz hr hr0
  have hl : lv_has ls 7 [(0, .ref (ad 287)), (1, .int (nI (r))), (2, .int (nI (j))), (3, .int (nI (w)))] := hl
  have hin2 : ∀ w ∈ u_ws RX2 TX2 2, w ∈ wsX5_setMotif := by decide +kernel
  have hin3 : ∀ w ∈ u_ws RX3 TX3 5, w ∈ wsX5_setMotif := by decide +kernel
  have hin5 : ∀ w ∈ u_ws RX5 TX5 7, w ∈ wsX5_setMotif := by decide +kernel
  refine lv_aload_n hx hb dX5_setMotif_0 rfl (lv_at hl 0 rfl) ?_
  refine z_get (ref := RX5) (C := RX5) (T := TX5) (N := 7) hx hb hts hin5 hown hG t5 rfl 0 (by decide) (by decide +kernel) rfl rfl dX5_setMotif_1 ?_
  refine lv_iload_n hx hb dX5_setMotif_4 rfl (lv_at hl 1 rfl) ?_
  refine z_roVN (As := [.int (nI (r))]) (rest := []) (host := "CharmBracelets") (q := (RX3, TX3, 5)) S hG (c_X3_find_1 E (ad := ad) (b := 0) (v := nw) (i := r) hr ⟨hr0, hok.h16 r hr⟩) 1 gX5_setMotif_X3_find_n66 (List.mem_of_getElem? (i := 18) rfl) (by decide +kernel) rfl kX3_find.2 ⟨Nat.le_of_ble_eq_true rfl, Nat.le_of_ble_eq_true rfl⟩ ⟨Nat.zero_le _, Nat.zero_le _⟩ (hA) rfl h0 rfl hl.1 rfl rfl (Nat.le_of_ble_eq_true rfl) dX5_setMotif_5 ?_
  refine lv_astore (lv' := [(4, .ref (ad (0 + 9 + 2 * r))), (0, .ref (ad 287)), (1, .int (nI (r))), (2, .int (nI (j))), (3, .int (nI (w)))]) hx hb dX5_setMotif_8 hl (by decide) rfl (fun ls hl => ?_)
  refine lv_aload hx hb dX5_setMotif_10 (lv_at hl 0 rfl) ?_
  refine lv_ifnull hx hb dX5_setMotif_12 ?_
  refine lv_aload hx hb dX5_setMotif_15 (lv_at hl 0 rfl) ?_
  refine lv_iload_n hx hb dX5_setMotif_17 rfl (lv_at hl 3 rfl) ?_
  refine z_roVN (As := [.int (nI (j))]) (rest := []) (host := "CharmBracelets") (q := (RX2, TX2, 2)) S hG (c_X2_hasSlot E (n := (zSz nw r)) (f := (zKd nw r)) (x := (nI j)) hn) 1 gX5_setMotif_X2_hasSlot_n82 (List.mem_of_getElem? (i := 23) rfl) (by decide +kernel) rfl kX2_hasSlot.2 ⟨Nat.le_of_ble_eq_true rfl, Nat.le_of_ble_eq_true rfl⟩ ⟨Nat.zero_le _, Nat.zero_le _⟩ (hR r (by omega)) rfl (hR r (by omega)).1 rfl hl.1 rfl rfl (Nat.le_of_ble_eq_true rfl) dX5_setMotif_18 ?_
  refine z_bne (tgt := 26) hx hb dX5_setMotif_21 (by decide) (fun c_1 => ?_) (fun c_1 => by exfalso; rw [zin_y (by omega) (by omega) (by omega)] at c_1; cases c_1)
  refine lv_iload_n hx hb dX5_setMotif_26 rfl (lv_at hl 4 rfl) ?_
  refine lv_iconst (v := nI (1)) hx hb dX5_setMotif_27 (by decide) ?_
  refine z_clt (tgt := 46) hx hb dX5_setMotif_28 (by decide) ⟨by omega, by omega⟩ (fun c_2 => by exfalso; omega) (fun c_2 => ?_)
  refine lv_iload_n hx hb dX5_setMotif_31 rfl (lv_at hl 4 rfl) ?_
  refine lv_bipush (v := nI (6)) hx hb dX5_setMotif_32 (by decide) ?_
  refine z_cgt (tgt := 46) hx hb dX5_setMotif_34 (by decide) ⟨by omega, by omega⟩ (fun c_3 => by exfalso; omega) (fun c_3 => ?_)
  refine lv_iload_n hx hb dX5_setMotif_37 rfl (lv_at hl 4 rfl) ?_
  refine lv_aload hx hb dX5_setMotif_38 (lv_at hl 0 rfl) ?_
  refine z_getN (own := RX5) (ref := RX2) (host := "CharmBracelets") (C := RX2) (T := TX2) (N := 2) hx hb hts hin2 hown hG (hR r (by omega)).1 rfl 0 (by decide) (List.mem_of_getElem? (i := 4) rfl) rfl rfl dX5_setMotif_40 ?_
  refine z_cle (tgt := 49) hx hb dX5_setMotif_43 (by decide) ⟨by omega, by omega⟩ (fun c_4 => ?_) (fun c_4 => by exfalso; omega)
  refine lv_aload_n hx hb dX5_setMotif_49 rfl (lv_at hl 1 rfl) ?_
  refine z_wrV (As := []) (rest := []) (q := (RX5, TX5, 7)) S hG (c_X5_record E hinj hp hct) 0 gX5_setMotif_X5_record rfl kX5_record ⟨Nat.le_of_ble_eq_true rfl, Nat.le_of_ble_eq_true rfl⟩ ⟨Nat.zero_le _, Nat.zero_le _⟩ (hX) rfl t5 rfl hl.1 rfl rfl (Nat.le_of_ble_eq_true rfl) dX5_setMotif_50 hS (fun _ h => h) (fun Hn locs h_6 q_5 o_7 hS => ?_)
  have hz : Hn.size = H.size := q_5.trans hz
  obtain ⟨π, hp, hX⟩ := h_6
  obtain ⟨hA, hsv, hhs, t5, t8, t9, t10, t11⟩ := id hX
  obtain ⟨h0, h1, h2, h3, h4, h5, h6, h7, hR⟩ := id hA
  refine lv_aload hx hb dX5_setMotif_53 (lv_at hl 0 rfl) ?_
  refine lv_iconst (v := nI (1)) hx hb dX5_setMotif_55 (by decide) ?_
  refine z_roVN (As := [.int (nI (1))]) (rest := []) (host := "CharmBracelets") (q := (RX2, TX2, 2)) S hG (c_X2_leastChange E (n := (zSz nw r)) (f := (zKd nw r)) (lv := 1) hn (by decide)) 1 gX5_setMotif_X2_leastChange_n127 (List.mem_of_getElem? (i := 32) rfl) (by decide +kernel) rfl kX2_leastChange.2 ⟨Nat.le_of_ble_eq_true rfl, Nat.le_of_ble_eq_true rfl⟩ ⟨Nat.zero_le _, Nat.zero_le _⟩ (hR r (by omega)) rfl (hR r (by omega)).1 rfl hl.1 rfl rfl (Nat.le_of_ble_eq_true rfl) dX5_setMotif_56 ?_
  refine lv_istore (lv' := [(5, .int (nI (zls (zSz nw r) (zKd nw r) 1))), (4, .ref (ad (0 + 9 + 2 * r))), (0, .ref (ad 287)), (1, .int (nI (r))), (2, .int (nI (j))), (3, .int (nI (w)))]) hx hb dX5_setMotif_59 hl (by decide) rfl (fun ls hl => ?_)
  refine lv_aload_n hx hb dX5_setMotif_61 rfl (lv_at hl 2 rfl) ?_
  refine z_get (ref := RX5) (C := RX5) (T := TX5) (N := 7) hx hb hts hin5 hown hG t5 rfl 0 (by decide) (by decide +kernel) rfl rfl dX5_setMotif_62 ?_
  refine z_getN (own := RX5) (ref := RX3) (host := "CharmBracelets") (C := RX3) (T := TX3) (N := 5) hx hb hts hin3 hown hG h0 rfl 3 (by decide) (List.mem_of_getElem? (i := 11) rfl) rfl rfl dX5_setMotif_65 ?_
  refine z_wrVN (As := []) (rest := []) (host := "CharmBracelets") (q := (RX0, TX0, 2)) S hG (c_X0_becomeNone E (mo := ad (0 + 4)) (mk := ad (0 + 5)) (hinj.ne (by decide) (by decide) (by decide))) 0 gX5_setMotif_X0_becomeNone_n160 (List.mem_of_getElem? (i := 35) rfl) (by decide +kernel) rfl kX0_becomeNone.2 ⟨Nat.le_of_ble_eq_true rfl, Nat.le_of_ble_eq_true rfl⟩ ⟨Nat.zero_le _, Nat.zero_le _⟩ (h4) rfl h4.1 rfl hl.1 rfl rfl (Nat.le_of_ble_eq_true rfl) dX5_setMotif_68 hS (fun q h => h.elim (fun e => ⟨_, by decide, e⟩) (fun e => ⟨_, by decide, e⟩)) (fun Hn locs h_9 q_8 o_10 hS => ?_)
  have hz : Hn.size = H.size := q_8.trans hz
  have hA1 := zSt_mo hA hinj (by decide) o_10 h_9
  have hX := zX_now hinj hp hX (fun q hq => o_10 q (fun z => z.elim (hq (0 + 4) (by decide)) (hq (0 + 5) (by decide)))) hA1
  obtain ⟨hA, hsv, hhs, t5, t8, t9, t10, t11⟩ := id hX
  obtain ⟨h0, h1, h2, h3, h4, h5, h6, h7, hR⟩ := id hA
  refine lv_iconst (v := nI (0)) hx hb dX5_setMotif_71 (by decide) ?_
  refine lv_istore (lv' := [(6, .int (nI (0))), (5, .int (nI (zls (zSz nw r) (zKd nw r) 1))), (4, .ref (ad (0 + 9 + 2 * r))), (0, .ref (ad 287)), (1, .int (nI (r))), (2, .int (nI (j))), (3, .int (nI (w)))]) hx hb dX5_setMotif_72 hl (by decide) rfl (fun ls hl => ?_)
  have L74 : ∀ (dd : Nat) (u : Nat), w - u < dd → (u ≤ w) → ∀ (Hn : Heap) (locs : List Loc) (hS : va_S (zAC ad) H Hn locs) (hz : Hn.size = H.size) (hX : ∃ π : Nat → Nat, zPi π ∧ zCX E ad (zsMo nw (u) (zpm (fun u => zimg (zSz nw r) (zKd nw r) (zls (zSz nw r) (zKd nw r) 1) ((j + u) % (zSz nw r))) (zSg nw) (u))) sv an (zrH hs ct nw) (zrC ct) ln cd π tn tt nb tf Hn) (ls : Array Slot), lv_has ls 7 [(0, .ref (ad 287)), (1, .int (nI (r))), (2, .int (nI (j))), (3, .int (nI (w))), (4, .ref (ad (0 + 9 + 2 * r))), (5, .int (nI (zls (zSz nw r) (zKd nw r) 1))), (6, .int (nI (u)))] → W p (zl E) e (zRm 5 145) s m args below meth c Hn locs 0 0 Q (F0 m 74 ls []) := by
    intro dd
    induction dd with
    | zero => intro u hdd; exact absurd hdd (Nat.not_lt_zero _)
    | succ dd ih74 =>
      intro u hdd74 hu Hn locs hS hz hX ls hl
      obtain ⟨π, hp, hX⟩ := hX
      obtain ⟨hA, hsv, hhs, t5, t8, t9, t10, t11⟩ := id hX
      obtain ⟨h0, h1, h2, h3, h4, h5, h6, h7, hR⟩ := id hA
      refine lv_iload hx hb dX5_setMotif_74 (lv_at hl 6 rfl) ?_
      refine lv_iload_n hx hb dX5_setMotif_76 rfl (lv_at hl 3 rfl) ?_
      refine z_cge (tgt := 112) hx hb dX5_setMotif_77 (by decide) ⟨by omega, by omega⟩ (fun c_11 => ?_) (fun c_11 => ?_)
      · have e9 : u = w := by omega
        · subst e9
          refine lv_aload_n hx hb dX5_setMotif_112 rfl (lv_at hl 0 rfl) ?_
          refine z_get (ref := RX5) (C := RX5) (T := TX5) (N := 7) hx hb hts hin5 hown hG t5 rfl 0 (by decide) (by decide +kernel) rfl rfl dX5_setMotif_113 ?_
          refine z_getN (own := RX5) (ref := RX3) (host := "CharmBracelets") (C := RX3) (T := TX3) (N := 5) hx hb hts hin3 hown hG h0 rfl 3 (by decide) (List.mem_of_getElem? (i := 11) rfl) rfl rfl dX5_setMotif_116 ?_
          refine lv_aload hx hb dX5_setMotif_119 (lv_at hl 4 rfl) ?_
          refine z_roVN (As := [.ref (ad (0 + 9 + 2 * r))]) (rest := []) (host := "CharmBracelets") (q := (RX0, TX0, 2)) S hG (c_X0_slotSet E (mo := ad (0 + 4)) (mk := ad (0 + 5)) (ml := u) (sg := zpm (fun u => zimg (zSz nw r) (zKd nw r) (zls (zSz nw r) (zKd nw r) 1) ((j + u) % (zSz nw r))) (zSg nw) u) (n := (zSz nw r)) (f := (zKd nw r)) hn hw.2.1) 1 gX5_setMotif_X0_slotSet_n171 (List.mem_of_getElem? (i := 38) rfl) (by decide +kernel) rfl kX0_slotSet.2 ⟨Nat.le_of_ble_eq_true rfl, Nat.le_of_ble_eq_true rfl⟩ ⟨Nat.zero_le _, Nat.zero_le _⟩ (⟨h4, hR r (by omega)⟩) rfl h4.1 rfl hl.1 rfl rfl (Nat.le_of_ble_eq_true rfl) dX5_setMotif_121 ?_
          refine z_roSX (As := [.int (zset (zmt u (zpm (fun u => zimg (zSz nw r) (zKd nw r) (zls (zSz nw r) (zKd nw r) 1) ((j + u) % (zSz nw r))) (zSg nw) u) (zSz nw r) (zKd nw r)) (zSz nw r))]) (rest := []) S hG (c_J6_bitCount_0f7a4 E (x := zset (zmt u (zpm (fun u => zimg (zSz nw r) (zKd nw r) (zls (zSz nw r) (zKd nw r) 1) ((j + u) % (zSz nw r))) (zSg nw) u) (zSz nw r) (zKd nw r)) (zSz nw r))) 1 gX5_setMotif_J6_bitCount_0f7a4 rfl kJ6_bitCount_0f7a4.2 ⟨Nat.le_of_ble_eq_true rfl, Nat.le_of_ble_eq_true rfl⟩ ⟨Nat.zero_le _, Nat.zero_le _⟩ (trivial) rfl hl.1 rfl rfl (Nat.le_of_ble_eq_true rfl) dX5_setMotif_124 ?_
          exact hret _ _ _ _ _ hS (hz) dX5_setMotif_127 (rfl) (zsc hp hX)
      · refine lv_aload_n hx hb dX5_setMotif_80 rfl (lv_at hl 0 rfl) ?_
        refine z_get (ref := RX5) (C := RX5) (T := TX5) (N := 7) hx hb hts hin5 hown hG t5 rfl 0 (by decide) (by decide +kernel) rfl rfl dX5_setMotif_81 ?_
        refine z_getN (own := RX5) (ref := RX3) (host := "CharmBracelets") (C := RX3) (T := TX3) (N := 5) hx hb hts hin3 hown hG h0 rfl 3 (by decide) (List.mem_of_getElem? (i := 11) rfl) rfl rfl dX5_setMotif_84 ?_
        refine lv_aload hx hb dX5_setMotif_87 (lv_at hl 4 rfl) ?_
        refine lv_iload hx hb dX5_setMotif_89 (lv_at hl 5 rfl) ?_
        refine lv_aload hx hb dX5_setMotif_91 (lv_at hl 4 rfl) ?_
        refine lv_iload_n hx hb dX5_setMotif_93 rfl (lv_at hl 2 rfl) ?_
        refine lv_iload hx hb dX5_setMotif_94 (lv_at hl 6 rfl) ?_
        refine z_iadd hx hb dX5_setMotif_96 ?_
        refine z_roVN (As := [.int (nI (j + u))]) (rest := [.int (nI (zls (zSz nw r) (zKd nw r) 1)), .ref (ad (0 + 9 + 2 * r)), .ref (ad (0 + 4))]) (host := "CharmBracelets") (q := (RX2, TX2, 2)) S hG (c_X2_around_n E (n := (zSz nw r)) (f := (zKd nw r)) (j := j + u) (by omega)) 1 gX5_setMotif_X2_around_n165 (List.mem_of_getElem? (i := 36) rfl) (by decide +kernel) rfl kX2_around.2 ⟨Nat.le_of_ble_eq_true rfl, Nat.le_of_ble_eq_true rfl⟩ ⟨Nat.zero_le _, Nat.zero_le _⟩ (hR r (by omega)) rfl (hR r (by omega)).1 rfl hl.1 rfl rfl (Nat.le_of_ble_eq_true rfl) dX5_setMotif_97 ?_
        refine z_top (y := nI ((j + u) % (zSz nw r))) (by split; rw [Nat.mod_eq_of_lt ‹_›]; rw [zmod_1 (by omega) (by omega)]) ?_
        refine z_roVN (As := [.int (nI (zls (zSz nw r) (zKd nw r) 1)), .int (nI ((j + u) % (zSz nw r)))]) (rest := [.ref (ad (0 + 4))]) (host := "CharmBracelets") (q := (RX2, TX2, 2)) S hG (c_X2_kindAfter E (n := (zSz nw r)) (f := (zKd nw r)) (ch := zls (zSz nw r) (zKd nw r) 1) (j := (j + u) % (zSz nw r)) ⟨Nat.mod_lt _ hn.1, zls_lt hn.1 (by decide), hn.2⟩) 2 gX5_setMotif_X2_kindAfter_n130 (List.mem_of_getElem? (i := 31) rfl) (by decide +kernel) rfl kX2_kindAfter.2 ⟨Nat.le_of_ble_eq_true rfl, Nat.le_of_ble_eq_true rfl⟩ ⟨Nat.zero_le _, Nat.zero_le _⟩ (hR r (by omega)) rfl (hR r (by omega)).1 rfl hl.1 rfl rfl (Nat.le_of_ble_eq_true rfl) dX5_setMotif_100 ?_
        refine z_wrVN (As := [.int (zimg (zSz nw r) (zKd nw r) (zls (zSz nw r) (zKd nw r) 1) ((j + u) % (zSz nw r)))]) (rest := []) (host := "CharmBracelets") (q := (RX0, TX0, 2)) S hG (c_X0_addSign E (mo := ad (0 + 4)) (mk := ad (0 + 5)) (ml := u) (sg := zpm (fun u => zimg (zSz nw r) (zKd nw r) (zls (zSz nw r) (zKd nw r) 1) ((j + u) % (zSz nw r))) (zSg nw) u) (x := (fun u => zimg (zSz nw r) (zKd nw r) (zls (zSz nw r) (zKd nw r) 1) ((j + u) % (zSz nw r))) u) (hinj.ne (by decide) (by decide) (by decide)) (by omega)) 1 gX5_setMotif_X0_addSign_n168 (List.mem_of_getElem? (i := 37) rfl) (by decide +kernel) rfl kX0_addSign.2 ⟨Nat.le_of_ble_eq_true rfl, Nat.le_of_ble_eq_true rfl⟩ ⟨Nat.zero_le _, Nat.zero_le _⟩ (h4) rfl h4.1 rfl hl.1 rfl rfl (Nat.le_of_ble_eq_true rfl) dX5_setMotif_103 hS (fun q h => h.elim (fun e => ⟨_, by decide, e⟩) (fun e => ⟨_, by decide, e⟩)) (fun Hn locs h_13 q_12 o_14 hS => ?_)
        have hz : Hn.size = H.size := q_12.trans hz
        have hA1 := zSt_mo hA hinj (by decide) o_14 h_13
        have hX := zX_now hinj hp hX (fun q hq => o_14 q (fun z => z.elim (hq (0 + 4) (by decide)) (hq (0 + 5) (by decide)))) hA1
        obtain ⟨hA, hsv, hhs, t5, t8, t9, t10, t11⟩ := id hX
        obtain ⟨h0, h1, h2, h3, h4, h5, h6, h7, hR⟩ := id hA
        refine lv_iinc (v := nI (u + 1)) (lv' := [(6, .int (nI (u + 1))), (0, .ref (ad 287)), (1, .int (nI (r))), (2, .int (nI (j))), (3, .int (nI (w))), (4, .ref (ad (0 + 9 + 2 * r))), (5, .int (nI (zls (zSz nw r) (zKd nw r) 1)))]) hx hb dX5_setMotif_106 hl (k := 6) rfl (z_inc1 _) (by decide) rfl (fun ls hl => ?_)
        refine lv_goto (tgt := 74) hx hb dX5_setMotif_109 (by decide) ?_
        have hl9 := lv_sub hl [1, 2, 3, 4, 5, 6, 0] (l' := [(0, .ref (ad 287)), (1, .int (nI (r))), (2, .int (nI (j))), (3, .int (nI (w))), (4, .ref (ad (0 + 9 + 2 * r))), (5, .int (nI (zls (zSz nw r) (zKd nw r) 1))), (6, .int (nI (u + 1)))]) rfl
        have e9_6 : (u + 1) = ((u + 1)) := by omega
        exact ih74 (u + 1) (by omega) (by omega) _ _ hS hz (⟨π, hp, by rw [← zpm_s]; exact hX⟩) ls (by rw [← e9_6]; exact hl9)
  exact L74 ((w - (0)) + 1) (0) (Nat.lt_succ_self _) (Nat.zero_le _) _ _ hS hz (⟨π, hp, by rw [zpm_0]; exact hX⟩) ls (lv_sub hl [3, 4, 5, 6, 2, 1, 0] rfl)

set_option maxHeartbeats 4000000 in
set_option maxRecDepth 100000 in
theorem c_X5_sign_0 (E : zEnv) {ad : Nat → Nat} {nw sv : zS} {an : Bool} {hs : Nat → zS} {ct ln : Nat} {cd : Nat → Int32} {x y : Int32} (hok : zOk nw) (hinj : zInj ad) (hct : ct ≤ 5) (hx1 : zin x 0 (min (zMl nw) 5) = false) : zWR E yX5_sign wsX5_sign 5 145 [.ref (ad 287), .int (x), .int (y)] (fun H => zCW E ad nw sv an hs ct ln cd H) (some (.int (-1))) (fun H => zCW E ad nw sv an hs ct ln cd H) (zAC ad) := by
  refine zWR.ofI (maxL := 4) rfl (Nat.le_of_ble_eq_true rfl) (fun p e s m args below meth c H Q hF hP hret ls hl => ?_)
  have S : CallFix p m c cX5_sign 4 s args wsX5_sign RX5 := hF.1
  have hG := hF.2
  obtain ⟨hx, hb, hml, hown, hts⟩ := id S
  have hS : va_S (zAC ad) H H [] := va_S.rf
  obtain ⟨locs, hlocs⟩ : ∃ x : List Loc, x = [] := ⟨_, rfl⟩
  rw [← hlocs] at hS ⊢
  have hz : H.size = H.size := rfl
  obtain ⟨π, tn, tt, nb, tf, hp, hX⟩ := hP
  obtain ⟨hA, hsv, hhs, t5, t8, t9, t10, t11⟩ := id hX
  obtain ⟨h0, h1, h2, h3, h4, h5, h6, h7, hR⟩ := id hA
  have hml6 := hok.2.2.2.1
  have hl : lv_has ls 4 [(0, .ref (ad 287)), (1, .int (x)), (2, .int (y))] := hl
  have hin0 : ∀ w ∈ u_ws RX0 TX0 2, w ∈ wsX5_sign := by decide +kernel
  have hin3 : ∀ w ∈ u_ws RX3 TX3 5, w ∈ wsX5_sign := by decide +kernel
  have hin5 : ∀ w ∈ u_ws RX5 TX5 7, w ∈ wsX5_sign := by decide +kernel
  refine lv_aload_n hx hb dX5_sign_0 rfl (lv_at hl 0 rfl) ?_
  refine z_get (ref := RX5) (C := RX5) (T := TX5) (N := 7) hx hb hts hin5 hown hG t5 rfl 0 (by decide) (by decide +kernel) rfl rfl dX5_sign_1 ?_
  refine z_getN (own := RX5) (ref := RX3) (host := "CharmBracelets") (C := RX3) (T := TX3) (N := 5) hx hb hts hin3 hown hG h0 rfl 3 (by decide) (List.mem_of_getElem? (i := 11) rfl) rfl rfl dX5_sign_4 ?_
  refine lv_astore_n (lv' := [(3, .ref (ad (0 + 4))), (0, .ref (ad 287)), (1, .int (x)), (2, .int (y))]) hx hb dX5_sign_7 rfl hl (by decide) rfl (fun ls hl => ?_)
  refine lv_iload_n hx hb dX5_sign_8 rfl (lv_at hl 2 rfl) ?_
  refine lv_if_lt (tgt := 26) hx hb dX5_sign_9 (by decide) (fun c_1 => ?_) (fun c_1 => ?_)
  · refine lv_iconst (v := (-1)) hx hb dX5_sign_26 (by decide) ?_
    exact hret _ _ _ _ _ hS (hz) dX5_sign_27 (rfl) (zsc hp hX)
  · refine lv_iload_n hx hb dX5_sign_12 rfl (lv_at hl 2 rfl) ?_
    refine lv_aload_n hx hb dX5_sign_13 rfl (lv_at hl 0 rfl) ?_
    refine z_getN (own := RX5) (ref := RX0) (host := "CharmBracelets") (C := RX0) (T := TX0) (N := 2) hx hb hts hin0 hown hG h4.1 rfl 0 (by decide) (List.mem_of_getElem? (i := 0) rfl) rfl rfl dX5_sign_14 ?_
    refine lv_icmp_gt (tgt := 26) hx hb dX5_sign_17 (by decide) (fun c_2 => ?_) (fun c_2 => ?_)
    · refine lv_iconst (v := (-1)) hx hb dX5_sign_26 (by decide) ?_
      exact hret _ _ _ _ _ hS (hz) dX5_sign_27 (rfl) (zsc hp hX)
    · refine lv_iload_n hx hb dX5_sign_20 rfl (lv_at hl 2 rfl) ?_
      refine lv_bipush (v := nI (6)) hx hb dX5_sign_21 (by decide) ?_
      refine lv_icmp_lt (tgt := 28) hx hb dX5_sign_23 (by decide) (fun c_3 => by exfalso; exact zin_c5 hx1 hml6 c_1 c_2 c_3) (fun c_3 => ?_)
      refine lv_iconst (v := (-1)) hx hb dX5_sign_26 (by decide) ?_
      exact hret _ _ _ _ _ hS (hz) dX5_sign_27 (rfl) (zsc hp hX)

set_option maxHeartbeats 4000000 in
set_option maxRecDepth 100000 in
theorem c_X5_sign_1 (E : zEnv) {ad : Nat → Nat} {nw sv : zS} {an : Bool} {hs : Nat → zS} {ct ln : Nat} {cd : Nat → Int32} {i : Nat} {y : Int32} (hok : zOk nw) (hinj : zInj ad) (hct : ct ≤ 5) (hi6 : i ≤ zMl nw ∧ i < 6) (hy : zin y 0 5 = false) (hy9 : ¬ y = nI 9) : zWR E yX5_sign wsX5_sign 5 145 [.ref (ad 287), .int (nI (i)), .int (y)] (fun H => zCW E ad nw sv an hs ct ln cd H) (some (.int (-2))) (fun H => zCW E ad nw sv an hs ct ln cd H) (zAC ad) := by
  refine zWR.ofI (maxL := 4) rfl (Nat.le_of_ble_eq_true rfl) (fun p e s m args below meth c H Q hF hP hret ls hl => ?_)
  have S : CallFix p m c cX5_sign 4 s args wsX5_sign RX5 := hF.1
  have hG := hF.2
  obtain ⟨hx, hb, hml, hown, hts⟩ := id S
  have hS : va_S (zAC ad) H H [] := va_S.rf
  obtain ⟨locs, hlocs⟩ : ∃ x : List Loc, x = [] := ⟨_, rfl⟩
  rw [← hlocs] at hS ⊢
  have hz : H.size = H.size := rfl
  obtain ⟨π, tn, tt, nb, tf, hp, hX⟩ := hP
  obtain ⟨hA, hsv, hhs, t5, t8, t9, t10, t11⟩ := id hX
  obtain ⟨h0, h1, h2, h3, h4, h5, h6, h7, hR⟩ := id hA
  have hml6 := hok.2.2.2.1
  have hl : lv_has ls 4 [(0, .ref (ad 287)), (1, .int (nI (i))), (2, .int (y))] := hl
  have hin0 : ∀ w ∈ u_ws RX0 TX0 2, w ∈ wsX5_sign := by decide +kernel
  have hin3 : ∀ w ∈ u_ws RX3 TX3 5, w ∈ wsX5_sign := by decide +kernel
  have hin5 : ∀ w ∈ u_ws RX5 TX5 7, w ∈ wsX5_sign := by decide +kernel
  refine lv_aload_n hx hb dX5_sign_0 rfl (lv_at hl 0 rfl) ?_
  refine z_get (ref := RX5) (C := RX5) (T := TX5) (N := 7) hx hb hts hin5 hown hG t5 rfl 0 (by decide) (by decide +kernel) rfl rfl dX5_sign_1 ?_
  refine z_getN (own := RX5) (ref := RX3) (host := "CharmBracelets") (C := RX3) (T := TX3) (N := 5) hx hb hts hin3 hown hG h0 rfl 3 (by decide) (List.mem_of_getElem? (i := 11) rfl) rfl rfl dX5_sign_4 ?_
  refine lv_astore_n (lv' := [(3, .ref (ad (0 + 4))), (0, .ref (ad 287)), (1, .int (nI (i))), (2, .int (y))]) hx hb dX5_sign_7 rfl hl (by decide) rfl (fun ls hl => ?_)
  refine lv_iload_n hx hb dX5_sign_8 rfl (lv_at hl 2 rfl) ?_
  refine z_flt (tgt := 26) hx hb dX5_sign_9 (by decide) (by omega) ?_
  refine lv_iload_n hx hb dX5_sign_12 rfl (lv_at hl 2 rfl) ?_
  refine lv_aload_n hx hb dX5_sign_13 rfl (lv_at hl 0 rfl) ?_
  refine z_getN (own := RX5) (ref := RX0) (host := "CharmBracelets") (C := RX0) (T := TX0) (N := 2) hx hb hts hin0 hown hG h4.1 rfl 0 (by decide) (List.mem_of_getElem? (i := 0) rfl) rfl rfl dX5_sign_14 ?_
  refine z_cgt (tgt := 26) hx hb dX5_sign_17 (by decide) ⟨by omega, by omega⟩ (fun c_2 => by exfalso; omega) (fun c_2 => ?_)
  refine lv_iload_n hx hb dX5_sign_20 rfl (lv_at hl 2 rfl) ?_
  refine lv_bipush (v := nI (6)) hx hb dX5_sign_21 (by decide) ?_
  refine z_clt (tgt := 28) hx hb dX5_sign_23 (by decide) ⟨by omega, by omega⟩ (fun c_3 => ?_) (fun c_3 => by exfalso; omega)
  refine lv_iload_n hx hb dX5_sign_28 rfl (lv_at hl 3 rfl) ?_
  refine z_roSX (As := [.int (y)]) (rest := []) S hG (c_X5_isKindOrEmpty E) 1 gX5_sign_X5_isKindOrEmpty rfl kX5_isKindOrEmpty.2 ⟨Nat.le_of_ble_eq_true rfl, Nat.le_of_ble_eq_true rfl⟩ ⟨Nat.zero_le _, Nat.zero_le _⟩ (trivial) rfl hl.1 rfl rfl (Nat.le_of_ble_eq_true rfl) dX5_sign_29 ?_
  refine z_bne (tgt := 44) hx hb dX5_sign_32 (by decide) (fun c_4 => by exfalso; rw [hy] at c_4; cases c_4) (fun c_4 => ?_)
  refine lv_iload_n hx hb dX5_sign_35 rfl (lv_at hl 3 rfl) ?_
  refine lv_bipush (v := nI (9)) hx hb dX5_sign_36 (by decide) ?_
  refine lv_icmp_eq (tgt := 44) hx hb dX5_sign_38 (by decide) (fun c_5 => by exfalso; exact hy9 c_5) (fun c_5 => ?_)
  refine lv_bipush (v := (-2)) hx hb dX5_sign_41 (by decide) ?_
  exact hret _ _ _ _ _ hS (hz) dX5_sign_43 (rfl) (zsc hp hX)

set_option maxHeartbeats 4000000 in
set_option maxRecDepth 100000 in
theorem c_X5_sign_2k (E : zEnv) {ad : Nat → Nat} {nw sv : zS} {an : Bool} {hs : Nat → zS} {ct ln : Nat} {cd : Nat → Int32} {i : Nat} {y : Int32} (hok : zOk nw) (hinj : zInj ad) (hct : ct ≤ 5) (hi6 : i < zMl nw) (hy : zin y 0 5 = true) : zWR E yX5_sign wsX5_sign 5 145 [.ref (ad 287), .int (nI (i)), .int (y)] (fun H => zCW E ad nw sv an hs ct ln cd H) (some (.int (nI (zMl nw)))) (fun H => zCW E ad (zsMo nw (zMl nw) (upd (zSg nw) i y)) sv an (zrH hs ct nw) (zrC ct) ln cd H) (zAC ad) := by
  refine zWR.ofI (maxL := 4) rfl (Nat.le_of_ble_eq_true rfl) (fun p e s m args below meth c H Q hF hP hret ls hl => ?_)
  have S : CallFix p m c cX5_sign 4 s args wsX5_sign RX5 := hF.1
  have hG := hF.2
  obtain ⟨hx, hb, hml, hown, hts⟩ := id S
  have hS : va_S (zAC ad) H H [] := va_S.rf
  obtain ⟨locs, hlocs⟩ : ∃ x : List Loc, x = [] := ⟨_, rfl⟩
  rw [← hlocs] at hS ⊢
  have hz : H.size = H.size := rfl
  obtain ⟨π, tn, tt, nb, tf, hp, hX⟩ := hP
  obtain ⟨hA, hsv, hhs, t5, t8, t9, t10, t11⟩ := id hX
  obtain ⟨h0, h1, h2, h3, h4, h5, h6, h7, hR⟩ := id hA
  have hml6 := hok.2.2.2.1
  have hl : lv_has ls 4 [(0, .ref (ad 287)), (1, .int (nI (i))), (2, .int (y))] := hl
  have hin0 : ∀ w ∈ u_ws RX0 TX0 2, w ∈ wsX5_sign := by decide +kernel
  have hin3 : ∀ w ∈ u_ws RX3 TX3 5, w ∈ wsX5_sign := by decide +kernel
  have hin5 : ∀ w ∈ u_ws RX5 TX5 7, w ∈ wsX5_sign := by decide +kernel
  refine lv_aload_n hx hb dX5_sign_0 rfl (lv_at hl 0 rfl) ?_
  refine z_get (ref := RX5) (C := RX5) (T := TX5) (N := 7) hx hb hts hin5 hown hG t5 rfl 0 (by decide) (by decide +kernel) rfl rfl dX5_sign_1 ?_
  refine z_getN (own := RX5) (ref := RX3) (host := "CharmBracelets") (C := RX3) (T := TX3) (N := 5) hx hb hts hin3 hown hG h0 rfl 3 (by decide) (List.mem_of_getElem? (i := 11) rfl) rfl rfl dX5_sign_4 ?_
  refine lv_astore_n (lv' := [(3, .ref (ad (0 + 4))), (0, .ref (ad 287)), (1, .int (nI (i))), (2, .int (y))]) hx hb dX5_sign_7 rfl hl (by decide) rfl (fun ls hl => ?_)
  refine lv_iload_n hx hb dX5_sign_8 rfl (lv_at hl 2 rfl) ?_
  refine z_flt (tgt := 26) hx hb dX5_sign_9 (by decide) (by omega) ?_
  refine lv_iload_n hx hb dX5_sign_12 rfl (lv_at hl 2 rfl) ?_
  refine lv_aload_n hx hb dX5_sign_13 rfl (lv_at hl 0 rfl) ?_
  refine z_getN (own := RX5) (ref := RX0) (host := "CharmBracelets") (C := RX0) (T := TX0) (N := 2) hx hb hts hin0 hown hG h4.1 rfl 0 (by decide) (List.mem_of_getElem? (i := 0) rfl) rfl rfl dX5_sign_14 ?_
  refine z_cgt (tgt := 26) hx hb dX5_sign_17 (by decide) ⟨by omega, by omega⟩ (fun c_2 => by exfalso; omega) (fun c_2 => ?_)
  refine lv_iload_n hx hb dX5_sign_20 rfl (lv_at hl 2 rfl) ?_
  refine lv_bipush (v := nI (6)) hx hb dX5_sign_21 (by decide) ?_
  refine z_clt (tgt := 28) hx hb dX5_sign_23 (by decide) ⟨by omega, by omega⟩ (fun c_3 => ?_) (fun c_3 => by exfalso; omega)
  refine lv_iload_n hx hb dX5_sign_28 rfl (lv_at hl 3 rfl) ?_
  refine z_roSX (As := [.int (y)]) (rest := []) S hG (c_X5_isKindOrEmpty E) 1 gX5_sign_X5_isKindOrEmpty rfl kX5_isKindOrEmpty.2 ⟨Nat.le_of_ble_eq_true rfl, Nat.le_of_ble_eq_true rfl⟩ ⟨Nat.zero_le _, Nat.zero_le _⟩ (trivial) rfl hl.1 rfl rfl (Nat.le_of_ble_eq_true rfl) dX5_sign_29 ?_
  refine z_bne (tgt := 44) hx hb dX5_sign_32 (by decide) (fun c_4 => ?_) (fun c_4 => by exfalso; rw [hy] at c_4; cases c_4)
  refine lv_aload_n hx hb dX5_sign_44 rfl (lv_at hl 1 rfl) ?_
  refine z_wrV (As := []) (rest := []) (q := (RX5, TX5, 7)) S hG (c_X5_record E hinj hp hct) 0 gX5_sign_X5_record rfl kX5_record ⟨Nat.le_of_ble_eq_true rfl, Nat.le_of_ble_eq_true rfl⟩ ⟨Nat.zero_le _, Nat.zero_le _⟩ (hX) rfl t5 rfl hl.1 rfl rfl (Nat.le_of_ble_eq_true rfl) dX5_sign_45 hS (fun _ h => h) (fun Hn locs h_6 q_5 o_7 hS => ?_)
  have hz : Hn.size = H.size := q_5.trans hz
  obtain ⟨π, hp, hX⟩ := h_6
  obtain ⟨hA, hsv, hhs, t5, t8, t9, t10, t11⟩ := id hX
  obtain ⟨h0, h1, h2, h3, h4, h5, h6, h7, hR⟩ := id hA
  refine lv_iload_n hx hb dX5_sign_48 rfl (lv_at hl 2 rfl) ?_
  refine lv_aload_n hx hb dX5_sign_49 rfl (lv_at hl 0 rfl) ?_
  refine z_getN (own := RX5) (ref := RX0) (host := "CharmBracelets") (C := RX0) (T := TX0) (N := 2) hx hb hts hin0 hown hG h4.1 rfl 0 (by decide) (List.mem_of_getElem? (i := 0) rfl) rfl rfl dX5_sign_50 ?_
  refine z_cne (tgt := 64) hx hb dX5_sign_53 (by decide) ⟨by omega, by omega⟩ (fun c_8 => ?_) (fun c_8 => by exfalso; omega)
  refine lv_aload_n hx hb dX5_sign_64 rfl (lv_at hl 0 rfl) ?_
  refine z_getN (own := RX5) (ref := RX0) (host := "CharmBracelets") (C := RX0) (T := TX0) (N := 2) hx hb hts hin0 hown hG h4.1 rfl 1 (by decide) (List.mem_of_getElem? (i := 1) rfl) rfl rfl dX5_sign_65 ?_
  refine lv_iload_n hx hb dX5_sign_68 rfl (lv_at hl 2 rfl) ?_
  refine lv_iload_n hx hb dX5_sign_69 rfl (lv_at hl 3 rfl) ?_
  refine z_iast (j := i) hx hb hG h4.2 ⟨by omega, by omega⟩ hS (⟨5, by decide, rfl⟩) dX5_sign_70 (fun Hn locs h_9 o_10 hS => ?_)
  have h4n : zMo E (ad (0 + 4)) (ad (0 + 5)) (zMl nw) (upd (zSg nw) i y) Hn := ⟨va_at.kept h4.1 (o_10.2 _ (hinj.ne (by decide) (by decide) (by decide))), h_9⟩
  have hA1 := zSt_mo hA hinj (by decide) (fun q hq => o_10.2 q (fun z => hq (Or.inr z))) h4n
  have hX := zX_now hinj hp hX (fun q hq => o_10.2 q (hq (0 + 5) (by decide))) hA1
  have hz : Hn.size = H.size := o_10.1.trans hz
  obtain ⟨hA, hsv, hhs, t5, t8, t9, t10, t11⟩ := id hX
  obtain ⟨h0, h1, h2, h3, h4, h5, h6, h7, hR⟩ := id hA
  refine lv_aload_n hx hb dX5_sign_71 rfl (lv_at hl 0 rfl) ?_
  refine z_getN (own := RX5) (ref := RX0) (host := "CharmBracelets") (C := RX0) (T := TX0) (N := 2) hx hb hts hin0 hown hG h4.1 rfl 0 (by decide) (List.mem_of_getElem? (i := 0) rfl) rfl rfl dX5_sign_72 ?_
  exact hret _ _ _ _ _ hS (hz) dX5_sign_75 (rfl) (zsc hp hX)

set_option maxHeartbeats 4000000 in
set_option maxRecDepth 100000 in
theorem c_X5_sign_3k (E : zEnv) {ad : Nat → Nat} {nw sv : zS} {an : Bool} {hs : Nat → zS} {ct ln : Nat} {cd : Nat → Int32} {i : Nat} {y : Int32} (hok : zOk nw) (hinj : zInj ad) (hct : ct ≤ 5) (hi6 : i = zMl nw ∧ i < 6) (hy : zin y 0 5 = true) : zWR E yX5_sign wsX5_sign 5 145 [.ref (ad 287), .int (nI (i)), .int (y)] (fun H => zCW E ad nw sv an hs ct ln cd H) (some (.int (nI (zMl nw + 1)))) (fun H => zCW E ad (zsMo nw (zMl nw + 1) (upd (zSg nw) (zMl nw) y)) sv an (zrH hs ct nw) (zrC ct) ln cd H) (zAC ad) := by
  refine zWR.ofI (maxL := 4) rfl (Nat.le_of_ble_eq_true rfl) (fun p e s m args below meth c H Q hF hP hret ls hl => ?_)
  have S : CallFix p m c cX5_sign 4 s args wsX5_sign RX5 := hF.1
  have hG := hF.2
  obtain ⟨hx, hb, hml, hown, hts⟩ := id S
  have hS : va_S (zAC ad) H H [] := va_S.rf
  obtain ⟨locs, hlocs⟩ : ∃ x : List Loc, x = [] := ⟨_, rfl⟩
  rw [← hlocs] at hS ⊢
  have hz : H.size = H.size := rfl
  obtain ⟨π, tn, tt, nb, tf, hp, hX⟩ := hP
  obtain ⟨hA, hsv, hhs, t5, t8, t9, t10, t11⟩ := id hX
  obtain ⟨h0, h1, h2, h3, h4, h5, h6, h7, hR⟩ := id hA
  have hml6 := hok.2.2.2.1
  have hl : lv_has ls 4 [(0, .ref (ad 287)), (1, .int (nI (i))), (2, .int (y))] := hl
  have hin0 : ∀ w ∈ u_ws RX0 TX0 2, w ∈ wsX5_sign := by decide +kernel
  have hin3 : ∀ w ∈ u_ws RX3 TX3 5, w ∈ wsX5_sign := by decide +kernel
  have hin5 : ∀ w ∈ u_ws RX5 TX5 7, w ∈ wsX5_sign := by decide +kernel
  refine lv_aload_n hx hb dX5_sign_0 rfl (lv_at hl 0 rfl) ?_
  refine z_get (ref := RX5) (C := RX5) (T := TX5) (N := 7) hx hb hts hin5 hown hG t5 rfl 0 (by decide) (by decide +kernel) rfl rfl dX5_sign_1 ?_
  refine z_getN (own := RX5) (ref := RX3) (host := "CharmBracelets") (C := RX3) (T := TX3) (N := 5) hx hb hts hin3 hown hG h0 rfl 3 (by decide) (List.mem_of_getElem? (i := 11) rfl) rfl rfl dX5_sign_4 ?_
  refine lv_astore_n (lv' := [(3, .ref (ad (0 + 4))), (0, .ref (ad 287)), (1, .int (nI (i))), (2, .int (y))]) hx hb dX5_sign_7 rfl hl (by decide) rfl (fun ls hl => ?_)
  refine lv_iload_n hx hb dX5_sign_8 rfl (lv_at hl 2 rfl) ?_
  refine z_flt (tgt := 26) hx hb dX5_sign_9 (by decide) (by omega) ?_
  refine lv_iload_n hx hb dX5_sign_12 rfl (lv_at hl 2 rfl) ?_
  refine lv_aload_n hx hb dX5_sign_13 rfl (lv_at hl 0 rfl) ?_
  refine z_getN (own := RX5) (ref := RX0) (host := "CharmBracelets") (C := RX0) (T := TX0) (N := 2) hx hb hts hin0 hown hG h4.1 rfl 0 (by decide) (List.mem_of_getElem? (i := 0) rfl) rfl rfl dX5_sign_14 ?_
  refine z_cgt (tgt := 26) hx hb dX5_sign_17 (by decide) ⟨by omega, by omega⟩ (fun c_2 => by exfalso; omega) (fun c_2 => ?_)
  refine lv_iload_n hx hb dX5_sign_20 rfl (lv_at hl 2 rfl) ?_
  refine lv_bipush (v := nI (6)) hx hb dX5_sign_21 (by decide) ?_
  refine z_clt (tgt := 28) hx hb dX5_sign_23 (by decide) ⟨by omega, by omega⟩ (fun c_3 => ?_) (fun c_3 => by exfalso; omega)
  refine lv_iload_n hx hb dX5_sign_28 rfl (lv_at hl 3 rfl) ?_
  refine z_roSX (As := [.int (y)]) (rest := []) S hG (c_X5_isKindOrEmpty E) 1 gX5_sign_X5_isKindOrEmpty rfl kX5_isKindOrEmpty.2 ⟨Nat.le_of_ble_eq_true rfl, Nat.le_of_ble_eq_true rfl⟩ ⟨Nat.zero_le _, Nat.zero_le _⟩ (trivial) rfl hl.1 rfl rfl (Nat.le_of_ble_eq_true rfl) dX5_sign_29 ?_
  refine z_bne (tgt := 44) hx hb dX5_sign_32 (by decide) (fun c_4 => ?_) (fun c_4 => by exfalso; rw [hy] at c_4; cases c_4)
  refine lv_aload_n hx hb dX5_sign_44 rfl (lv_at hl 1 rfl) ?_
  refine z_wrV (As := []) (rest := []) (q := (RX5, TX5, 7)) S hG (c_X5_record E hinj hp hct) 0 gX5_sign_X5_record rfl kX5_record ⟨Nat.le_of_ble_eq_true rfl, Nat.le_of_ble_eq_true rfl⟩ ⟨Nat.zero_le _, Nat.zero_le _⟩ (hX) rfl t5 rfl hl.1 rfl rfl (Nat.le_of_ble_eq_true rfl) dX5_sign_45 hS (fun _ h => h) (fun Hn locs h_6 q_5 o_7 hS => ?_)
  have hz : Hn.size = H.size := q_5.trans hz
  obtain ⟨π, hp, hX⟩ := h_6
  obtain ⟨hA, hsv, hhs, t5, t8, t9, t10, t11⟩ := id hX
  obtain ⟨h0, h1, h2, h3, h4, h5, h6, h7, hR⟩ := id hA
  refine lv_iload_n hx hb dX5_sign_48 rfl (lv_at hl 2 rfl) ?_
  refine lv_aload_n hx hb dX5_sign_49 rfl (lv_at hl 0 rfl) ?_
  refine z_getN (own := RX5) (ref := RX0) (host := "CharmBracelets") (C := RX0) (T := TX0) (N := 2) hx hb hts hin0 hown hG h4.1 rfl 0 (by decide) (List.mem_of_getElem? (i := 0) rfl) rfl rfl dX5_sign_50 ?_
  refine z_cne (tgt := 64) hx hb dX5_sign_53 (by decide) ⟨by omega, by omega⟩ (fun c_8 => by exfalso; omega) (fun c_8 => ?_)
  refine lv_aload_n hx hb dX5_sign_56 rfl (lv_at hl 0 rfl) ?_
  refine lv_iload_n hx hb dX5_sign_57 rfl (lv_at hl 3 rfl) ?_
  refine z_wrVN (As := [.int (y)]) (rest := []) (host := "CharmBracelets") (q := (RX0, TX0, 2)) S hG (c_X0_addSign E (mo := ad (0 + 4)) (mk := ad (0 + 5)) (ml := zMl nw) (sg := zSg nw) (x := y) (hinj.ne (by decide) (by decide) (by decide)) (by omega)) 1 gX5_sign_X0_addSign_n168 (List.mem_of_getElem? (i := 37) rfl) (by decide +kernel) rfl kX0_addSign.2 ⟨Nat.le_of_ble_eq_true rfl, Nat.le_of_ble_eq_true rfl⟩ ⟨Nat.zero_le _, Nat.zero_le _⟩ (h4) rfl h4.1 rfl hl.1 rfl rfl (Nat.le_of_ble_eq_true rfl) dX5_sign_58 hS (fun q h => h.elim (fun e => ⟨_, by decide, e⟩) (fun e => ⟨_, by decide, e⟩)) (fun Hn locs h_10 q_9 o_11 hS => ?_)
  have hz : Hn.size = H.size := q_9.trans hz
  have hA1 := zSt_mo hA hinj (by decide) o_11 h_10
  have hX := zX_now hinj hp hX (fun q hq => o_11 q (fun z => z.elim (hq (0 + 4) (by decide)) (hq (0 + 5) (by decide)))) hA1
  obtain ⟨hA, hsv, hhs, t5, t8, t9, t10, t11⟩ := id hX
  obtain ⟨h0, h1, h2, h3, h4, h5, h6, h7, hR⟩ := id hA
  refine lv_goto (tgt := 71) hx hb dX5_sign_61 (by decide) ?_
  refine lv_aload_n hx hb dX5_sign_71 rfl (lv_at hl 0 rfl) ?_
  refine z_getN (own := RX5) (ref := RX0) (host := "CharmBracelets") (C := RX0) (T := TX0) (N := 2) hx hb hts hin0 hown hG h4.1 rfl 0 (by decide) (List.mem_of_getElem? (i := 0) rfl) rfl rfl dX5_sign_72 ?_
  exact hret _ _ _ _ _ hS (hz) dX5_sign_75 (rfl) (zsc hp hX)

set_option maxHeartbeats 4000000 in
set_option maxRecDepth 100000 in
theorem c_X5_sign_2a (E : zEnv) {ad : Nat → Nat} {nw sv : zS} {an : Bool} {hs : Nat → zS} {ct ln : Nat} {cd : Nat → Int32} {i : Nat} {y : Int32} (hok : zOk nw) (hinj : zInj ad) (hct : ct ≤ 5) (hi6 : i < zMl nw) (hy : zin y 0 5 = false) (hy9 : y = nI 9) : zWR E yX5_sign wsX5_sign 5 145 [.ref (ad 287), .int (nI (i)), .int (y)] (fun H => zCW E ad nw sv an hs ct ln cd H) (some (.int (nI (zMl nw)))) (fun H => zCW E ad (zsMo nw (zMl nw) (upd (zSg nw) i y)) sv an (zrH hs ct nw) (zrC ct) ln cd H) (zAC ad) := by
  refine zWR.ofI (maxL := 4) rfl (Nat.le_of_ble_eq_true rfl) (fun p e s m args below meth c H Q hF hP hret ls hl => ?_)
  have S : CallFix p m c cX5_sign 4 s args wsX5_sign RX5 := hF.1
  have hG := hF.2
  obtain ⟨hx, hb, hml, hown, hts⟩ := id S
  have hS : va_S (zAC ad) H H [] := va_S.rf
  obtain ⟨locs, hlocs⟩ : ∃ x : List Loc, x = [] := ⟨_, rfl⟩
  rw [← hlocs] at hS ⊢
  have hz : H.size = H.size := rfl
  obtain ⟨π, tn, tt, nb, tf, hp, hX⟩ := hP
  obtain ⟨hA, hsv, hhs, t5, t8, t9, t10, t11⟩ := id hX
  obtain ⟨h0, h1, h2, h3, h4, h5, h6, h7, hR⟩ := id hA
  have hml6 := hok.2.2.2.1
  have hl : lv_has ls 4 [(0, .ref (ad 287)), (1, .int (nI (i))), (2, .int (y))] := hl
  have hin0 : ∀ w ∈ u_ws RX0 TX0 2, w ∈ wsX5_sign := by decide +kernel
  have hin3 : ∀ w ∈ u_ws RX3 TX3 5, w ∈ wsX5_sign := by decide +kernel
  have hin5 : ∀ w ∈ u_ws RX5 TX5 7, w ∈ wsX5_sign := by decide +kernel
  refine lv_aload_n hx hb dX5_sign_0 rfl (lv_at hl 0 rfl) ?_
  refine z_get (ref := RX5) (C := RX5) (T := TX5) (N := 7) hx hb hts hin5 hown hG t5 rfl 0 (by decide) (by decide +kernel) rfl rfl dX5_sign_1 ?_
  refine z_getN (own := RX5) (ref := RX3) (host := "CharmBracelets") (C := RX3) (T := TX3) (N := 5) hx hb hts hin3 hown hG h0 rfl 3 (by decide) (List.mem_of_getElem? (i := 11) rfl) rfl rfl dX5_sign_4 ?_
  refine lv_astore_n (lv' := [(3, .ref (ad (0 + 4))), (0, .ref (ad 287)), (1, .int (nI (i))), (2, .int (y))]) hx hb dX5_sign_7 rfl hl (by decide) rfl (fun ls hl => ?_)
  refine lv_iload_n hx hb dX5_sign_8 rfl (lv_at hl 2 rfl) ?_
  refine z_flt (tgt := 26) hx hb dX5_sign_9 (by decide) (by omega) ?_
  refine lv_iload_n hx hb dX5_sign_12 rfl (lv_at hl 2 rfl) ?_
  refine lv_aload_n hx hb dX5_sign_13 rfl (lv_at hl 0 rfl) ?_
  refine z_getN (own := RX5) (ref := RX0) (host := "CharmBracelets") (C := RX0) (T := TX0) (N := 2) hx hb hts hin0 hown hG h4.1 rfl 0 (by decide) (List.mem_of_getElem? (i := 0) rfl) rfl rfl dX5_sign_14 ?_
  refine z_cgt (tgt := 26) hx hb dX5_sign_17 (by decide) ⟨by omega, by omega⟩ (fun c_2 => by exfalso; omega) (fun c_2 => ?_)
  refine lv_iload_n hx hb dX5_sign_20 rfl (lv_at hl 2 rfl) ?_
  refine lv_bipush (v := nI (6)) hx hb dX5_sign_21 (by decide) ?_
  refine z_clt (tgt := 28) hx hb dX5_sign_23 (by decide) ⟨by omega, by omega⟩ (fun c_3 => ?_) (fun c_3 => by exfalso; omega)
  refine lv_iload_n hx hb dX5_sign_28 rfl (lv_at hl 3 rfl) ?_
  refine z_roSX (As := [.int (y)]) (rest := []) S hG (c_X5_isKindOrEmpty E) 1 gX5_sign_X5_isKindOrEmpty rfl kX5_isKindOrEmpty.2 ⟨Nat.le_of_ble_eq_true rfl, Nat.le_of_ble_eq_true rfl⟩ ⟨Nat.zero_le _, Nat.zero_le _⟩ (trivial) rfl hl.1 rfl rfl (Nat.le_of_ble_eq_true rfl) dX5_sign_29 ?_
  refine z_bne (tgt := 44) hx hb dX5_sign_32 (by decide) (fun c_4 => by exfalso; rw [hy] at c_4; cases c_4) (fun c_4 => ?_)
  refine lv_iload_n hx hb dX5_sign_35 rfl (lv_at hl 3 rfl) ?_
  refine lv_bipush (v := nI (9)) hx hb dX5_sign_36 (by decide) ?_
  refine lv_icmp_eq (tgt := 44) hx hb dX5_sign_38 (by decide) (fun c_5 => ?_) (fun c_5 => by exfalso; exact c_5 hy9)
  refine lv_aload_n hx hb dX5_sign_44 rfl (lv_at hl 1 rfl) ?_
  refine z_wrV (As := []) (rest := []) (q := (RX5, TX5, 7)) S hG (c_X5_record E hinj hp hct) 0 gX5_sign_X5_record rfl kX5_record ⟨Nat.le_of_ble_eq_true rfl, Nat.le_of_ble_eq_true rfl⟩ ⟨Nat.zero_le _, Nat.zero_le _⟩ (hX) rfl t5 rfl hl.1 rfl rfl (Nat.le_of_ble_eq_true rfl) dX5_sign_45 hS (fun _ h => h) (fun Hn locs h_7 q_6 o_8 hS => ?_)
  have hz : Hn.size = H.size := q_6.trans hz
  obtain ⟨π, hp, hX⟩ := h_7
  obtain ⟨hA, hsv, hhs, t5, t8, t9, t10, t11⟩ := id hX
  obtain ⟨h0, h1, h2, h3, h4, h5, h6, h7, hR⟩ := id hA
  refine lv_iload_n hx hb dX5_sign_48 rfl (lv_at hl 2 rfl) ?_
  refine lv_aload_n hx hb dX5_sign_49 rfl (lv_at hl 0 rfl) ?_
  refine z_getN (own := RX5) (ref := RX0) (host := "CharmBracelets") (C := RX0) (T := TX0) (N := 2) hx hb hts hin0 hown hG h4.1 rfl 0 (by decide) (List.mem_of_getElem? (i := 0) rfl) rfl rfl dX5_sign_50 ?_
  refine z_cne (tgt := 64) hx hb dX5_sign_53 (by decide) ⟨by omega, by omega⟩ (fun c_9 => ?_) (fun c_9 => by exfalso; omega)
  refine lv_aload_n hx hb dX5_sign_64 rfl (lv_at hl 0 rfl) ?_
  refine z_getN (own := RX5) (ref := RX0) (host := "CharmBracelets") (C := RX0) (T := TX0) (N := 2) hx hb hts hin0 hown hG h4.1 rfl 1 (by decide) (List.mem_of_getElem? (i := 1) rfl) rfl rfl dX5_sign_65 ?_
  refine lv_iload_n hx hb dX5_sign_68 rfl (lv_at hl 2 rfl) ?_
  refine lv_iload_n hx hb dX5_sign_69 rfl (lv_at hl 3 rfl) ?_
  refine z_iast (j := i) hx hb hG h4.2 ⟨by omega, by omega⟩ hS (⟨5, by decide, rfl⟩) dX5_sign_70 (fun Hn locs h_10 o_11 hS => ?_)
  have h4n : zMo E (ad (0 + 4)) (ad (0 + 5)) (zMl nw) (upd (zSg nw) i y) Hn := ⟨va_at.kept h4.1 (o_11.2 _ (hinj.ne (by decide) (by decide) (by decide))), h_10⟩
  have hA1 := zSt_mo hA hinj (by decide) (fun q hq => o_11.2 q (fun z => hq (Or.inr z))) h4n
  have hX := zX_now hinj hp hX (fun q hq => o_11.2 q (hq (0 + 5) (by decide))) hA1
  have hz : Hn.size = H.size := o_11.1.trans hz
  obtain ⟨hA, hsv, hhs, t5, t8, t9, t10, t11⟩ := id hX
  obtain ⟨h0, h1, h2, h3, h4, h5, h6, h7, hR⟩ := id hA
  refine lv_aload_n hx hb dX5_sign_71 rfl (lv_at hl 0 rfl) ?_
  refine z_getN (own := RX5) (ref := RX0) (host := "CharmBracelets") (C := RX0) (T := TX0) (N := 2) hx hb hts hin0 hown hG h4.1 rfl 0 (by decide) (List.mem_of_getElem? (i := 0) rfl) rfl rfl dX5_sign_72 ?_
  exact hret _ _ _ _ _ hS (hz) dX5_sign_75 (rfl) (zsc hp hX)

set_option maxHeartbeats 4000000 in
set_option maxRecDepth 100000 in
theorem c_X5_sign_3a (E : zEnv) {ad : Nat → Nat} {nw sv : zS} {an : Bool} {hs : Nat → zS} {ct ln : Nat} {cd : Nat → Int32} {i : Nat} {y : Int32} (hok : zOk nw) (hinj : zInj ad) (hct : ct ≤ 5) (hi6 : i = zMl nw ∧ i < 6) (hy : zin y 0 5 = false) (hy9 : y = nI 9) : zWR E yX5_sign wsX5_sign 5 145 [.ref (ad 287), .int (nI (i)), .int (y)] (fun H => zCW E ad nw sv an hs ct ln cd H) (some (.int (nI (zMl nw + 1)))) (fun H => zCW E ad (zsMo nw (zMl nw + 1) (upd (zSg nw) (zMl nw) y)) sv an (zrH hs ct nw) (zrC ct) ln cd H) (zAC ad) := by
  refine zWR.ofI (maxL := 4) rfl (Nat.le_of_ble_eq_true rfl) (fun p e s m args below meth c H Q hF hP hret ls hl => ?_)
  have S : CallFix p m c cX5_sign 4 s args wsX5_sign RX5 := hF.1
  have hG := hF.2
  obtain ⟨hx, hb, hml, hown, hts⟩ := id S
  have hS : va_S (zAC ad) H H [] := va_S.rf
  obtain ⟨locs, hlocs⟩ : ∃ x : List Loc, x = [] := ⟨_, rfl⟩
  rw [← hlocs] at hS ⊢
  have hz : H.size = H.size := rfl
  obtain ⟨π, tn, tt, nb, tf, hp, hX⟩ := hP
  obtain ⟨hA, hsv, hhs, t5, t8, t9, t10, t11⟩ := id hX
  obtain ⟨h0, h1, h2, h3, h4, h5, h6, h7, hR⟩ := id hA
  have hml6 := hok.2.2.2.1
  have hl : lv_has ls 4 [(0, .ref (ad 287)), (1, .int (nI (i))), (2, .int (y))] := hl
  have hin0 : ∀ w ∈ u_ws RX0 TX0 2, w ∈ wsX5_sign := by decide +kernel
  have hin3 : ∀ w ∈ u_ws RX3 TX3 5, w ∈ wsX5_sign := by decide +kernel
  have hin5 : ∀ w ∈ u_ws RX5 TX5 7, w ∈ wsX5_sign := by decide +kernel
  refine lv_aload_n hx hb dX5_sign_0 rfl (lv_at hl 0 rfl) ?_
  refine z_get (ref := RX5) (C := RX5) (T := TX5) (N := 7) hx hb hts hin5 hown hG t5 rfl 0 (by decide) (by decide +kernel) rfl rfl dX5_sign_1 ?_
  refine z_getN (own := RX5) (ref := RX3) (host := "CharmBracelets") (C := RX3) (T := TX3) (N := 5) hx hb hts hin3 hown hG h0 rfl 3 (by decide) (List.mem_of_getElem? (i := 11) rfl) rfl rfl dX5_sign_4 ?_
  refine lv_astore_n (lv' := [(3, .ref (ad (0 + 4))), (0, .ref (ad 287)), (1, .int (nI (i))), (2, .int (y))]) hx hb dX5_sign_7 rfl hl (by decide) rfl (fun ls hl => ?_)
  refine lv_iload_n hx hb dX5_sign_8 rfl (lv_at hl 2 rfl) ?_
  refine z_flt (tgt := 26) hx hb dX5_sign_9 (by decide) (by omega) ?_
  refine lv_iload_n hx hb dX5_sign_12 rfl (lv_at hl 2 rfl) ?_
  refine lv_aload_n hx hb dX5_sign_13 rfl (lv_at hl 0 rfl) ?_
  refine z_getN (own := RX5) (ref := RX0) (host := "CharmBracelets") (C := RX0) (T := TX0) (N := 2) hx hb hts hin0 hown hG h4.1 rfl 0 (by decide) (List.mem_of_getElem? (i := 0) rfl) rfl rfl dX5_sign_14 ?_
  refine z_cgt (tgt := 26) hx hb dX5_sign_17 (by decide) ⟨by omega, by omega⟩ (fun c_2 => by exfalso; omega) (fun c_2 => ?_)
  refine lv_iload_n hx hb dX5_sign_20 rfl (lv_at hl 2 rfl) ?_
  refine lv_bipush (v := nI (6)) hx hb dX5_sign_21 (by decide) ?_
  refine z_clt (tgt := 28) hx hb dX5_sign_23 (by decide) ⟨by omega, by omega⟩ (fun c_3 => ?_) (fun c_3 => by exfalso; omega)
  refine lv_iload_n hx hb dX5_sign_28 rfl (lv_at hl 3 rfl) ?_
  refine z_roSX (As := [.int (y)]) (rest := []) S hG (c_X5_isKindOrEmpty E) 1 gX5_sign_X5_isKindOrEmpty rfl kX5_isKindOrEmpty.2 ⟨Nat.le_of_ble_eq_true rfl, Nat.le_of_ble_eq_true rfl⟩ ⟨Nat.zero_le _, Nat.zero_le _⟩ (trivial) rfl hl.1 rfl rfl (Nat.le_of_ble_eq_true rfl) dX5_sign_29 ?_
  refine z_bne (tgt := 44) hx hb dX5_sign_32 (by decide) (fun c_4 => by exfalso; rw [hy] at c_4; cases c_4) (fun c_4 => ?_)
  refine lv_iload_n hx hb dX5_sign_35 rfl (lv_at hl 3 rfl) ?_
  refine lv_bipush (v := nI (9)) hx hb dX5_sign_36 (by decide) ?_
  refine lv_icmp_eq (tgt := 44) hx hb dX5_sign_38 (by decide) (fun c_5 => ?_) (fun c_5 => by exfalso; exact c_5 hy9)
  refine lv_aload_n hx hb dX5_sign_44 rfl (lv_at hl 1 rfl) ?_
  refine z_wrV (As := []) (rest := []) (q := (RX5, TX5, 7)) S hG (c_X5_record E hinj hp hct) 0 gX5_sign_X5_record rfl kX5_record ⟨Nat.le_of_ble_eq_true rfl, Nat.le_of_ble_eq_true rfl⟩ ⟨Nat.zero_le _, Nat.zero_le _⟩ (hX) rfl t5 rfl hl.1 rfl rfl (Nat.le_of_ble_eq_true rfl) dX5_sign_45 hS (fun _ h => h) (fun Hn locs h_7 q_6 o_8 hS => ?_)
  have hz : Hn.size = H.size := q_6.trans hz
  obtain ⟨π, hp, hX⟩ := h_7
  obtain ⟨hA, hsv, hhs, t5, t8, t9, t10, t11⟩ := id hX
  obtain ⟨h0, h1, h2, h3, h4, h5, h6, h7, hR⟩ := id hA
  refine lv_iload_n hx hb dX5_sign_48 rfl (lv_at hl 2 rfl) ?_
  refine lv_aload_n hx hb dX5_sign_49 rfl (lv_at hl 0 rfl) ?_
  refine z_getN (own := RX5) (ref := RX0) (host := "CharmBracelets") (C := RX0) (T := TX0) (N := 2) hx hb hts hin0 hown hG h4.1 rfl 0 (by decide) (List.mem_of_getElem? (i := 0) rfl) rfl rfl dX5_sign_50 ?_
  refine z_cne (tgt := 64) hx hb dX5_sign_53 (by decide) ⟨by omega, by omega⟩ (fun c_9 => by exfalso; omega) (fun c_9 => ?_)
  refine lv_aload_n hx hb dX5_sign_56 rfl (lv_at hl 0 rfl) ?_
  refine lv_iload_n hx hb dX5_sign_57 rfl (lv_at hl 3 rfl) ?_
  refine z_wrVN (As := [.int (y)]) (rest := []) (host := "CharmBracelets") (q := (RX0, TX0, 2)) S hG (c_X0_addSign E (mo := ad (0 + 4)) (mk := ad (0 + 5)) (ml := zMl nw) (sg := zSg nw) (x := y) (hinj.ne (by decide) (by decide) (by decide)) (by omega)) 1 gX5_sign_X0_addSign_n168 (List.mem_of_getElem? (i := 37) rfl) (by decide +kernel) rfl kX0_addSign.2 ⟨Nat.le_of_ble_eq_true rfl, Nat.le_of_ble_eq_true rfl⟩ ⟨Nat.zero_le _, Nat.zero_le _⟩ (h4) rfl h4.1 rfl hl.1 rfl rfl (Nat.le_of_ble_eq_true rfl) dX5_sign_58 hS (fun q h => h.elim (fun e => ⟨_, by decide, e⟩) (fun e => ⟨_, by decide, e⟩)) (fun Hn locs h_11 q_10 o_12 hS => ?_)
  have hz : Hn.size = H.size := q_10.trans hz
  have hA1 := zSt_mo hA hinj (by decide) o_12 h_11
  have hX := zX_now hinj hp hX (fun q hq => o_12 q (fun z => z.elim (hq (0 + 4) (by decide)) (hq (0 + 5) (by decide)))) hA1
  obtain ⟨hA, hsv, hhs, t5, t8, t9, t10, t11⟩ := id hX
  obtain ⟨h0, h1, h2, h3, h4, h5, h6, h7, hR⟩ := id hA
  refine lv_goto (tgt := 71) hx hb dX5_sign_61 (by decide) ?_
  refine lv_aload_n hx hb dX5_sign_71 rfl (lv_at hl 0 rfl) ?_
  refine z_getN (own := RX5) (ref := RX0) (host := "CharmBracelets") (C := RX0) (T := TX0) (N := 2) hx hb hts hin0 hown hG h4.1 rfl 0 (by decide) (List.mem_of_getElem? (i := 0) rfl) rfl rfl dX5_sign_72 ?_
  exact hret _ _ _ _ _ hS (hz) dX5_sign_75 (rfl) (zsc hp hX)

set_option maxHeartbeats 4000000 in
set_option maxRecDepth 100000 in
theorem c_X5_cutMotif_0 (E : zEnv) {ad : Nat → Nat} {nw sv : zS} {an : Bool} {hs : Nat → zS} {ct ln : Nat} {cd : Nat → Int32}  (hok : zOk nw) (hinj : zInj ad) (hct : ct ≤ 5) (h0 : zMl nw = 0) : zWR E yX5_cutMotif wsX5_cutMotif 5 145 [.ref (ad 287)] (fun H => zCW E ad nw sv an hs ct ln cd H) (some (.int (-3))) (fun H => zCW E ad nw sv an hs ct ln cd H) (zAC ad) := by
  refine zWR.ofI (maxL := 1) rfl (Nat.le_of_ble_eq_true rfl) (fun p e s m args below meth c H Q hF hP hret ls hl => ?_)
  have S : CallFix p m c cX5_cutMotif 1 s args wsX5_cutMotif RX5 := hF.1
  have hG := hF.2
  obtain ⟨hx, hb, hml, hown, hts⟩ := id S
  have hS : va_S (zAC ad) H H [] := va_S.rf
  obtain ⟨locs, hlocs⟩ : ∃ x : List Loc, x = [] := ⟨_, rfl⟩
  rw [← hlocs] at hS ⊢
  have hz : H.size = H.size := rfl
  obtain ⟨π, tn, tt, nb, tf, hp, hX⟩ := hP
  obtain ⟨hA, hsv, hhs, t5, t8, t9, t10, t11⟩ := id hX
  obtain ⟨h0, h1, h2, h3, h4, h5, h6, h7, hR⟩ := id hA
  have hml6 := hok.2.2.2.1
  have hl : lv_has ls 1 [(0, .ref (ad 287))] := hl
  have hin0 : ∀ w ∈ u_ws RX0 TX0 2, w ∈ wsX5_cutMotif := by decide +kernel
  have hin3 : ∀ w ∈ u_ws RX3 TX3 5, w ∈ wsX5_cutMotif := by decide +kernel
  have hin5 : ∀ w ∈ u_ws RX5 TX5 7, w ∈ wsX5_cutMotif := by decide +kernel
  refine lv_aload_n hx hb dX5_cutMotif_0 rfl (lv_at hl 0 rfl) ?_
  refine z_get (ref := RX5) (C := RX5) (T := TX5) (N := 7) hx hb hts hin5 hown hG t5 rfl 0 (by decide) (by decide +kernel) rfl rfl dX5_cutMotif_1 ?_
  refine z_getN (own := RX5) (ref := RX3) (host := "CharmBracelets") (C := RX3) (T := TX3) (N := 5) hx hb hts hin3 hown hG h0 rfl 3 (by decide) (List.mem_of_getElem? (i := 11) rfl) rfl rfl dX5_cutMotif_4 ?_
  refine z_getN (own := RX5) (ref := RX0) (host := "CharmBracelets") (C := RX0) (T := TX0) (N := 2) hx hb hts hin0 hown hG h4.1 rfl 0 (by decide) (List.mem_of_getElem? (i := 0) rfl) rfl rfl dX5_cutMotif_7 ?_
  refine lv_iconst (v := nI (1)) hx hb dX5_cutMotif_10 (by decide) ?_
  refine z_cge (tgt := 17) hx hb dX5_cutMotif_11 (by decide) ⟨by omega, by omega⟩ (fun c_1 => by exfalso; omega) (fun c_1 => ?_)
  refine lv_bipush (v := (-3)) hx hb dX5_cutMotif_14 (by decide) ?_
  exact hret _ _ _ _ _ hS (hz) dX5_cutMotif_16 (rfl) (zsc hp hX)

set_option maxHeartbeats 4000000 in
set_option maxRecDepth 100000 in
theorem c_X5_cutMotif_1 (E : zEnv) {ad : Nat → Nat} {nw sv : zS} {an : Bool} {hs : Nat → zS} {ct ln : Nat} {cd : Nat → Int32}  (hok : zOk nw) (hinj : zInj ad) (hct : ct ≤ 5) (h09 : 0 < zMl nw) : zWR E yX5_cutMotif wsX5_cutMotif 5 145 [.ref (ad 287)] (fun H => zCW E ad nw sv an hs ct ln cd H) (some (.int (nI (zMl nw - 1)))) (fun H => zCW E ad (zsMo nw (zMl nw - 1) (zSg nw)) sv an (zrH hs ct nw) (zrC ct) ln cd H) (zAC ad) := by
  refine zWR.ofI (maxL := 1) rfl (Nat.le_of_ble_eq_true rfl) (fun p e s m args below meth c H Q hF hP hret ls hl => ?_)
  have S : CallFix p m c cX5_cutMotif 1 s args wsX5_cutMotif RX5 := hF.1
  have hG := hF.2
  obtain ⟨hx, hb, hml, hown, hts⟩ := id S
  have hS : va_S (zAC ad) H H [] := va_S.rf
  obtain ⟨locs, hlocs⟩ : ∃ x : List Loc, x = [] := ⟨_, rfl⟩
  rw [← hlocs] at hS ⊢
  have hz : H.size = H.size := rfl
  obtain ⟨π, tn, tt, nb, tf, hp, hX⟩ := hP
  obtain ⟨hA, hsv, hhs, t5, t8, t9, t10, t11⟩ := id hX
  obtain ⟨h0, h1, h2, h3, h4, h5, h6, h7, hR⟩ := id hA
  have hml6 := hok.2.2.2.1
  have hl : lv_has ls 1 [(0, .ref (ad 287))] := hl
  have hin0 : ∀ w ∈ u_ws RX0 TX0 2, w ∈ wsX5_cutMotif := by decide +kernel
  have hin3 : ∀ w ∈ u_ws RX3 TX3 5, w ∈ wsX5_cutMotif := by decide +kernel
  have hin5 : ∀ w ∈ u_ws RX5 TX5 7, w ∈ wsX5_cutMotif := by decide +kernel
  refine lv_aload_n hx hb dX5_cutMotif_0 rfl (lv_at hl 0 rfl) ?_
  refine z_get (ref := RX5) (C := RX5) (T := TX5) (N := 7) hx hb hts hin5 hown hG t5 rfl 0 (by decide) (by decide +kernel) rfl rfl dX5_cutMotif_1 ?_
  refine z_getN (own := RX5) (ref := RX3) (host := "CharmBracelets") (C := RX3) (T := TX3) (N := 5) hx hb hts hin3 hown hG h0 rfl 3 (by decide) (List.mem_of_getElem? (i := 11) rfl) rfl rfl dX5_cutMotif_4 ?_
  refine z_getN (own := RX5) (ref := RX0) (host := "CharmBracelets") (C := RX0) (T := TX0) (N := 2) hx hb hts hin0 hown hG h4.1 rfl 0 (by decide) (List.mem_of_getElem? (i := 0) rfl) rfl rfl dX5_cutMotif_7 ?_
  refine lv_iconst (v := nI (1)) hx hb dX5_cutMotif_10 (by decide) ?_
  refine z_cge (tgt := 17) hx hb dX5_cutMotif_11 (by decide) ⟨by omega, by omega⟩ (fun c_1 => ?_) (fun c_1 => by exfalso; omega)
  refine lv_aload_n hx hb dX5_cutMotif_17 rfl (lv_at hl 0 rfl) ?_
  refine z_wrV (As := []) (rest := []) (q := (RX5, TX5, 7)) S hG (c_X5_record E hinj hp hct) 0 gX5_cutMotif_X5_record rfl kX5_record ⟨Nat.le_of_ble_eq_true rfl, Nat.le_of_ble_eq_true rfl⟩ ⟨Nat.zero_le _, Nat.zero_le _⟩ (hX) rfl t5 rfl hl.1 rfl rfl (Nat.le_of_ble_eq_true rfl) dX5_cutMotif_18 hS (fun _ h => h) (fun Hn locs h_3 q_2 o_4 hS => ?_)
  have hz : Hn.size = H.size := q_2.trans hz
  obtain ⟨π, hp, hX⟩ := h_3
  obtain ⟨hA, hsv, hhs, t5, t8, t9, t10, t11⟩ := id hX
  obtain ⟨h0, h1, h2, h3, h4, h5, h6, h7, hR⟩ := id hA
  refine lv_aload_n hx hb dX5_cutMotif_21 rfl (lv_at hl 0 rfl) ?_
  refine z_get (ref := RX5) (C := RX5) (T := TX5) (N := 7) hx hb hts hin5 hown hG t5 rfl 0 (by decide) (by decide +kernel) rfl rfl dX5_cutMotif_22 ?_
  refine z_getN (own := RX5) (ref := RX3) (host := "CharmBracelets") (C := RX3) (T := TX3) (N := 5) hx hb hts hin3 hown hG h0 rfl 3 (by decide) (List.mem_of_getElem? (i := 11) rfl) rfl rfl dX5_cutMotif_25 ?_
  refine lv_dup hx hb dX5_cutMotif_28 rfl ?_
  refine z_getN (own := RX5) (ref := RX0) (host := "CharmBracelets") (C := RX0) (T := TX0) (N := 2) hx hb hts hin0 hown hG h4.1 rfl 0 (by decide) (List.mem_of_getElem? (i := 0) rfl) rfl rfl dX5_cutMotif_29 ?_
  refine lv_iconst (v := nI (1)) hx hb dX5_cutMotif_32 (by decide) ?_
  refine z_isub hx hb dX5_cutMotif_33 (by omega) ?_
  refine z_putN (own := RX5) (ref := RX0) (host := "CharmBracelets") (C := RX0) (T := TX0) (N := 2) hx hb hts hin0 tyX0_ok nmX0 hown hG h4.1 rfl 0 (by decide) (List.mem_of_getElem? (i := 0) rfl) rfl rfl rfl rfl (Nat.le_of_ble_eq_true rfl) hS (⟨4, by decide, rfl⟩) dX5_cutMotif_34 (fun Hn locs h_5 o_6 hS => ?_)
  have h4n : zMo E (ad (0 + 4)) (ad (0 + 5)) (zMl nw - 1) (zSg nw) Hn := ⟨h_5, va_at.kept h4.2 (o_6.2 _ (hinj.ne (by decide) (by decide) (by decide)))⟩
  have hA1 := zSt_mo hA hinj (by decide) (fun q hq => o_6.2 q (fun z => hq (Or.inl z))) h4n
  have hX := zX_now hinj hp hX (fun q hq => o_6.2 q (hq (0 + 4) (by decide))) hA1
  have hz : Hn.size = H.size := o_6.1.trans hz
  obtain ⟨hA, hsv, hhs, t5, t8, t9, t10, t11⟩ := id hX
  obtain ⟨h0, h1, h2, h3, h4, h5, h6, h7, hR⟩ := id hA
  refine lv_aload_n hx hb dX5_cutMotif_37 rfl (lv_at hl 0 rfl) ?_
  refine z_get (ref := RX5) (C := RX5) (T := TX5) (N := 7) hx hb hts hin5 hown hG t5 rfl 0 (by decide) (by decide +kernel) rfl rfl dX5_cutMotif_38 ?_
  refine z_getN (own := RX5) (ref := RX3) (host := "CharmBracelets") (C := RX3) (T := TX3) (N := 5) hx hb hts hin3 hown hG h0 rfl 3 (by decide) (List.mem_of_getElem? (i := 11) rfl) rfl rfl dX5_cutMotif_41 ?_
  refine z_getN (own := RX5) (ref := RX0) (host := "CharmBracelets") (C := RX0) (T := TX0) (N := 2) hx hb hts hin0 hown hG h4.1 rfl 0 (by decide) (List.mem_of_getElem? (i := 0) rfl) rfl rfl dX5_cutMotif_44 ?_
  exact hret _ _ _ _ _ hS (hz) dX5_cutMotif_47 (rfl) (zsc hp hX)

set_option maxHeartbeats 4000000 in
set_option maxRecDepth 100000 in
theorem c_X5_note_0 (E : zEnv) {ad : Nat → Nat} {nw sv : zS} {an : Bool} {hs : Nat → zS} {ct ln : Nat} {cd : Nat → Int32} {x : Int32} (hok : zOk nw) (hinj : zInj ad) (hct : ct ≤ 5) (hq : zfnd (zSz nw) x = none) : zWR E yX5_note wsX5_note 6 145 [.ref (ad 287), .int (x)] (fun H => zCW E ad nw sv an hs ct ln cd H) (some (.int (-1))) (fun H => zCW E ad nw sv an hs ct ln cd H) (zAC ad) := by
  refine zWR.ofI (maxL := 4) rfl (Nat.le_of_ble_eq_true rfl) (fun p e s m args below meth c H Q hF hP hret ls hl => ?_)
  have S : CallFix p m c cX5_note 4 s args wsX5_note RX5 := hF.1
  have hG := hF.2
  obtain ⟨hx, hb, hml, hown, hts⟩ := id S
  have hS : va_S (zAC ad) H H [] := va_S.rf
  obtain ⟨locs, hlocs⟩ : ∃ x : List Loc, x = [] := ⟨_, rfl⟩
  rw [← hlocs] at hS ⊢
  have hz : H.size = H.size := rfl
  obtain ⟨π, tn, tt, nb, tf, hp, hX⟩ := hP
  obtain ⟨hA, hsv, hhs, t5, t8, t9, t10, t11⟩ := id hX
  obtain ⟨h0, h1, h2, h3, h4, h5, h6, h7, hR⟩ := id hA
  have hl : lv_has ls 4 [(0, .ref (ad 287)), (1, .int (x))] := hl
  have hin3 : ∀ w ∈ u_ws RX3 TX3 5, w ∈ wsX5_note := by decide +kernel
  have hin5 : ∀ w ∈ u_ws RX5 TX5 7, w ∈ wsX5_note := by decide +kernel
  refine lv_aload_n hx hb dX5_note_0 rfl (lv_at hl 0 rfl) ?_
  refine z_get (ref := RX5) (C := RX5) (T := TX5) (N := 7) hx hb hts hin5 hown hG t5 rfl 0 (by decide) (by decide +kernel) rfl rfl dX5_note_1 ?_
  refine lv_iload_n hx hb dX5_note_4 rfl (lv_at hl 1 rfl) ?_
  refine z_roVN (As := [.int (x)]) (rest := []) (host := "CharmBracelets") (q := (RX3, TX3, 5)) S hG (c_X3_find_0 E (ad := ad) (b := 0) (v := nw) hok.h16 hq) 1 gX5_note_X3_find_n66 (List.mem_of_getElem? (i := 18) rfl) (by decide +kernel) rfl kX3_find.2 ⟨Nat.le_of_ble_eq_true rfl, Nat.le_of_ble_eq_true rfl⟩ ⟨Nat.zero_le _, Nat.zero_le _⟩ (hA) rfl h0 rfl hl.1 rfl rfl (Nat.le_of_ble_eq_true rfl) dX5_note_5 ?_
  refine lv_astore_nN (lv' := [(2, .null), (0, .ref (ad 287)), (1, .int (x))]) hx hb dX5_note_8 rfl hl (by decide) rfl (fun ls hl => ?_)
  refine lv_aload_nN hx hb dX5_note_9 rfl (lv_at hl 0 rfl) ?_
  refine lv_ifnonnullN hx hb dX5_note_10 ?_
  refine lv_iconst (v := (-1)) hx hb dX5_note_13 (by decide) ?_
  exact hret _ _ _ _ _ hS (hz) dX5_note_14 (rfl) (zsc hp hX)

set_option maxHeartbeats 4000000 in
set_option maxRecDepth 100000 in
theorem c_X5_note_1 (E : zEnv) {ad : Nat → Nat} {nw sv : zS} {an : Bool} {hs : Nat → zS} {ct ln : Nat} {cd : Nat → Int32} {r : Nat} (hok : zOk nw) (hinj : zInj ad) (hct : ct ≤ 5) (hr : r < 6) (hr0 : zSz nw r ≠ 0) (he : zff (fun t => zal (zSz nw (6 + t)) (zKd nw (6 + t)) (zSz nw r) (zKd nw r) 1) (zNl nw) = 10) : zWR E yX5_note wsX5_note 6 145 [.ref (ad 287), .int (nI (r))] (fun H => zCW E ad nw sv an hs ct ln cd H) (some (.int (-4))) (fun H => zCW E ad nw sv an hs ct ln cd H) (zAC ad) := by
  refine zWR.ofI (maxL := 4) rfl (Nat.le_of_ble_eq_true rfl) (fun p e s m args below meth c H Q hF hP hret ls hl => ?_)
  have S : CallFix p m c cX5_note 4 s args wsX5_note RX5 := hF.1
  have hG := hF.2
  obtain ⟨hx, hb, hml, hown, hts⟩ := id S
  have hS : va_S (zAC ad) H H [] := va_S.rf
  obtain ⟨locs, hlocs⟩ : ∃ x : List Loc, x = [] := ⟨_, rfl⟩
  rw [← hlocs] at hS ⊢
  have hz : H.size = H.size := rfl
  obtain ⟨π, tn, tt, nb, tf, hp, hX⟩ := hP
  obtain ⟨hA, hsv, hhs, t5, t8, t9, t10, t11⟩ := id hX
  obtain ⟨h0, h1, h2, h3, h4, h5, h6, h7, hR⟩ := id hA
  have hn := hok.sz hr hr0
  have hnl := hok.2.2.2.2.1
  have hle := zff_le (fun t => zal (zSz nw (6 + t)) (zKd nw (6 + t)) (zSz nw r) (zKd nw r) 1) (zNl nw)
  have hl : lv_has ls 4 [(0, .ref (ad 287)), (1, .int (nI (r)))] := hl
  have hin3 : ∀ w ∈ u_ws RX3 TX3 5, w ∈ wsX5_note := by decide +kernel
  have hin5 : ∀ w ∈ u_ws RX5 TX5 7, w ∈ wsX5_note := by decide +kernel
  refine lv_aload_n hx hb dX5_note_0 rfl (lv_at hl 0 rfl) ?_
  refine z_get (ref := RX5) (C := RX5) (T := TX5) (N := 7) hx hb hts hin5 hown hG t5 rfl 0 (by decide) (by decide +kernel) rfl rfl dX5_note_1 ?_
  refine lv_iload_n hx hb dX5_note_4 rfl (lv_at hl 1 rfl) ?_
  refine z_roVN (As := [.int (nI (r))]) (rest := []) (host := "CharmBracelets") (q := (RX3, TX3, 5)) S hG (c_X3_find_1 E (ad := ad) (b := 0) (v := nw) (i := r) hr ⟨hr0, hok.h16 r hr⟩) 1 gX5_note_X3_find_n66 (List.mem_of_getElem? (i := 18) rfl) (by decide +kernel) rfl kX3_find.2 ⟨Nat.le_of_ble_eq_true rfl, Nat.le_of_ble_eq_true rfl⟩ ⟨Nat.zero_le _, Nat.zero_le _⟩ (hA) rfl h0 rfl hl.1 rfl rfl (Nat.le_of_ble_eq_true rfl) dX5_note_5 ?_
  refine lv_astore_n (lv' := [(2, .ref (ad (0 + 9 + 2 * r))), (0, .ref (ad 287)), (1, .int (nI (r)))]) hx hb dX5_note_8 rfl hl (by decide) rfl (fun ls hl => ?_)
  refine lv_aload_n hx hb dX5_note_9 rfl (lv_at hl 0 rfl) ?_
  refine lv_ifnonnull (tgt := 15) hx hb dX5_note_10 (by decide) ?_
  refine lv_aload_n hx hb dX5_note_15 rfl (lv_at hl 1 rfl) ?_
  refine z_get (ref := RX5) (C := RX5) (T := TX5) (N := 7) hx hb hts hin5 hown hG t5 rfl 0 (by decide) (by decide +kernel) rfl rfl dX5_note_16 ?_
  refine z_getN (own := RX5) (ref := RX3) (host := "CharmBracelets") (C := RX3) (T := TX3) (N := 5) hx hb hts hin3 hown hG h0 rfl 4 (by decide) (List.mem_of_getElem? (i := 12) rfl) rfl rfl dX5_note_19 ?_
  refine lv_aload_n hx hb dX5_note_22 rfl (lv_at hl 0 rfl) ?_
  refine z_roVN (As := [.ref (ad (0 + 9 + 2 * r))]) (rest := []) (host := "CharmBracelets") (q := (RX1, TX1, 3)) S hG (c_X1_entryOf E (ad := ad) (b := 0) (v := nw) (n := (zSz nw r)) (f := (zKd nw r)) hn hnl (fun t ht => ⟨(hok.2.2.2.2.2 t ht).1.b.1, (hok.2.2.2.2.2 t ht).1.b.2.1⟩)) 1 gX5_note_X1_entryOf_n195 (List.mem_of_getElem? (i := 41) rfl) (by decide +kernel) rfl kX1_entryOf.2 ⟨Nat.le_of_ble_eq_true rfl, Nat.le_of_ble_eq_true rfl⟩ ⟨Nat.zero_le _, Nat.zero_le _⟩ (⟨hA, hR r (by omega)⟩) rfl h5 rfl hl.1 rfl rfl (Nat.le_of_ble_eq_true rfl) dX5_note_23 ?_
  refine lv_istore_n (lv' := [(3, .int (nI (zff (fun t => zal (zSz nw (6 + t)) (zKd nw (6 + t)) (zSz nw r) (zKd nw r) 1) (zNl nw)))), (2, .ref (ad (0 + 9 + 2 * r))), (0, .ref (ad 287)), (1, .int (nI (r)))]) hx hb dX5_note_26 rfl hl (by decide) rfl (fun ls hl => ?_)
  refine lv_iload_n hx hb dX5_note_27 rfl (lv_at hl 0 rfl) ?_
  refine lv_bipush (v := nI (10)) hx hb dX5_note_28 (by decide) ?_
  refine z_clt (tgt := 36) hx hb dX5_note_30 (by decide) ⟨by omega, by omega⟩ (fun c_1 => by exfalso; omega) (fun c_1 => ?_)
  refine lv_bipush (v := (-4)) hx hb dX5_note_33 (by decide) ?_
  exact hret _ _ _ _ _ hS (hz) dX5_note_35 (rfl) (zsc hp hX)

set_option maxHeartbeats 4000000 in
set_option maxRecDepth 100000 in
theorem c_X5_note_2 (E : zEnv) {ad : Nat → Nat} {nw sv : zS} {an : Bool} {hs : Nat → zS} {ct ln : Nat} {cd : Nat → Int32} {r en : Nat} (hok : zOk nw) (hinj : zInj ad) (hct : ct ≤ 5) (hr : r < 6) (hr0 : zSz nw r ≠ 0) (he : zff (fun t => zal (zSz nw (6 + t)) (zKd nw (6 + t)) (zSz nw r) (zKd nw r) 1) (zNl nw) = en) (hel : en < zNl nw) : zWR E yX5_note wsX5_note 6 145 [.ref (ad 287), .int (nI (r))] (fun H => zCW E ad nw sv an hs ct ln cd H) (some (.int (nI en))) (fun H => zCW E ad (zsTm nw (upd (zTm nw) en (zTm nw en + nI 1))) sv an (zrH hs ct nw) (zrC ct) ln cd H) (zAC ad) := by
  refine zWR.ofI (maxL := 4) rfl (Nat.le_of_ble_eq_true rfl) (fun p e s m args below meth c H Q hF hP hret ls hl => ?_)
  have S : CallFix p m c cX5_note 4 s args wsX5_note RX5 := hF.1
  have hG := hF.2
  obtain ⟨hx, hb, hml, hown, hts⟩ := id S
  have hS : va_S (zAC ad) H H [] := va_S.rf
  obtain ⟨locs, hlocs⟩ : ∃ x : List Loc, x = [] := ⟨_, rfl⟩
  rw [← hlocs] at hS ⊢
  have hz : H.size = H.size := rfl
  obtain ⟨π, tn, tt, nb, tf, hp, hX⟩ := hP
  obtain ⟨hA, hsv, hhs, t5, t8, t9, t10, t11⟩ := id hX
  obtain ⟨h0, h1, h2, h3, h4, h5, h6, h7, hR⟩ := id hA
  have hn := hok.sz hr hr0
  have hnl := hok.2.2.2.2.1
  have hle := zff_le (fun t => zal (zSz nw (6 + t)) (zKd nw (6 + t)) (zSz nw r) (zKd nw r) 1) (zNl nw)
  have hl : lv_has ls 4 [(0, .ref (ad 287)), (1, .int (nI (r)))] := hl
  have hin3 : ∀ w ∈ u_ws RX3 TX3 5, w ∈ wsX5_note := by decide +kernel
  have hin5 : ∀ w ∈ u_ws RX5 TX5 7, w ∈ wsX5_note := by decide +kernel
  refine lv_aload_n hx hb dX5_note_0 rfl (lv_at hl 0 rfl) ?_
  refine z_get (ref := RX5) (C := RX5) (T := TX5) (N := 7) hx hb hts hin5 hown hG t5 rfl 0 (by decide) (by decide +kernel) rfl rfl dX5_note_1 ?_
  refine lv_iload_n hx hb dX5_note_4 rfl (lv_at hl 1 rfl) ?_
  refine z_roVN (As := [.int (nI (r))]) (rest := []) (host := "CharmBracelets") (q := (RX3, TX3, 5)) S hG (c_X3_find_1 E (ad := ad) (b := 0) (v := nw) (i := r) hr ⟨hr0, hok.h16 r hr⟩) 1 gX5_note_X3_find_n66 (List.mem_of_getElem? (i := 18) rfl) (by decide +kernel) rfl kX3_find.2 ⟨Nat.le_of_ble_eq_true rfl, Nat.le_of_ble_eq_true rfl⟩ ⟨Nat.zero_le _, Nat.zero_le _⟩ (hA) rfl h0 rfl hl.1 rfl rfl (Nat.le_of_ble_eq_true rfl) dX5_note_5 ?_
  refine lv_astore_n (lv' := [(2, .ref (ad (0 + 9 + 2 * r))), (0, .ref (ad 287)), (1, .int (nI (r)))]) hx hb dX5_note_8 rfl hl (by decide) rfl (fun ls hl => ?_)
  refine lv_aload_n hx hb dX5_note_9 rfl (lv_at hl 0 rfl) ?_
  refine lv_ifnonnull (tgt := 15) hx hb dX5_note_10 (by decide) ?_
  refine lv_aload_n hx hb dX5_note_15 rfl (lv_at hl 1 rfl) ?_
  refine z_get (ref := RX5) (C := RX5) (T := TX5) (N := 7) hx hb hts hin5 hown hG t5 rfl 0 (by decide) (by decide +kernel) rfl rfl dX5_note_16 ?_
  refine z_getN (own := RX5) (ref := RX3) (host := "CharmBracelets") (C := RX3) (T := TX3) (N := 5) hx hb hts hin3 hown hG h0 rfl 4 (by decide) (List.mem_of_getElem? (i := 12) rfl) rfl rfl dX5_note_19 ?_
  refine lv_aload_n hx hb dX5_note_22 rfl (lv_at hl 0 rfl) ?_
  refine z_roVN (As := [.ref (ad (0 + 9 + 2 * r))]) (rest := []) (host := "CharmBracelets") (q := (RX1, TX1, 3)) S hG (c_X1_entryOf E (ad := ad) (b := 0) (v := nw) (n := (zSz nw r)) (f := (zKd nw r)) hn hnl (fun t ht => ⟨(hok.2.2.2.2.2 t ht).1.b.1, (hok.2.2.2.2.2 t ht).1.b.2.1⟩)) 1 gX5_note_X1_entryOf_n195 (List.mem_of_getElem? (i := 41) rfl) (by decide +kernel) rfl kX1_entryOf.2 ⟨Nat.le_of_ble_eq_true rfl, Nat.le_of_ble_eq_true rfl⟩ ⟨Nat.zero_le _, Nat.zero_le _⟩ (⟨hA, hR r (by omega)⟩) rfl h5 rfl hl.1 rfl rfl (Nat.le_of_ble_eq_true rfl) dX5_note_23 ?_
  refine z_top (y := nI (en)) (by rw [he]) ?_
  refine lv_istore_n (lv' := [(3, .int (nI (en))), (2, .ref (ad (0 + 9 + 2 * r))), (0, .ref (ad 287)), (1, .int (nI (r)))]) hx hb dX5_note_26 rfl hl (by decide) rfl (fun ls hl => ?_)
  refine lv_iload_n hx hb dX5_note_27 rfl (lv_at hl 0 rfl) ?_
  refine lv_bipush (v := nI (10)) hx hb dX5_note_28 (by decide) ?_
  refine z_clt (tgt := 36) hx hb dX5_note_30 (by decide) ⟨by omega, by omega⟩ (fun c_1 => ?_) (fun c_1 => by exfalso; omega)
  refine lv_aload_n hx hb dX5_note_36 rfl (lv_at hl 2 rfl) ?_
  refine z_wrV (As := []) (rest := []) (q := (RX5, TX5, 7)) S hG (c_X5_record E hinj hp hct) 0 gX5_note_X5_record rfl kX5_record ⟨Nat.le_of_ble_eq_true rfl, Nat.le_of_ble_eq_true rfl⟩ ⟨Nat.zero_le _, Nat.zero_le _⟩ (hX) rfl t5 rfl hl.1 rfl rfl (Nat.le_of_ble_eq_true rfl) dX5_note_37 hS (fun _ h => h) (fun Hn locs h_3 q_2 o_4 hS => ?_)
  have hz : Hn.size = H.size := q_2.trans hz
  obtain ⟨π, hp, hX⟩ := h_3
  obtain ⟨hA, hsv, hhs, t5, t8, t9, t10, t11⟩ := id hX
  obtain ⟨h0, h1, h2, h3, h4, h5, h6, h7, hR⟩ := id hA
  refine lv_aload_n hx hb dX5_note_40 rfl (lv_at hl 2 rfl) ?_
  refine z_get (ref := RX5) (C := RX5) (T := TX5) (N := 7) hx hb hts hin5 hown hG t5 rfl 0 (by decide) (by decide +kernel) rfl rfl dX5_note_41 ?_
  refine z_getN (own := RX5) (ref := RX3) (host := "CharmBracelets") (C := RX3) (T := TX3) (N := 5) hx hb hts hin3 hown hG h0 rfl 4 (by decide) (List.mem_of_getElem? (i := 12) rfl) rfl rfl dX5_note_44 ?_
  refine lv_iload_n hx hb dX5_note_47 rfl (lv_at hl 0 rfl) ?_
  refine lv_aload_n hx hb dX5_note_48 rfl (lv_at hl 1 rfl) ?_
  refine z_wrVN (As := [.int (nI (en)), .ref (ad (0 + 9 + 2 * r))]) (rest := []) (host := "CharmBracelets") (q := (RX1, TX1, 3)) S hG (c_X1_count_old E (ad := ad) (b := 0) (v := nw) (t := en) hinj (by decide) (by omega) ⟨hel, hnl⟩) 2 gX5_note_X1_count_n200 (List.mem_of_getElem? (i := 43) rfl) (by decide +kernel) rfl kX1_count.2 ⟨Nat.le_of_ble_eq_true rfl, Nat.le_of_ble_eq_true rfl⟩ ⟨Nat.zero_le _, Nat.zero_le _⟩ (hA) rfl h5 rfl hl.1 rfl rfl (Nat.le_of_ble_eq_true rfl) dX5_note_49 hS (fun q ⟨o9, h9, e9⟩ => ⟨_, by omega, e9⟩) (fun Hn locs h_6 q_5 o_7 hS => ?_)
  have hz : Hn.size = H.size := q_5.trans hz
  have hX := zX_now hinj hp hX (fun q hq => o_7 q (fun ⟨o9, h9, e9⟩ => hq (0 + o9) (by omega) e9)) h_6
  refine lv_iload_n hx hb dX5_note_52 rfl (lv_at hl 0 rfl) ?_
  exact hret _ _ _ _ _ hS (hz) dX5_note_53 (rfl) (zsc hp hX)

set_option maxHeartbeats 4000000 in
set_option maxRecDepth 100000 in
theorem c_X5_note_3 (E : zEnv) {ad : Nat → Nat} {nw sv : zS} {an : Bool} {hs : Nat → zS} {ct ln : Nat} {cd : Nat → Int32} {r en : Nat} (hok : zOk nw) (hinj : zInj ad) (hct : ct ≤ 5) (hr : r < 6) (hr0 : zSz nw r ≠ 0) (he : zff (fun t => zal (zSz nw (6 + t)) (zKd nw (6 + t)) (zSz nw r) (zKd nw r) 1) (zNl nw) = en) (hel : en = zNl nw ∧ en < 10) : zWR E yX5_note wsX5_note 6 145 [.ref (ad 287), .int (nI (r))] (fun H => zCW E ad nw sv an hs ct ln cd H) (some (.int (nI en))) (fun H => zCW E ad (zsTm (zsNl (zsRg nw (6 + en) (zSz nw r) (zKd nw r)) (en + 1)) (upd (upd (zTm nw) en (nI 0)) en ((upd (zTm nw) en (nI 0)) en + nI 1))) sv an (zrH hs ct nw) (zrC ct) ln cd H) (zAC ad) := by
  refine zWR.ofI (maxL := 4) rfl (Nat.le_of_ble_eq_true rfl) (fun p e s m args below meth c H Q hF hP hret ls hl => ?_)
  have S : CallFix p m c cX5_note 4 s args wsX5_note RX5 := hF.1
  have hG := hF.2
  obtain ⟨hx, hb, hml, hown, hts⟩ := id S
  have hS : va_S (zAC ad) H H [] := va_S.rf
  obtain ⟨locs, hlocs⟩ : ∃ x : List Loc, x = [] := ⟨_, rfl⟩
  rw [← hlocs] at hS ⊢
  have hz : H.size = H.size := rfl
  obtain ⟨π, tn, tt, nb, tf, hp, hX⟩ := hP
  obtain ⟨hA, hsv, hhs, t5, t8, t9, t10, t11⟩ := id hX
  obtain ⟨h0, h1, h2, h3, h4, h5, h6, h7, hR⟩ := id hA
  have hn := hok.sz hr hr0
  have hnl := hok.2.2.2.2.1
  have hle := zff_le (fun t => zal (zSz nw (6 + t)) (zKd nw (6 + t)) (zSz nw r) (zKd nw r) 1) (zNl nw)
  have hl : lv_has ls 4 [(0, .ref (ad 287)), (1, .int (nI (r)))] := hl
  have hin3 : ∀ w ∈ u_ws RX3 TX3 5, w ∈ wsX5_note := by decide +kernel
  have hin5 : ∀ w ∈ u_ws RX5 TX5 7, w ∈ wsX5_note := by decide +kernel
  refine lv_aload_n hx hb dX5_note_0 rfl (lv_at hl 0 rfl) ?_
  refine z_get (ref := RX5) (C := RX5) (T := TX5) (N := 7) hx hb hts hin5 hown hG t5 rfl 0 (by decide) (by decide +kernel) rfl rfl dX5_note_1 ?_
  refine lv_iload_n hx hb dX5_note_4 rfl (lv_at hl 1 rfl) ?_
  refine z_roVN (As := [.int (nI (r))]) (rest := []) (host := "CharmBracelets") (q := (RX3, TX3, 5)) S hG (c_X3_find_1 E (ad := ad) (b := 0) (v := nw) (i := r) hr ⟨hr0, hok.h16 r hr⟩) 1 gX5_note_X3_find_n66 (List.mem_of_getElem? (i := 18) rfl) (by decide +kernel) rfl kX3_find.2 ⟨Nat.le_of_ble_eq_true rfl, Nat.le_of_ble_eq_true rfl⟩ ⟨Nat.zero_le _, Nat.zero_le _⟩ (hA) rfl h0 rfl hl.1 rfl rfl (Nat.le_of_ble_eq_true rfl) dX5_note_5 ?_
  refine lv_astore_n (lv' := [(2, .ref (ad (0 + 9 + 2 * r))), (0, .ref (ad 287)), (1, .int (nI (r)))]) hx hb dX5_note_8 rfl hl (by decide) rfl (fun ls hl => ?_)
  refine lv_aload_n hx hb dX5_note_9 rfl (lv_at hl 0 rfl) ?_
  refine lv_ifnonnull (tgt := 15) hx hb dX5_note_10 (by decide) ?_
  refine lv_aload_n hx hb dX5_note_15 rfl (lv_at hl 1 rfl) ?_
  refine z_get (ref := RX5) (C := RX5) (T := TX5) (N := 7) hx hb hts hin5 hown hG t5 rfl 0 (by decide) (by decide +kernel) rfl rfl dX5_note_16 ?_
  refine z_getN (own := RX5) (ref := RX3) (host := "CharmBracelets") (C := RX3) (T := TX3) (N := 5) hx hb hts hin3 hown hG h0 rfl 4 (by decide) (List.mem_of_getElem? (i := 12) rfl) rfl rfl dX5_note_19 ?_
  refine lv_aload_n hx hb dX5_note_22 rfl (lv_at hl 0 rfl) ?_
  refine z_roVN (As := [.ref (ad (0 + 9 + 2 * r))]) (rest := []) (host := "CharmBracelets") (q := (RX1, TX1, 3)) S hG (c_X1_entryOf E (ad := ad) (b := 0) (v := nw) (n := (zSz nw r)) (f := (zKd nw r)) hn hnl (fun t ht => ⟨(hok.2.2.2.2.2 t ht).1.b.1, (hok.2.2.2.2.2 t ht).1.b.2.1⟩)) 1 gX5_note_X1_entryOf_n195 (List.mem_of_getElem? (i := 41) rfl) (by decide +kernel) rfl kX1_entryOf.2 ⟨Nat.le_of_ble_eq_true rfl, Nat.le_of_ble_eq_true rfl⟩ ⟨Nat.zero_le _, Nat.zero_le _⟩ (⟨hA, hR r (by omega)⟩) rfl h5 rfl hl.1 rfl rfl (Nat.le_of_ble_eq_true rfl) dX5_note_23 ?_
  refine z_top (y := nI (en)) (by rw [he]) ?_
  refine lv_istore_n (lv' := [(3, .int (nI (en))), (2, .ref (ad (0 + 9 + 2 * r))), (0, .ref (ad 287)), (1, .int (nI (r)))]) hx hb dX5_note_26 rfl hl (by decide) rfl (fun ls hl => ?_)
  refine lv_iload_n hx hb dX5_note_27 rfl (lv_at hl 0 rfl) ?_
  refine lv_bipush (v := nI (10)) hx hb dX5_note_28 (by decide) ?_
  refine z_clt (tgt := 36) hx hb dX5_note_30 (by decide) ⟨by omega, by omega⟩ (fun c_1 => ?_) (fun c_1 => by exfalso; omega)
  refine lv_aload_n hx hb dX5_note_36 rfl (lv_at hl 2 rfl) ?_
  refine z_wrV (As := []) (rest := []) (q := (RX5, TX5, 7)) S hG (c_X5_record E hinj hp hct) 0 gX5_note_X5_record rfl kX5_record ⟨Nat.le_of_ble_eq_true rfl, Nat.le_of_ble_eq_true rfl⟩ ⟨Nat.zero_le _, Nat.zero_le _⟩ (hX) rfl t5 rfl hl.1 rfl rfl (Nat.le_of_ble_eq_true rfl) dX5_note_37 hS (fun _ h => h) (fun Hn locs h_3 q_2 o_4 hS => ?_)
  have hz : Hn.size = H.size := q_2.trans hz
  obtain ⟨π, hp, hX⟩ := h_3
  obtain ⟨hA, hsv, hhs, t5, t8, t9, t10, t11⟩ := id hX
  obtain ⟨h0, h1, h2, h3, h4, h5, h6, h7, hR⟩ := id hA
  refine lv_aload_n hx hb dX5_note_40 rfl (lv_at hl 2 rfl) ?_
  refine z_get (ref := RX5) (C := RX5) (T := TX5) (N := 7) hx hb hts hin5 hown hG t5 rfl 0 (by decide) (by decide +kernel) rfl rfl dX5_note_41 ?_
  refine z_getN (own := RX5) (ref := RX3) (host := "CharmBracelets") (C := RX3) (T := TX3) (N := 5) hx hb hts hin3 hown hG h0 rfl 4 (by decide) (List.mem_of_getElem? (i := 12) rfl) rfl rfl dX5_note_44 ?_
  refine lv_iload_n hx hb dX5_note_47 rfl (lv_at hl 0 rfl) ?_
  refine lv_aload_n hx hb dX5_note_48 rfl (lv_at hl 1 rfl) ?_
  refine z_wrVN (As := [.int (nI (en)), .ref (ad (0 + 9 + 2 * r))]) (rest := []) (host := "CharmBracelets") (q := (RX1, TX1, 3)) S hG (c_X1_count_new E (ad := ad) (b := 0) (v := nw) (t := en) (n := (zSz nw r)) (f := (zKd nw r)) hinj (by decide) (by omega) hel.1 ⟨hinj.ne (by omega) (by omega) (by omega), hinj.ne (by omega) (by omega) (by omega), hinj.ne (by omega) (by omega) (by omega), hinj.ne (by omega) (by omega) (by omega)⟩) 2 gX5_note_X1_count_n200 (List.mem_of_getElem? (i := 43) rfl) (by decide +kernel) rfl kX1_count.2 ⟨Nat.le_of_ble_eq_true rfl, Nat.le_of_ble_eq_true rfl⟩ ⟨Nat.zero_le _, Nat.zero_le _⟩ (⟨hA, hR r (by omega)⟩) rfl h5 rfl hl.1 rfl rfl (Nat.le_of_ble_eq_true rfl) dX5_note_49 hS (fun q ⟨o9, h9, e9⟩ => ⟨_, by omega, e9⟩) (fun Hn locs h_6 q_5 o_7 hS => ?_)
  have hz : Hn.size = H.size := q_5.trans hz
  have hX := zX_now hinj hp hX (fun q hq => o_7 q (fun ⟨o9, h9, e9⟩ => hq (0 + o9) (by omega) e9)) h_6
  refine lv_iload_n hx hb dX5_note_52 rfl (lv_at hl 0 rfl) ?_
  exact hret _ _ _ _ _ hS (hz) dX5_note_53 (rfl) (zsc hp hX)

set_option maxHeartbeats 4000000 in
set_option maxRecDepth 100000 in
theorem c_X5_entries_0 (E : zEnv) {ad : Nat → Nat} {nw sv : zS} {an : Bool} {hs : Nat → zS} {ct ln : Nat} {cd : Nat → Int32}  (hok : zOk nw)  : zRO E yX5_entries wsX5_entries 0 0 [.ref (ad 287)] (fun H => zCW E ad nw sv an hs ct ln cd H) (some (.int (nI (zNl nw)))) := by
  refine zRO.ofI (maxL := 1) rfl (Nat.le_of_ble_eq_true rfl) (fun p e s m args below meth c H Q hF hP hret ls hl => ?_)
  have S : CallFix p m c cX5_entries 1 s args wsX5_entries RX5 := hF.1
  have hG := hF.2
  obtain ⟨hx, hb, hml, hown, hts⟩ := id S
  obtain ⟨π, tn, tt, nb, tf, hp, hX⟩ := hP
  obtain ⟨hA, hsv, hhs, t5, t8, t9, t10, t11⟩ := id hX
  obtain ⟨h0, h1, h2, h3, h4, h5, h6, h7, hR⟩ := id hA
  have hl : lv_has ls 1 [(0, .ref (ad 287))] := hl
  have hin1 : ∀ w ∈ u_ws RX1 TX1 3, w ∈ wsX5_entries := by decide +kernel
  have hin3 : ∀ w ∈ u_ws RX3 TX3 5, w ∈ wsX5_entries := by decide +kernel
  have hin5 : ∀ w ∈ u_ws RX5 TX5 7, w ∈ wsX5_entries := by decide +kernel
  refine lv_aload_n hx hb dX5_entries_0 rfl (lv_at hl 0 rfl) ?_
  refine z_get (ref := RX5) (C := RX5) (T := TX5) (N := 7) hx hb hts hin5 hown hG t5 rfl 0 (by decide) (by decide +kernel) rfl rfl dX5_entries_1 ?_
  refine z_getN (own := RX5) (ref := RX3) (host := "CharmBracelets") (C := RX3) (T := TX3) (N := 5) hx hb hts hin3 hown hG h0 rfl 4 (by decide) (List.mem_of_getElem? (i := 12) rfl) rfl rfl dX5_entries_4 ?_
  refine z_getN (own := RX5) (ref := RX1) (host := "CharmBracelets") (C := RX1) (T := TX1) (N := 3) hx hb hts hin1 hown hG h5 rfl 0 (by decide) (List.mem_of_getElem? (i := 5) rfl) rfl rfl dX5_entries_7 ?_
  exact hret _ _ _ dX5_entries_10 (rfl)

set_option maxHeartbeats 4000000 in
set_option maxRecDepth 100000 in
theorem c_X5_entry_0 (E : zEnv) {ad : Nat → Nat} {nw sv : zS} {an : Bool} {hs : Nat → zS} {ct ln : Nat} {cd : Nat → Int32} {x y : Int32} (hok : zOk nw) (hx1 : zNl nw = 0 ∨ zin x 0 (zNl nw - 1) = false) : zRO E yX5_entry wsX5_entry 6 139 [.ref (ad 287), .int (x), .int (y)] (fun H => zCW E ad nw sv an hs ct ln cd H) (some (.int (-1))) := by
  refine zRO.ofI (maxL := 4) rfl (Nat.le_of_ble_eq_true rfl) (fun p e s m args below meth c H Q hF hP hret ls hl => ?_)
  have S : CallFix p m c cX5_entry 4 s args wsX5_entry RX5 := hF.1
  have hG := hF.2
  obtain ⟨hx, hb, hml, hown, hts⟩ := id S
  obtain ⟨π, tn, tt, nb, tf, hp, hX⟩ := hP
  obtain ⟨hA, hsv, hhs, t5, t8, t9, t10, t11⟩ := id hX
  obtain ⟨h0, h1, h2, h3, h4, h5, h6, h7, hR⟩ := id hA
  have hnl := hok.2.2.2.2.1
  have hl : lv_has ls 4 [(0, .ref (ad 287)), (1, .int (x)), (2, .int (y))] := hl
  have hin1 : ∀ w ∈ u_ws RX1 TX1 3, w ∈ wsX5_entry := by decide +kernel
  have hin2 : ∀ w ∈ u_ws RX2 TX2 2, w ∈ wsX5_entry := by decide +kernel
  have hin3 : ∀ w ∈ u_ws RX3 TX3 5, w ∈ wsX5_entry := by decide +kernel
  have hin5 : ∀ w ∈ u_ws RX5 TX5 7, w ∈ wsX5_entry := by decide +kernel
  refine lv_iload_n hx hb dX5_entry_0 rfl (lv_at hl 1 rfl) ?_
  refine lv_if_lt (tgt := 18) hx hb dX5_entry_1 (by decide) (fun c_1 => ?_) (fun c_1 => ?_)
  · refine lv_iconst (v := (-1)) hx hb dX5_entry_18 (by decide) ?_
    exact hret _ _ _ dX5_entry_19 (rfl)
  · refine lv_iload_n hx hb dX5_entry_4 rfl (lv_at hl 1 rfl) ?_
    refine lv_aload_n hx hb dX5_entry_5 rfl (lv_at hl 0 rfl) ?_
    refine z_get (ref := RX5) (C := RX5) (T := TX5) (N := 7) hx hb hts hin5 hown hG t5 rfl 0 (by decide) (by decide +kernel) rfl rfl dX5_entry_6 ?_
    refine z_getN (own := RX5) (ref := RX3) (host := "CharmBracelets") (C := RX3) (T := TX3) (N := 5) hx hb hts hin3 hown hG h0 rfl 4 (by decide) (List.mem_of_getElem? (i := 12) rfl) rfl rfl dX5_entry_9 ?_
    refine z_getN (own := RX5) (ref := RX1) (host := "CharmBracelets") (C := RX1) (T := TX1) (N := 3) hx hb hts hin1 hown hG h5 rfl 0 (by decide) (List.mem_of_getElem? (i := 5) rfl) rfl rfl dX5_entry_12 ?_
    refine lv_icmp_lt (tgt := 20) hx hb dX5_entry_15 (by decide) (fun c_2 => by exfalso; exact zin_c3 hx1 (by omega) c_1 c_2) (fun c_2 => ?_)
    refine lv_iconst (v := (-1)) hx hb dX5_entry_18 (by decide) ?_
    exact hret _ _ _ dX5_entry_19 (rfl)

set_option maxHeartbeats 4000000 in
set_option maxRecDepth 100000 in
theorem c_X5_entry_1 (E : zEnv) {ad : Nat → Nat} {nw sv : zS} {an : Bool} {hs : Nat → zS} {ct ln : Nat} {cd : Nat → Int32} {en : Nat} {y : Int32} (hok : zOk nw) (hel : en < zNl nw) (hy : zin y 0 2 = false) : zRO E yX5_entry wsX5_entry 6 139 [.ref (ad 287), .int (nI (en)), .int (y)] (fun H => zCW E ad nw sv an hs ct ln cd H) (some (.int (-2))) := by
  refine zRO.ofI (maxL := 4) rfl (Nat.le_of_ble_eq_true rfl) (fun p e s m args below meth c H Q hF hP hret ls hl => ?_)
  have S : CallFix p m c cX5_entry 4 s args wsX5_entry RX5 := hF.1
  have hG := hF.2
  obtain ⟨hx, hb, hml, hown, hts⟩ := id S
  obtain ⟨π, tn, tt, nb, tf, hp, hX⟩ := hP
  obtain ⟨hA, hsv, hhs, t5, t8, t9, t10, t11⟩ := id hX
  obtain ⟨h0, h1, h2, h3, h4, h5, h6, h7, hR⟩ := id hA
  have hnl := hok.2.2.2.2.1
  have hl : lv_has ls 4 [(0, .ref (ad 287)), (1, .int (nI (en))), (2, .int (y))] := hl
  have hin1 : ∀ w ∈ u_ws RX1 TX1 3, w ∈ wsX5_entry := by decide +kernel
  have hin2 : ∀ w ∈ u_ws RX2 TX2 2, w ∈ wsX5_entry := by decide +kernel
  have hin3 : ∀ w ∈ u_ws RX3 TX3 5, w ∈ wsX5_entry := by decide +kernel
  have hin5 : ∀ w ∈ u_ws RX5 TX5 7, w ∈ wsX5_entry := by decide +kernel
  refine lv_iload_n hx hb dX5_entry_0 rfl (lv_at hl 1 rfl) ?_
  refine z_flt (tgt := 18) hx hb dX5_entry_1 (by decide) (by omega) ?_
  refine lv_iload_n hx hb dX5_entry_4 rfl (lv_at hl 1 rfl) ?_
  refine lv_aload_n hx hb dX5_entry_5 rfl (lv_at hl 0 rfl) ?_
  refine z_get (ref := RX5) (C := RX5) (T := TX5) (N := 7) hx hb hts hin5 hown hG t5 rfl 0 (by decide) (by decide +kernel) rfl rfl dX5_entry_6 ?_
  refine z_getN (own := RX5) (ref := RX3) (host := "CharmBracelets") (C := RX3) (T := TX3) (N := 5) hx hb hts hin3 hown hG h0 rfl 4 (by decide) (List.mem_of_getElem? (i := 12) rfl) rfl rfl dX5_entry_9 ?_
  refine z_getN (own := RX5) (ref := RX1) (host := "CharmBracelets") (C := RX1) (T := TX1) (N := 3) hx hb hts hin1 hown hG h5 rfl 0 (by decide) (List.mem_of_getElem? (i := 5) rfl) rfl rfl dX5_entry_12 ?_
  refine z_clt (tgt := 20) hx hb dX5_entry_15 (by decide) ⟨by omega, by omega⟩ (fun c_2 => ?_) (fun c_2 => by exfalso; omega)
  refine lv_aload_n hx hb dX5_entry_20 rfl (lv_at hl 0 rfl) ?_
  refine z_get (ref := RX5) (C := RX5) (T := TX5) (N := 7) hx hb hts hin5 hown hG t5 rfl 0 (by decide) (by decide +kernel) rfl rfl dX5_entry_21 ?_
  refine z_getN (own := RX5) (ref := RX3) (host := "CharmBracelets") (C := RX3) (T := TX3) (N := 5) hx hb hts hin3 hown hG h0 rfl 4 (by decide) (List.mem_of_getElem? (i := 12) rfl) rfl rfl dX5_entry_24 ?_
  refine z_getN (own := RX5) (ref := RX1) (host := "CharmBracelets") (C := RX1) (T := TX1) (N := 3) hx hb hts hin1 hown hG h5 rfl 1 (by decide) (List.mem_of_getElem? (i := 6) rfl) rfl rfl dX5_entry_27 ?_
  refine lv_iload_n hx hb dX5_entry_30 rfl (lv_at hl 1 rfl) ?_
  refine z_aaldR (j := en) (v := ad (0 + 21 + 2 * en)) hx hb hG h6 ⟨by omega, by omega⟩ (rfl) dX5_entry_31 ?_
  refine lv_astore_n (lv' := [(3, .ref (ad (0 + 21 + 2 * en))), (0, .ref (ad 287)), (1, .int (nI (en))), (2, .int (y))]) hx hb dX5_entry_32 rfl hl (by decide) rfl (fun ls hl => ?_)
  refine lv_iload_n hx hb dX5_entry_33 rfl (lv_at hl 3 rfl) ?_
  refine lv_tableOut (tgt := 88) hx hb dX5_entry_34 (zin_out (by decide) hy) (by decide) ?_
  refine lv_bipush (v := (-2)) hx hb dX5_entry_88 (by decide) ?_
  exact hret _ _ _ dX5_entry_90 (rfl)

set_option maxHeartbeats 4000000 in
set_option maxRecDepth 100000 in
theorem c_X5_entry_20 (E : zEnv) {ad : Nat → Nat} {nw sv : zS} {an : Bool} {hs : Nat → zS} {ct ln : Nat} {cd : Nat → Int32} {en : Nat} (hok : zOk nw) (hel : en < zNl nw) : zRO E yX5_entry wsX5_entry 6 139 [.ref (ad 287), .int (nI (en)), .int (nI (0))] (fun H => zCW E ad nw sv an hs ct ln cd H) (some (.int (nI (zSz nw (6 + en))))) := by
  refine zRO.ofI (maxL := 4) rfl (Nat.le_of_ble_eq_true rfl) (fun p e s m args below meth c H Q hF hP hret ls hl => ?_)
  have S : CallFix p m c cX5_entry 4 s args wsX5_entry RX5 := hF.1
  have hG := hF.2
  obtain ⟨hx, hb, hml, hown, hts⟩ := id S
  obtain ⟨π, tn, tt, nb, tf, hp, hX⟩ := hP
  obtain ⟨hA, hsv, hhs, t5, t8, t9, t10, t11⟩ := id hX
  obtain ⟨h0, h1, h2, h3, h4, h5, h6, h7, hR⟩ := id hA
  have hnl := hok.2.2.2.2.1
  have hfe := (hok.2.2.2.2.2 en hel).1.b
  have hl : lv_has ls 4 [(0, .ref (ad 287)), (1, .int (nI (en))), (2, .int (nI (0)))] := hl
  have hin1 : ∀ w ∈ u_ws RX1 TX1 3, w ∈ wsX5_entry := by decide +kernel
  have hin2 : ∀ w ∈ u_ws RX2 TX2 2, w ∈ wsX5_entry := by decide +kernel
  have hin3 : ∀ w ∈ u_ws RX3 TX3 5, w ∈ wsX5_entry := by decide +kernel
  have hin5 : ∀ w ∈ u_ws RX5 TX5 7, w ∈ wsX5_entry := by decide +kernel
  refine lv_iload_n hx hb dX5_entry_0 rfl (lv_at hl 1 rfl) ?_
  refine z_flt (tgt := 18) hx hb dX5_entry_1 (by decide) (by omega) ?_
  refine lv_iload_n hx hb dX5_entry_4 rfl (lv_at hl 1 rfl) ?_
  refine lv_aload_n hx hb dX5_entry_5 rfl (lv_at hl 0 rfl) ?_
  refine z_get (ref := RX5) (C := RX5) (T := TX5) (N := 7) hx hb hts hin5 hown hG t5 rfl 0 (by decide) (by decide +kernel) rfl rfl dX5_entry_6 ?_
  refine z_getN (own := RX5) (ref := RX3) (host := "CharmBracelets") (C := RX3) (T := TX3) (N := 5) hx hb hts hin3 hown hG h0 rfl 4 (by decide) (List.mem_of_getElem? (i := 12) rfl) rfl rfl dX5_entry_9 ?_
  refine z_getN (own := RX5) (ref := RX1) (host := "CharmBracelets") (C := RX1) (T := TX1) (N := 3) hx hb hts hin1 hown hG h5 rfl 0 (by decide) (List.mem_of_getElem? (i := 5) rfl) rfl rfl dX5_entry_12 ?_
  refine z_clt (tgt := 20) hx hb dX5_entry_15 (by decide) ⟨by omega, by omega⟩ (fun c_2 => ?_) (fun c_2 => by exfalso; omega)
  refine lv_aload_n hx hb dX5_entry_20 rfl (lv_at hl 0 rfl) ?_
  refine z_get (ref := RX5) (C := RX5) (T := TX5) (N := 7) hx hb hts hin5 hown hG t5 rfl 0 (by decide) (by decide +kernel) rfl rfl dX5_entry_21 ?_
  refine z_getN (own := RX5) (ref := RX3) (host := "CharmBracelets") (C := RX3) (T := TX3) (N := 5) hx hb hts hin3 hown hG h0 rfl 4 (by decide) (List.mem_of_getElem? (i := 12) rfl) rfl rfl dX5_entry_24 ?_
  refine z_getN (own := RX5) (ref := RX1) (host := "CharmBracelets") (C := RX1) (T := TX1) (N := 3) hx hb hts hin1 hown hG h5 rfl 1 (by decide) (List.mem_of_getElem? (i := 6) rfl) rfl rfl dX5_entry_27 ?_
  refine lv_iload_n hx hb dX5_entry_30 rfl (lv_at hl 1 rfl) ?_
  refine z_aaldR (j := en) (v := ad (0 + 21 + 2 * en)) hx hb hG h6 ⟨by omega, by omega⟩ (rfl) dX5_entry_31 ?_
  refine lv_astore_n (lv' := [(3, .ref (ad (0 + 21 + 2 * en))), (0, .ref (ad 287)), (1, .int (nI (en))), (2, .int (nI (0)))]) hx hb dX5_entry_32 rfl hl (by decide) rfl (fun ls hl => ?_)
  refine lv_iload_n hx hb dX5_entry_33 rfl (lv_at hl 3 rfl) ?_
  refine lv_tableIn (off := 26) (tgt := 60) hx hb dX5_entry_34 (by decide) (by decide) rfl (by decide) ?_
  refine lv_aload_n hx hb dX5_entry_60 rfl (lv_at hl 0 rfl) ?_
  refine z_getN (own := RX5) (ref := RX2) (host := "CharmBracelets") (C := RX2) (T := TX2) (N := 2) hx hb hts hin2 hown hG (zfr_1 (hR (6 + en) (by omega))) rfl 0 (by decide) (List.mem_of_getElem? (i := 4) rfl) rfl rfl dX5_entry_61 ?_
  exact hret _ _ _ dX5_entry_64 (rfl)

set_option maxHeartbeats 4000000 in
set_option maxRecDepth 100000 in
theorem c_X5_entry_21 (E : zEnv) {ad : Nat → Nat} {nw sv : zS} {an : Bool} {hs : Nat → zS} {ct ln : Nat} {cd : Nat → Int32} {en : Nat} (hok : zOk nw) (hel : en < zNl nw) : zRO E yX5_entry wsX5_entry 6 139 [.ref (ad 287), .int (nI (en)), .int (nI (1))] (fun H => zCW E ad nw sv an hs ct ln cd H) (some (.int (zTm nw en))) := by
  refine zRO.ofI (maxL := 4) rfl (Nat.le_of_ble_eq_true rfl) (fun p e s m args below meth c H Q hF hP hret ls hl => ?_)
  have S : CallFix p m c cX5_entry 4 s args wsX5_entry RX5 := hF.1
  have hG := hF.2
  obtain ⟨hx, hb, hml, hown, hts⟩ := id S
  obtain ⟨π, tn, tt, nb, tf, hp, hX⟩ := hP
  obtain ⟨hA, hsv, hhs, t5, t8, t9, t10, t11⟩ := id hX
  obtain ⟨h0, h1, h2, h3, h4, h5, h6, h7, hR⟩ := id hA
  have hnl := hok.2.2.2.2.1
  have hfe := (hok.2.2.2.2.2 en hel).1.b
  have hl : lv_has ls 4 [(0, .ref (ad 287)), (1, .int (nI (en))), (2, .int (nI (1)))] := hl
  have hin1 : ∀ w ∈ u_ws RX1 TX1 3, w ∈ wsX5_entry := by decide +kernel
  have hin2 : ∀ w ∈ u_ws RX2 TX2 2, w ∈ wsX5_entry := by decide +kernel
  have hin3 : ∀ w ∈ u_ws RX3 TX3 5, w ∈ wsX5_entry := by decide +kernel
  have hin5 : ∀ w ∈ u_ws RX5 TX5 7, w ∈ wsX5_entry := by decide +kernel
  refine lv_iload_n hx hb dX5_entry_0 rfl (lv_at hl 1 rfl) ?_
  refine z_flt (tgt := 18) hx hb dX5_entry_1 (by decide) (by omega) ?_
  refine lv_iload_n hx hb dX5_entry_4 rfl (lv_at hl 1 rfl) ?_
  refine lv_aload_n hx hb dX5_entry_5 rfl (lv_at hl 0 rfl) ?_
  refine z_get (ref := RX5) (C := RX5) (T := TX5) (N := 7) hx hb hts hin5 hown hG t5 rfl 0 (by decide) (by decide +kernel) rfl rfl dX5_entry_6 ?_
  refine z_getN (own := RX5) (ref := RX3) (host := "CharmBracelets") (C := RX3) (T := TX3) (N := 5) hx hb hts hin3 hown hG h0 rfl 4 (by decide) (List.mem_of_getElem? (i := 12) rfl) rfl rfl dX5_entry_9 ?_
  refine z_getN (own := RX5) (ref := RX1) (host := "CharmBracelets") (C := RX1) (T := TX1) (N := 3) hx hb hts hin1 hown hG h5 rfl 0 (by decide) (List.mem_of_getElem? (i := 5) rfl) rfl rfl dX5_entry_12 ?_
  refine z_clt (tgt := 20) hx hb dX5_entry_15 (by decide) ⟨by omega, by omega⟩ (fun c_2 => ?_) (fun c_2 => by exfalso; omega)
  refine lv_aload_n hx hb dX5_entry_20 rfl (lv_at hl 0 rfl) ?_
  refine z_get (ref := RX5) (C := RX5) (T := TX5) (N := 7) hx hb hts hin5 hown hG t5 rfl 0 (by decide) (by decide +kernel) rfl rfl dX5_entry_21 ?_
  refine z_getN (own := RX5) (ref := RX3) (host := "CharmBracelets") (C := RX3) (T := TX3) (N := 5) hx hb hts hin3 hown hG h0 rfl 4 (by decide) (List.mem_of_getElem? (i := 12) rfl) rfl rfl dX5_entry_24 ?_
  refine z_getN (own := RX5) (ref := RX1) (host := "CharmBracelets") (C := RX1) (T := TX1) (N := 3) hx hb hts hin1 hown hG h5 rfl 1 (by decide) (List.mem_of_getElem? (i := 6) rfl) rfl rfl dX5_entry_27 ?_
  refine lv_iload_n hx hb dX5_entry_30 rfl (lv_at hl 1 rfl) ?_
  refine z_aaldR (j := en) (v := ad (0 + 21 + 2 * en)) hx hb hG h6 ⟨by omega, by omega⟩ (rfl) dX5_entry_31 ?_
  refine lv_astore_n (lv' := [(3, .ref (ad (0 + 21 + 2 * en))), (0, .ref (ad 287)), (1, .int (nI (en))), (2, .int (nI (1)))]) hx hb dX5_entry_32 rfl hl (by decide) rfl (fun ls hl => ?_)
  refine lv_iload_n hx hb dX5_entry_33 rfl (lv_at hl 3 rfl) ?_
  refine lv_tableIn (off := 31) (tgt := 65) hx hb dX5_entry_34 (by decide) (by decide) rfl (by decide) ?_
  refine lv_aload_n hx hb dX5_entry_65 rfl (lv_at hl 1 rfl) ?_
  refine z_get (ref := RX5) (C := RX5) (T := TX5) (N := 7) hx hb hts hin5 hown hG t5 rfl 0 (by decide) (by decide +kernel) rfl rfl dX5_entry_66 ?_
  refine z_getN (own := RX5) (ref := RX3) (host := "CharmBracelets") (C := RX3) (T := TX3) (N := 5) hx hb hts hin3 hown hG h0 rfl 4 (by decide) (List.mem_of_getElem? (i := 12) rfl) rfl rfl dX5_entry_69 ?_
  refine z_getN (own := RX5) (ref := RX1) (host := "CharmBracelets") (C := RX1) (T := TX1) (N := 3) hx hb hts hin1 hown hG h5 rfl 2 (by decide) (List.mem_of_getElem? (i := 7) rfl) rfl rfl dX5_entry_72 ?_
  refine lv_iload_n hx hb dX5_entry_75 rfl (lv_at hl 2 rfl) ?_
  refine z_iald (j := en) hx hb hG h7 ⟨by omega, by omega⟩ dX5_entry_76 ?_
  exact hret _ _ _ dX5_entry_77 (rfl)

set_option maxHeartbeats 4000000 in
set_option maxRecDepth 100000 in
theorem c_X5_entry_22 (E : zEnv) {ad : Nat → Nat} {nw sv : zS} {an : Bool} {hs : Nat → zS} {ct ln : Nat} {cd : Nat → Int32} {en : Nat} (hok : zOk nw) (hel : en < zNl nw) : zRO E yX5_entry wsX5_entry 6 139 [.ref (ad 287), .int (nI (en)), .int (nI (2))] (fun H => zCW E ad nw sv an hs ct ln cd H) (some (.int (nI (zct (fun t => zal (zSz nw t) (zKd nw t) (zSz nw (6 + en)) (zKd nw (6 + en)) 1) 6)))) := by
  refine zRO.ofI (maxL := 4) rfl (Nat.le_of_ble_eq_true rfl) (fun p e s m args below meth c H Q hF hP hret ls hl => ?_)
  have S : CallFix p m c cX5_entry 4 s args wsX5_entry RX5 := hF.1
  have hG := hF.2
  obtain ⟨hx, hb, hml, hown, hts⟩ := id S
  obtain ⟨π, tn, tt, nb, tf, hp, hX⟩ := hP
  obtain ⟨hA, hsv, hhs, t5, t8, t9, t10, t11⟩ := id hX
  obtain ⟨h0, h1, h2, h3, h4, h5, h6, h7, hR⟩ := id hA
  have hnl := hok.2.2.2.2.1
  have hfe := (hok.2.2.2.2.2 en hel).1.b
  have hl : lv_has ls 4 [(0, .ref (ad 287)), (1, .int (nI (en))), (2, .int (nI (2)))] := hl
  have hin1 : ∀ w ∈ u_ws RX1 TX1 3, w ∈ wsX5_entry := by decide +kernel
  have hin2 : ∀ w ∈ u_ws RX2 TX2 2, w ∈ wsX5_entry := by decide +kernel
  have hin3 : ∀ w ∈ u_ws RX3 TX3 5, w ∈ wsX5_entry := by decide +kernel
  have hin5 : ∀ w ∈ u_ws RX5 TX5 7, w ∈ wsX5_entry := by decide +kernel
  refine lv_iload_n hx hb dX5_entry_0 rfl (lv_at hl 1 rfl) ?_
  refine z_flt (tgt := 18) hx hb dX5_entry_1 (by decide) (by omega) ?_
  refine lv_iload_n hx hb dX5_entry_4 rfl (lv_at hl 1 rfl) ?_
  refine lv_aload_n hx hb dX5_entry_5 rfl (lv_at hl 0 rfl) ?_
  refine z_get (ref := RX5) (C := RX5) (T := TX5) (N := 7) hx hb hts hin5 hown hG t5 rfl 0 (by decide) (by decide +kernel) rfl rfl dX5_entry_6 ?_
  refine z_getN (own := RX5) (ref := RX3) (host := "CharmBracelets") (C := RX3) (T := TX3) (N := 5) hx hb hts hin3 hown hG h0 rfl 4 (by decide) (List.mem_of_getElem? (i := 12) rfl) rfl rfl dX5_entry_9 ?_
  refine z_getN (own := RX5) (ref := RX1) (host := "CharmBracelets") (C := RX1) (T := TX1) (N := 3) hx hb hts hin1 hown hG h5 rfl 0 (by decide) (List.mem_of_getElem? (i := 5) rfl) rfl rfl dX5_entry_12 ?_
  refine z_clt (tgt := 20) hx hb dX5_entry_15 (by decide) ⟨by omega, by omega⟩ (fun c_2 => ?_) (fun c_2 => by exfalso; omega)
  refine lv_aload_n hx hb dX5_entry_20 rfl (lv_at hl 0 rfl) ?_
  refine z_get (ref := RX5) (C := RX5) (T := TX5) (N := 7) hx hb hts hin5 hown hG t5 rfl 0 (by decide) (by decide +kernel) rfl rfl dX5_entry_21 ?_
  refine z_getN (own := RX5) (ref := RX3) (host := "CharmBracelets") (C := RX3) (T := TX3) (N := 5) hx hb hts hin3 hown hG h0 rfl 4 (by decide) (List.mem_of_getElem? (i := 12) rfl) rfl rfl dX5_entry_24 ?_
  refine z_getN (own := RX5) (ref := RX1) (host := "CharmBracelets") (C := RX1) (T := TX1) (N := 3) hx hb hts hin1 hown hG h5 rfl 1 (by decide) (List.mem_of_getElem? (i := 6) rfl) rfl rfl dX5_entry_27 ?_
  refine lv_iload_n hx hb dX5_entry_30 rfl (lv_at hl 1 rfl) ?_
  refine z_aaldR (j := en) (v := ad (0 + 21 + 2 * en)) hx hb hG h6 ⟨by omega, by omega⟩ (rfl) dX5_entry_31 ?_
  refine lv_astore_n (lv' := [(3, .ref (ad (0 + 21 + 2 * en))), (0, .ref (ad 287)), (1, .int (nI (en))), (2, .int (nI (2)))]) hx hb dX5_entry_32 rfl hl (by decide) rfl (fun ls hl => ?_)
  refine lv_iload_n hx hb dX5_entry_33 rfl (lv_at hl 3 rfl) ?_
  refine lv_tableIn (off := 44) (tgt := 78) hx hb dX5_entry_34 (by decide) (by decide) rfl (by decide) ?_
  refine lv_aload_n hx hb dX5_entry_78 rfl (lv_at hl 1 rfl) ?_
  refine z_get (ref := RX5) (C := RX5) (T := TX5) (N := 7) hx hb hts hin5 hown hG t5 rfl 0 (by decide) (by decide +kernel) rfl rfl dX5_entry_79 ?_
  refine lv_aload_n hx hb dX5_entry_82 rfl (lv_at hl 0 rfl) ?_
  refine lv_iconst (v := nI (1)) hx hb dX5_entry_83 (by decide) ?_
  refine z_roVN (As := [.ref (ad (0 + 21 + 2 * en)), .int (nI (1))]) (rest := []) (host := "CharmBracelets") (q := (RX3, TX3, 5)) S hG (c_X3_ringsAlike E (ad := ad) (b := 0) (v := nw) (n := zSz nw (6 + en)) (f := zKd nw (6 + en)) (lv := 1) hok.h16 ⟨hfe.1, hfe.2.1⟩ (by decide)) 2 gX5_entry_X3_ringsAlike_n212 (List.mem_of_getElem? (i := 45) rfl) (by decide +kernel) rfl kX3_ringsAlike.2 ⟨Nat.le_of_ble_eq_true rfl, Nat.le_of_ble_eq_true rfl⟩ ⟨Nat.zero_le _, Nat.zero_le _⟩ (⟨hA, zfr (hR (6 + en) (by omega))⟩) rfl h0 rfl hl.1 rfl rfl (Nat.le_of_ble_eq_true rfl) dX5_entry_84 ?_
  exact hret _ _ _ dX5_entry_87 (rfl)

set_option maxHeartbeats 4000000 in
set_option maxRecDepth 100000 in
theorem c_X5_ifHung_0 (E : zEnv) {ad : Nat → Nat} {nw sv : zS} {an : Bool} {hs : Nat → zS} {ct ln : Nat} {cd : Nat → Int32} {x y w : Int32} (hok : zOk nw) (hinj : zInj ad) (hct : ct ≤ 5) (hq : zfnd (zSz nw) x = none) : zWR E yX5_ifHung wsX5_ifHung 3 81 [.ref (ad 287), .int (x), .int (y), .int (w)] (fun H => zCW E ad nw sv an hs ct ln cd H) (some (.int (-1))) (fun H => zCW E ad nw sv an hs ct ln cd H) (zAC ad) := by
  refine zWR.ofI (maxL := 5) rfl (Nat.le_of_ble_eq_true rfl) (fun p e s m args below meth c H Q hF hP hret ls hl => ?_)
  have S : CallFix p m c cX5_ifHung 5 s args wsX5_ifHung RX5 := hF.1
  have hG := hF.2
  obtain ⟨hx, hb, hml, hown, hts⟩ := id S
  have hS : va_S (zAC ad) H H [] := va_S.rf
  obtain ⟨locs, hlocs⟩ : ∃ x : List Loc, x = [] := ⟨_, rfl⟩
  rw [← hlocs] at hS ⊢
  have hz : H.size = H.size := rfl
  obtain ⟨π, tn, tt, nb, tf, hp, hX⟩ := hP
  obtain ⟨hA, hsv, hhs, t5, t8, t9, t10, t11⟩ := id hX
  obtain ⟨h0, h1, h2, h3, h4, h5, h6, h7, hR⟩ := id hA
  have hl : lv_has ls 5 [(0, .ref (ad 287)), (1, .int (x)), (2, .int (y)), (3, .int (w))] := hl
  have hin3 : ∀ w ∈ u_ws RX3 TX3 5, w ∈ wsX5_ifHung := by decide +kernel
  have hin5 : ∀ w ∈ u_ws RX5 TX5 7, w ∈ wsX5_ifHung := by decide +kernel
  refine lv_aload_n hx hb dX5_ifHung_0 rfl (lv_at hl 0 rfl) ?_
  refine z_get (ref := RX5) (C := RX5) (T := TX5) (N := 7) hx hb hts hin5 hown hG t5 rfl 0 (by decide) (by decide +kernel) rfl rfl dX5_ifHung_1 ?_
  refine lv_iload_n hx hb dX5_ifHung_4 rfl (lv_at hl 1 rfl) ?_
  refine z_roVN (As := [.int (x)]) (rest := []) (host := "CharmBracelets") (q := (RX3, TX3, 5)) S hG (c_X3_find_0 E (ad := ad) (b := 0) (v := nw) hok.h16 hq) 1 gX5_ifHung_X3_find_n66 (List.mem_of_getElem? (i := 18) rfl) (by decide +kernel) rfl kX3_find.2 ⟨Nat.le_of_ble_eq_true rfl, Nat.le_of_ble_eq_true rfl⟩ ⟨Nat.zero_le _, Nat.zero_le _⟩ (hA) rfl h0 rfl hl.1 rfl rfl (Nat.le_of_ble_eq_true rfl) dX5_ifHung_5 ?_
  refine lv_astoreN (lv' := [(4, .null), (0, .ref (ad 287)), (1, .int (x)), (2, .int (y)), (3, .int (w))]) hx hb dX5_ifHung_8 hl (by decide) rfl (fun ls hl => ?_)
  refine lv_aloadN hx hb dX5_ifHung_10 (lv_at hl 0 rfl) ?_
  refine lv_ifnullN (tgt := 24) hx hb dX5_ifHung_12 (by decide) ?_
  refine lv_iconst (v := (-1)) hx hb dX5_ifHung_24 (by decide) ?_
  exact hret _ _ _ _ _ hS (hz) dX5_ifHung_25 (rfl) (zsc hp hX)

set_option maxHeartbeats 4000000 in
set_option maxRecDepth 100000 in
theorem c_X5_ifHung_1 (E : zEnv) {ad : Nat → Nat} {nw sv : zS} {an : Bool} {hs : Nat → zS} {ct ln : Nat} {cd : Nat → Int32} {r : Nat} {y w : Int32} (hok : zOk nw) (hinj : zInj ad) (hct : ct ≤ 5) (hr : r < 6) (hr0 : zSz nw r ≠ 0) (hy : zin y 0 ((zSz nw r) - 1) = false) : zWR E yX5_ifHung wsX5_ifHung 3 81 [.ref (ad 287), .int (nI (r)), .int (y), .int (w)] (fun H => zCW E ad nw sv an hs ct ln cd H) (some (.int (-1))) (fun H => zCW E ad nw sv an hs ct ln cd H) (zAC ad) := by
  refine zWR.ofI (maxL := 5) rfl (Nat.le_of_ble_eq_true rfl) (fun p e s m args below meth c H Q hF hP hret ls hl => ?_)
  have S : CallFix p m c cX5_ifHung 5 s args wsX5_ifHung RX5 := hF.1
  have hG := hF.2
  obtain ⟨hx, hb, hml, hown, hts⟩ := id S
  have hS : va_S (zAC ad) H H [] := va_S.rf
  obtain ⟨locs, hlocs⟩ : ∃ x : List Loc, x = [] := ⟨_, rfl⟩
  rw [← hlocs] at hS ⊢
  have hz : H.size = H.size := rfl
  obtain ⟨π, tn, tt, nb, tf, hp, hX⟩ := hP
  obtain ⟨hA, hsv, hhs, t5, t8, t9, t10, t11⟩ := id hX
  obtain ⟨h0, h1, h2, h3, h4, h5, h6, h7, hR⟩ := id hA
  have hn := hok.sz hr hr0
  have hl : lv_has ls 5 [(0, .ref (ad 287)), (1, .int (nI (r))), (2, .int (y)), (3, .int (w))] := hl
  have hin3 : ∀ w ∈ u_ws RX3 TX3 5, w ∈ wsX5_ifHung := by decide +kernel
  have hin5 : ∀ w ∈ u_ws RX5 TX5 7, w ∈ wsX5_ifHung := by decide +kernel
  refine lv_aload_n hx hb dX5_ifHung_0 rfl (lv_at hl 0 rfl) ?_
  refine z_get (ref := RX5) (C := RX5) (T := TX5) (N := 7) hx hb hts hin5 hown hG t5 rfl 0 (by decide) (by decide +kernel) rfl rfl dX5_ifHung_1 ?_
  refine lv_iload_n hx hb dX5_ifHung_4 rfl (lv_at hl 1 rfl) ?_
  refine z_roVN (As := [.int (nI (r))]) (rest := []) (host := "CharmBracelets") (q := (RX3, TX3, 5)) S hG (c_X3_find_1 E (ad := ad) (b := 0) (v := nw) (i := r) hr ⟨hr0, hok.h16 r hr⟩) 1 gX5_ifHung_X3_find_n66 (List.mem_of_getElem? (i := 18) rfl) (by decide +kernel) rfl kX3_find.2 ⟨Nat.le_of_ble_eq_true rfl, Nat.le_of_ble_eq_true rfl⟩ ⟨Nat.zero_le _, Nat.zero_le _⟩ (hA) rfl h0 rfl hl.1 rfl rfl (Nat.le_of_ble_eq_true rfl) dX5_ifHung_5 ?_
  refine lv_astore (lv' := [(4, .ref (ad (0 + 9 + 2 * r))), (0, .ref (ad 287)), (1, .int (nI (r))), (2, .int (y)), (3, .int (w))]) hx hb dX5_ifHung_8 hl (by decide) rfl (fun ls hl => ?_)
  refine lv_aload hx hb dX5_ifHung_10 (lv_at hl 0 rfl) ?_
  refine lv_ifnull hx hb dX5_ifHung_12 ?_
  refine lv_aload hx hb dX5_ifHung_15 (lv_at hl 0 rfl) ?_
  refine lv_iload_n hx hb dX5_ifHung_17 rfl (lv_at hl 3 rfl) ?_
  refine z_roVN (As := [.int (y)]) (rest := []) (host := "CharmBracelets") (q := (RX2, TX2, 2)) S hG (c_X2_hasSlot E (n := (zSz nw r)) (f := (zKd nw r)) (x := y) hn) 1 gX5_ifHung_X2_hasSlot_n82 (List.mem_of_getElem? (i := 23) rfl) (by decide +kernel) rfl kX2_hasSlot.2 ⟨Nat.le_of_ble_eq_true rfl, Nat.le_of_ble_eq_true rfl⟩ ⟨Nat.zero_le _, Nat.zero_le _⟩ (hR r (by omega)) rfl (hR r (by omega)).1 rfl hl.1 rfl rfl (Nat.le_of_ble_eq_true rfl) dX5_ifHung_18 ?_
  refine z_bne (tgt := 26) hx hb dX5_ifHung_21 (by decide) (fun c_1 => by exfalso; rw [hy] at c_1; cases c_1) (fun c_1 => ?_)
  refine lv_iconst (v := (-1)) hx hb dX5_ifHung_24 (by decide) ?_
  exact hret _ _ _ _ _ hS (hz) dX5_ifHung_25 (rfl) (zsc hp hX)

set_option maxHeartbeats 4000000 in
set_option maxRecDepth 100000 in
theorem c_X5_ifHung_2 (E : zEnv) {ad : Nat → Nat} {nw sv : zS} {an : Bool} {hs : Nat → zS} {ct ln : Nat} {cd : Nat → Int32} {r j : Nat} {w : Int32} (hok : zOk nw) (hinj : zInj ad) (hct : ct ≤ 5) (hr : r < 6) (hr0 : zSz nw r ≠ 0) (hj : j < (zSz nw r)) (hw : zin w 0 5 = false) : zWR E yX5_ifHung wsX5_ifHung 3 81 [.ref (ad 287), .int (nI (r)), .int (nI (j)), .int (w)] (fun H => zCW E ad nw sv an hs ct ln cd H) (some (.int (-2))) (fun H => zCW E ad nw sv an hs ct ln cd H) (zAC ad) := by
  refine zWR.ofI (maxL := 5) rfl (Nat.le_of_ble_eq_true rfl) (fun p e s m args below meth c H Q hF hP hret ls hl => ?_)
  have S : CallFix p m c cX5_ifHung 5 s args wsX5_ifHung RX5 := hF.1
  have hG := hF.2
  obtain ⟨hx, hb, hml, hown, hts⟩ := id S
  have hS : va_S (zAC ad) H H [] := va_S.rf
  obtain ⟨locs, hlocs⟩ : ∃ x : List Loc, x = [] := ⟨_, rfl⟩
  rw [← hlocs] at hS ⊢
  have hz : H.size = H.size := rfl
  obtain ⟨π, tn, tt, nb, tf, hp, hX⟩ := hP
  obtain ⟨hA, hsv, hhs, t5, t8, t9, t10, t11⟩ := id hX
  obtain ⟨h0, h1, h2, h3, h4, h5, h6, h7, hR⟩ := id hA
  have hn := hok.sz hr hr0
  have hl : lv_has ls 5 [(0, .ref (ad 287)), (1, .int (nI (r))), (2, .int (nI (j))), (3, .int (w))] := hl
  have hin3 : ∀ w ∈ u_ws RX3 TX3 5, w ∈ wsX5_ifHung := by decide +kernel
  have hin5 : ∀ w ∈ u_ws RX5 TX5 7, w ∈ wsX5_ifHung := by decide +kernel
  refine lv_aload_n hx hb dX5_ifHung_0 rfl (lv_at hl 0 rfl) ?_
  refine z_get (ref := RX5) (C := RX5) (T := TX5) (N := 7) hx hb hts hin5 hown hG t5 rfl 0 (by decide) (by decide +kernel) rfl rfl dX5_ifHung_1 ?_
  refine lv_iload_n hx hb dX5_ifHung_4 rfl (lv_at hl 1 rfl) ?_
  refine z_roVN (As := [.int (nI (r))]) (rest := []) (host := "CharmBracelets") (q := (RX3, TX3, 5)) S hG (c_X3_find_1 E (ad := ad) (b := 0) (v := nw) (i := r) hr ⟨hr0, hok.h16 r hr⟩) 1 gX5_ifHung_X3_find_n66 (List.mem_of_getElem? (i := 18) rfl) (by decide +kernel) rfl kX3_find.2 ⟨Nat.le_of_ble_eq_true rfl, Nat.le_of_ble_eq_true rfl⟩ ⟨Nat.zero_le _, Nat.zero_le _⟩ (hA) rfl h0 rfl hl.1 rfl rfl (Nat.le_of_ble_eq_true rfl) dX5_ifHung_5 ?_
  refine lv_astore (lv' := [(4, .ref (ad (0 + 9 + 2 * r))), (0, .ref (ad 287)), (1, .int (nI (r))), (2, .int (nI (j))), (3, .int (w))]) hx hb dX5_ifHung_8 hl (by decide) rfl (fun ls hl => ?_)
  refine lv_aload hx hb dX5_ifHung_10 (lv_at hl 0 rfl) ?_
  refine lv_ifnull hx hb dX5_ifHung_12 ?_
  refine lv_aload hx hb dX5_ifHung_15 (lv_at hl 0 rfl) ?_
  refine lv_iload_n hx hb dX5_ifHung_17 rfl (lv_at hl 3 rfl) ?_
  refine z_roVN (As := [.int (nI (j))]) (rest := []) (host := "CharmBracelets") (q := (RX2, TX2, 2)) S hG (c_X2_hasSlot E (n := (zSz nw r)) (f := (zKd nw r)) (x := (nI j)) hn) 1 gX5_ifHung_X2_hasSlot_n82 (List.mem_of_getElem? (i := 23) rfl) (by decide +kernel) rfl kX2_hasSlot.2 ⟨Nat.le_of_ble_eq_true rfl, Nat.le_of_ble_eq_true rfl⟩ ⟨Nat.zero_le _, Nat.zero_le _⟩ (hR r (by omega)) rfl (hR r (by omega)).1 rfl hl.1 rfl rfl (Nat.le_of_ble_eq_true rfl) dX5_ifHung_18 ?_
  refine z_bne (tgt := 26) hx hb dX5_ifHung_21 (by decide) (fun c_1 => ?_) (fun c_1 => by exfalso; rw [zin_y (by omega) (by omega) (by omega)] at c_1; cases c_1)
  refine lv_iload_n hx hb dX5_ifHung_26 rfl (lv_at hl 4 rfl) ?_
  refine z_roSX (As := [.int (w)]) (rest := []) S hG (c_X5_isKindOrEmpty E) 1 gX5_ifHung_X5_isKindOrEmpty rfl kX5_isKindOrEmpty.2 ⟨Nat.le_of_ble_eq_true rfl, Nat.le_of_ble_eq_true rfl⟩ ⟨Nat.zero_le _, Nat.zero_le _⟩ (trivial) rfl hl.1 rfl rfl (Nat.le_of_ble_eq_true rfl) dX5_ifHung_27 ?_
  refine z_bne (tgt := 36) hx hb dX5_ifHung_30 (by decide) (fun c_2 => by exfalso; rw [hw] at c_2; cases c_2) (fun c_2 => ?_)
  refine lv_bipush (v := (-2)) hx hb dX5_ifHung_33 (by decide) ?_
  exact hret _ _ _ _ _ hS (hz) dX5_ifHung_35 (rfl) (zsc hp hX)

set_option maxHeartbeats 4000000 in
set_option maxRecDepth 100000 in
theorem c_X5_ifHung_3 (E : zEnv) {ad : Nat → Nat} {nw sv : zS} {an : Bool} {hs : Nat → zS} {ct ln : Nat} {cd : Nat → Int32} {r j w : Nat} (hok : zOk nw) (hinj : zInj ad) (hct : ct ≤ 5) (hr : r < 6) (hr0 : zSz nw r ≠ 0) (hj : j < (zSz nw r)) (hw : w ≤ 5) : zWR E yX5_ifHung wsX5_ifHung 3 81 [.ref (ad 287), .int (nI (r)), .int (nI (j)), .int (nI (w))] (fun H => zCW E ad nw sv an hs ct ln cd H) (some (.int (zjb (zset (zmt (zMl nw) (zSg nw) (zSz nw r) (upd (zKd nw r) j (nI w))) (zSz nw r))))) (fun H => zCW E ad nw sv an hs ct ln cd H) (zAC ad) := by
  refine zWR.ofI (maxL := 5) rfl (Nat.le_of_ble_eq_true rfl) (fun p e s m args below meth c H Q hF hP hret ls hl => ?_)
  have S : CallFix p m c cX5_ifHung 5 s args wsX5_ifHung RX5 := hF.1
  have hG := hF.2
  obtain ⟨hx, hb, hml, hown, hts⟩ := id S
  have hS : va_S (zAC ad) H H [] := va_S.rf
  obtain ⟨locs, hlocs⟩ : ∃ x : List Loc, x = [] := ⟨_, rfl⟩
  rw [← hlocs] at hS ⊢
  have hz : H.size = H.size := rfl
  obtain ⟨π, tn, tt, nb, tf, hp, hX⟩ := hP
  obtain ⟨hA, hsv, hhs, t5, t8, t9, t10, t11⟩ := id hX
  obtain ⟨h0, h1, h2, h3, h4, h5, h6, h7, hR⟩ := id hA
  have hn := hok.sz hr hr0
  have hml6 := hok.2.2.2.1
  have hl : lv_has ls 5 [(0, .ref (ad 287)), (1, .int (nI (r))), (2, .int (nI (j))), (3, .int (nI (w)))] := hl
  have hin3 : ∀ w ∈ u_ws RX3 TX3 5, w ∈ wsX5_ifHung := by decide +kernel
  have hin5 : ∀ w ∈ u_ws RX5 TX5 7, w ∈ wsX5_ifHung := by decide +kernel
  refine lv_aload_n hx hb dX5_ifHung_0 rfl (lv_at hl 0 rfl) ?_
  refine z_get (ref := RX5) (C := RX5) (T := TX5) (N := 7) hx hb hts hin5 hown hG t5 rfl 0 (by decide) (by decide +kernel) rfl rfl dX5_ifHung_1 ?_
  refine lv_iload_n hx hb dX5_ifHung_4 rfl (lv_at hl 1 rfl) ?_
  refine z_roVN (As := [.int (nI (r))]) (rest := []) (host := "CharmBracelets") (q := (RX3, TX3, 5)) S hG (c_X3_find_1 E (ad := ad) (b := 0) (v := nw) (i := r) hr ⟨hr0, hok.h16 r hr⟩) 1 gX5_ifHung_X3_find_n66 (List.mem_of_getElem? (i := 18) rfl) (by decide +kernel) rfl kX3_find.2 ⟨Nat.le_of_ble_eq_true rfl, Nat.le_of_ble_eq_true rfl⟩ ⟨Nat.zero_le _, Nat.zero_le _⟩ (hA) rfl h0 rfl hl.1 rfl rfl (Nat.le_of_ble_eq_true rfl) dX5_ifHung_5 ?_
  refine lv_astore (lv' := [(4, .ref (ad (0 + 9 + 2 * r))), (0, .ref (ad 287)), (1, .int (nI (r))), (2, .int (nI (j))), (3, .int (nI (w)))]) hx hb dX5_ifHung_8 hl (by decide) rfl (fun ls hl => ?_)
  refine lv_aload hx hb dX5_ifHung_10 (lv_at hl 0 rfl) ?_
  refine lv_ifnull hx hb dX5_ifHung_12 ?_
  refine lv_aload hx hb dX5_ifHung_15 (lv_at hl 0 rfl) ?_
  refine lv_iload_n hx hb dX5_ifHung_17 rfl (lv_at hl 3 rfl) ?_
  refine z_roVN (As := [.int (nI (j))]) (rest := []) (host := "CharmBracelets") (q := (RX2, TX2, 2)) S hG (c_X2_hasSlot E (n := (zSz nw r)) (f := (zKd nw r)) (x := (nI j)) hn) 1 gX5_ifHung_X2_hasSlot_n82 (List.mem_of_getElem? (i := 23) rfl) (by decide +kernel) rfl kX2_hasSlot.2 ⟨Nat.le_of_ble_eq_true rfl, Nat.le_of_ble_eq_true rfl⟩ ⟨Nat.zero_le _, Nat.zero_le _⟩ (hR r (by omega)) rfl (hR r (by omega)).1 rfl hl.1 rfl rfl (Nat.le_of_ble_eq_true rfl) dX5_ifHung_18 ?_
  refine z_bne (tgt := 26) hx hb dX5_ifHung_21 (by decide) (fun c_1 => ?_) (fun c_1 => by exfalso; rw [zin_y (by omega) (by omega) (by omega)] at c_1; cases c_1)
  refine lv_iload_n hx hb dX5_ifHung_26 rfl (lv_at hl 4 rfl) ?_
  refine z_roSX (As := [.int (nI (w))]) (rest := []) S hG (c_X5_isKindOrEmpty E) 1 gX5_ifHung_X5_isKindOrEmpty rfl kX5_isKindOrEmpty.2 ⟨Nat.le_of_ble_eq_true rfl, Nat.le_of_ble_eq_true rfl⟩ ⟨Nat.zero_le _, Nat.zero_le _⟩ (trivial) rfl hl.1 rfl rfl (Nat.le_of_ble_eq_true rfl) dX5_ifHung_27 ?_
  refine z_bne (tgt := 36) hx hb dX5_ifHung_30 (by decide) (fun c_2 => ?_) (fun c_2 => by exfalso; rw [zin_y (by omega) hw (by decide)] at c_2; cases c_2)
  refine lv_aload_n hx hb dX5_ifHung_36 rfl (lv_at hl 1 rfl) ?_
  refine z_get (ref := RX5) (C := RX5) (T := TX5) (N := 7) hx hb hts hin5 hown hG t5 rfl 4 (by decide) (by decide +kernel) rfl rfl dX5_ifHung_37 ?_
  refine lv_aload hx hb dX5_ifHung_40 (lv_at hl 0 rfl) ?_
  refine z_wrVN (As := [.ref (ad (0 + 9 + 2 * r))]) (rest := []) (host := "CharmBracelets") (q := (RX2, TX2, 2)) S hG (c_X2_becomeLike E (a := ad 291) (k := ad 292) (b := ad (0 + 9 + 2 * r)) (kb := ad (0 + 10 + 2 * r)) (hinj.ne (by omega) (by omega) (by omega)) ⟨hinj.ne (by omega) (by omega) (by omega), hinj.ne (by omega) (by omega) (by omega), hinj.ne (by omega) (by omega) (by omega), hinj.ne (by omega) (by omega) (by omega)⟩) 1 gX5_ifHung_X2_becomeLike_n215 (List.mem_of_getElem? (i := 17) rfl) (by decide +kernel) rfl kX2_becomeLike.2 ⟨Nat.le_of_ble_eq_true rfl, Nat.le_of_ble_eq_true rfl⟩ ⟨Nat.zero_le _, Nat.zero_le _⟩ (⟨t11, hR r (by omega)⟩) rfl t11.1 rfl hl.1 rfl rfl (Nat.le_of_ble_eq_true rfl) dX5_ifHung_42 hS (fun q h => h.elim (fun e => ⟨_, by decide, e⟩) (fun e => ⟨_, by decide, e⟩)) (fun Hn locs h_4 q_3 o_5 hS => ?_)
  have hz : Hn.size = H.size := q_3.trans hz
  have hX := zX_tr hinj hp hX o_5 h_4
  obtain ⟨hA, hsv, hhs, t5, t8, t9, t10, t11⟩ := id hX
  obtain ⟨h0, h1, h2, h3, h4, h5, h6, h7, hR⟩ := id hA
  refine lv_aload_n hx hb dX5_ifHung_45 rfl (lv_at hl 1 rfl) ?_
  refine z_get (ref := RX5) (C := RX5) (T := TX5) (N := 7) hx hb hts hin5 hown hG t5 rfl 4 (by decide) (by decide +kernel) rfl rfl dX5_ifHung_46 ?_
  refine lv_iload_n hx hb dX5_ifHung_49 rfl (lv_at hl 3 rfl) ?_
  refine lv_iload_n hx hb dX5_ifHung_50 rfl (lv_at hl 4 rfl) ?_
  refine z_wrVN (As := [.int (nI (j)), .int (nI (w))]) (rest := []) (host := "CharmBracelets") (q := (RX2, TX2, 2)) S hG (c_X2_put E (a := ad 291) (k := ad 292) (n := (zSz nw r)) (f := (zKd nw r)) (j := j) (x := nI w) (hinj.ne (by omega) (by omega) (by omega)) (by omega)) 2 gX5_ifHung_X2_put_n88 (List.mem_of_getElem? (i := 25) rfl) (by decide +kernel) rfl kX2_put.2 ⟨Nat.le_of_ble_eq_true rfl, Nat.le_of_ble_eq_true rfl⟩ ⟨Nat.zero_le _, Nat.zero_le _⟩ (t11) rfl t11.1 rfl hl.1 rfl rfl (Nat.le_of_ble_eq_true rfl) dX5_ifHung_51 hS (fun q h => h.elim (fun e => ⟨_, by decide, e⟩) (fun e => ⟨_, by decide, e⟩)) (fun Hn locs h_7 q_6 o_8 hS => ?_)
  have hz : Hn.size = H.size := q_6.trans hz
  have hX := zX_tr hinj hp hX o_8 h_7
  obtain ⟨hA, hsv, hhs, t5, t8, t9, t10, t11⟩ := id hX
  obtain ⟨h0, h1, h2, h3, h4, h5, h6, h7, hR⟩ := id hA
  refine lv_aload_n hx hb dX5_ifHung_54 rfl (lv_at hl 1 rfl) ?_
  refine z_get (ref := RX5) (C := RX5) (T := TX5) (N := 7) hx hb hts hin5 hown hG t5 rfl 0 (by decide) (by decide +kernel) rfl rfl dX5_ifHung_55 ?_
  refine z_getN (own := RX5) (ref := RX3) (host := "CharmBracelets") (C := RX3) (T := TX3) (N := 5) hx hb hts hin3 hown hG h0 rfl 3 (by decide) (List.mem_of_getElem? (i := 11) rfl) rfl rfl dX5_ifHung_58 ?_
  refine lv_aload_n hx hb dX5_ifHung_61 rfl (lv_at hl 1 rfl) ?_
  refine z_get (ref := RX5) (C := RX5) (T := TX5) (N := 7) hx hb hts hin5 hown hG t5 rfl 4 (by decide) (by decide +kernel) rfl rfl dX5_ifHung_62 ?_
  refine z_roVN (As := [.ref (ad 291)]) (rest := []) (host := "CharmBracelets") (q := (RX0, TX0, 2)) S hG (c_X0_slotSet E (mo := ad (0 + 4)) (mk := ad (0 + 5)) (ml := zMl nw) (sg := zSg nw) (n := (zSz nw r)) (f := (upd (zKd nw r) j (nI w))) hn hml6) 1 gX5_ifHung_X0_slotSet_n171 (List.mem_of_getElem? (i := 38) rfl) (by decide +kernel) rfl kX0_slotSet.2 ⟨Nat.le_of_ble_eq_true rfl, Nat.le_of_ble_eq_true rfl⟩ ⟨Nat.zero_le _, Nat.zero_le _⟩ (⟨h4, t11⟩) rfl h4.1 rfl hl.1 rfl rfl (Nat.le_of_ble_eq_true rfl) dX5_ifHung_65 ?_
  refine z_roSX (As := [.int (zset (zmt (zMl nw) (zSg nw) (zSz nw r) (upd (zKd nw r) j (nI w))) (zSz nw r))]) (rest := []) S hG (c_J6_bitCount_0f7a4 E (x := zset (zmt (zMl nw) (zSg nw) (zSz nw r) (upd (zKd nw r) j (nI w))) (zSz nw r))) 1 gX5_ifHung_J6_bitCount_0f7a4 rfl kJ6_bitCount_0f7a4.2 ⟨Nat.le_of_ble_eq_true rfl, Nat.le_of_ble_eq_true rfl⟩ ⟨Nat.zero_le _, Nat.zero_le _⟩ (trivial) rfl hl.1 rfl rfl (Nat.le_of_ble_eq_true rfl) dX5_ifHung_68 ?_
  exact hret _ _ _ _ _ hS (hz) dX5_ifHung_71 (rfl) (zsc hp hX)

set_option maxHeartbeats 4000000 in
set_option maxRecDepth 100000 in
theorem c_X5_bestSwap_0 (E : zEnv) {ad : Nat → Nat} {nw sv : zS} {an : Bool} {hs : Nat → zS} {ct ln : Nat} {cd : Nat → Int32} {x : Int32} (hok : zOk nw) (hinj : zInj ad) (hct : ct ≤ 5) (hq : zfnd (zSz nw) x = none) : zWR E yX5_bestSwap wsX5_bestSwap 5 114 [.ref (ad 287), .int (x)] (fun H => zCW E ad nw sv an hs ct ln cd H) (some (.int (-1))) (fun H => zCW E ad nw sv an hs ct ln cd H) (zAC ad) := by
  refine zWR.ofI (maxL := 8) rfl (Nat.le_of_ble_eq_true rfl) (fun p e s m args below meth c H Q hF hP hret ls hl => ?_)
  have S : CallFix p m c cX5_bestSwap 8 s args wsX5_bestSwap RX5 := hF.1
  have hG := hF.2
  obtain ⟨hx, hb, hml, hown, hts⟩ := id S
  have hS : va_S (zAC ad) H H [] := va_S.rf
  obtain ⟨locs, hlocs⟩ : ∃ x : List Loc, x = [] := ⟨_, rfl⟩
  rw [← hlocs] at hS ⊢
  have hz : H.size = H.size := rfl
  obtain ⟨π, tn, tt, nb, tf, hp, hX⟩ := hP
  obtain ⟨hA, hsv, hhs, t5, t8, t9, t10, t11⟩ := id hX
  obtain ⟨h0, h1, h2, h3, h4, h5, h6, h7, hR⟩ := id hA
  have hl : lv_has ls 8 [(0, .ref (ad 287)), (1, .int (x))] := hl
  have hin2 : ∀ w ∈ u_ws RX2 TX2 2, w ∈ wsX5_bestSwap := by decide +kernel
  have hin5 : ∀ w ∈ u_ws RX5 TX5 7, w ∈ wsX5_bestSwap := by decide +kernel
  refine lv_aload_n hx hb dX5_bestSwap_0 rfl (lv_at hl 0 rfl) ?_
  refine z_get (ref := RX5) (C := RX5) (T := TX5) (N := 7) hx hb hts hin5 hown hG t5 rfl 0 (by decide) (by decide +kernel) rfl rfl dX5_bestSwap_1 ?_
  refine lv_iload_n hx hb dX5_bestSwap_4 rfl (lv_at hl 1 rfl) ?_
  refine z_roVN (As := [.int (x)]) (rest := []) (host := "CharmBracelets") (q := (RX3, TX3, 5)) S hG (c_X3_find_0 E (ad := ad) (b := 0) (v := nw) hok.h16 hq) 1 gX5_bestSwap_X3_find_n66 (List.mem_of_getElem? (i := 18) rfl) (by decide +kernel) rfl kX3_find.2 ⟨Nat.le_of_ble_eq_true rfl, Nat.le_of_ble_eq_true rfl⟩ ⟨Nat.zero_le _, Nat.zero_le _⟩ (hA) rfl h0 rfl hl.1 rfl rfl (Nat.le_of_ble_eq_true rfl) dX5_bestSwap_5 ?_
  refine lv_astore_nN (lv' := [(2, .null), (0, .ref (ad 287)), (1, .int (x))]) hx hb dX5_bestSwap_8 rfl hl (by decide) rfl (fun ls hl => ?_)
  refine lv_aload_nN hx hb dX5_bestSwap_9 rfl (lv_at hl 0 rfl) ?_
  refine lv_ifnonnullN hx hb dX5_bestSwap_10 ?_
  refine lv_iconst (v := (-1)) hx hb dX5_bestSwap_13 (by decide) ?_
  exact hret _ _ _ _ _ hS (hz) dX5_bestSwap_14 (rfl) (zsc hp hX)

set_option maxHeartbeats 4000000 in
set_option maxRecDepth 100000 in
theorem c_X5_bestSwap_1 (E : zEnv) {ad : Nat → Nat} {nw sv : zS} {an : Bool} {hs : Nat → zS} {ct ln : Nat} {cd : Nat → Int32} {r : Nat} (hok : zOk nw) (hinj : zInj ad) (hct : ct ≤ 5) (hr : r < 6) (hr0 : zSz nw r ≠ 0) : zWR E yX5_bestSwap wsX5_bestSwap 5 114 [.ref (ad 287), .int (nI (r))] (fun H => zCW E ad nw sv an hs ct ln cd H) (some (.int ((zbsA (zWt nw) (zSz nw r) (zKd nw r) (zSz nw r)).1))) (fun H => zCW E ad nw sv an hs ct ln cd H) (zAC ad) := by
  refine zWR.ofI (maxL := 8) rfl (Nat.le_of_ble_eq_true rfl) (fun p e s m args below meth c H Q hF hP hret ls hl => ?_)
  have S : CallFix p m c cX5_bestSwap 8 s args wsX5_bestSwap RX5 := hF.1
  have hG := hF.2
  obtain ⟨hx, hb, hml, hown, hts⟩ := id S
  have hS : va_S (zAC ad) H H [] := va_S.rf
  obtain ⟨locs, hlocs⟩ : ∃ x : List Loc, x = [] := ⟨_, rfl⟩
  rw [← hlocs] at hS ⊢
  have hz : H.size = H.size := rfl
  obtain ⟨π, tn, tt, nb, tf, hp, hX⟩ := hP
  obtain ⟨hA, hsv, hhs, t5, t8, t9, t10, t11⟩ := id hX
  obtain ⟨h0, h1, h2, h3, h4, h5, h6, h7, hR⟩ := id hA
  have hn := hok.sz hr hr0
  have hl : lv_has ls 8 [(0, .ref (ad 287)), (1, .int (nI (r)))] := hl
  have hin2 : ∀ w ∈ u_ws RX2 TX2 2, w ∈ wsX5_bestSwap := by decide +kernel
  have hin5 : ∀ w ∈ u_ws RX5 TX5 7, w ∈ wsX5_bestSwap := by decide +kernel
  refine lv_aload_n hx hb dX5_bestSwap_0 rfl (lv_at hl 0 rfl) ?_
  refine z_get (ref := RX5) (C := RX5) (T := TX5) (N := 7) hx hb hts hin5 hown hG t5 rfl 0 (by decide) (by decide +kernel) rfl rfl dX5_bestSwap_1 ?_
  refine lv_iload_n hx hb dX5_bestSwap_4 rfl (lv_at hl 1 rfl) ?_
  refine z_roVN (As := [.int (nI (r))]) (rest := []) (host := "CharmBracelets") (q := (RX3, TX3, 5)) S hG (c_X3_find_1 E (ad := ad) (b := 0) (v := nw) (i := r) hr ⟨hr0, hok.h16 r hr⟩) 1 gX5_bestSwap_X3_find_n66 (List.mem_of_getElem? (i := 18) rfl) (by decide +kernel) rfl kX3_find.2 ⟨Nat.le_of_ble_eq_true rfl, Nat.le_of_ble_eq_true rfl⟩ ⟨Nat.zero_le _, Nat.zero_le _⟩ (hA) rfl h0 rfl hl.1 rfl rfl (Nat.le_of_ble_eq_true rfl) dX5_bestSwap_5 ?_
  refine lv_astore_n (lv' := [(2, .ref (ad (0 + 9 + 2 * r))), (0, .ref (ad 287)), (1, .int (nI (r)))]) hx hb dX5_bestSwap_8 rfl hl (by decide) rfl (fun ls hl => ?_)
  refine lv_aload_n hx hb dX5_bestSwap_9 rfl (lv_at hl 0 rfl) ?_
  refine lv_ifnonnull (tgt := 15) hx hb dX5_bestSwap_10 (by decide) ?_
  refine lv_aload_n hx hb dX5_bestSwap_15 rfl (lv_at hl 1 rfl) ?_
  refine z_get (ref := RX5) (C := RX5) (T := TX5) (N := 7) hx hb hts hin5 hown hG t5 rfl 4 (by decide) (by decide +kernel) rfl rfl dX5_bestSwap_16 ?_
  refine lv_aload_n hx hb dX5_bestSwap_19 rfl (lv_at hl 0 rfl) ?_
  refine z_wrVN (As := [.ref (ad (0 + 9 + 2 * r))]) (rest := []) (host := "CharmBracelets") (q := (RX2, TX2, 2)) S hG (c_X2_becomeLike E (a := ad 291) (k := ad 292) (b := ad (0 + 9 + 2 * r)) (kb := ad (0 + 10 + 2 * r)) (hinj.ne (by omega) (by omega) (by omega)) ⟨hinj.ne (by omega) (by omega) (by omega), hinj.ne (by omega) (by omega) (by omega), hinj.ne (by omega) (by omega) (by omega), hinj.ne (by omega) (by omega) (by omega)⟩) 1 gX5_bestSwap_X2_becomeLike_n215 (List.mem_of_getElem? (i := 17) rfl) (by decide +kernel) rfl kX2_becomeLike.2 ⟨Nat.le_of_ble_eq_true rfl, Nat.le_of_ble_eq_true rfl⟩ ⟨Nat.zero_le _, Nat.zero_le _⟩ (⟨t11, hR r (by omega)⟩) rfl t11.1 rfl hl.1 rfl rfl (Nat.le_of_ble_eq_true rfl) dX5_bestSwap_20 hS (fun q h => h.elim (fun e => ⟨_, by decide, e⟩) (fun e => ⟨_, by decide, e⟩)) (fun Hn locs h_2 q_1 o_3 hS => ?_)
  have hz : Hn.size = H.size := q_1.trans hz
  have hX := zX_tr hinj hp hX o_3 h_2
  obtain ⟨hA, hsv, hhs, t5, t8, t9, t10, t11⟩ := id hX
  obtain ⟨h0, h1, h2, h3, h4, h5, h6, h7, hR⟩ := id hA
  refine lv_bipush (v := (-6)) hx hb dX5_bestSwap_23 (by decide) ?_
  refine lv_istore_n (lv' := [(3, .int (-6)), (2, .ref (ad (0 + 9 + 2 * r))), (0, .ref (ad 287)), (1, .int (nI (r)))]) hx hb dX5_bestSwap_25 rfl hl (by decide) rfl (fun ls hl => ?_)
  refine lv_aload_n hx hb dX5_bestSwap_26 rfl (lv_at hl 2 rfl) ?_
  refine z_get (ref := RX5) (C := RX5) (T := TX5) (N := 7) hx hb hts hin5 hown hG t5 rfl 0 (by decide) (by decide +kernel) rfl rfl dX5_bestSwap_27 ?_
  refine lv_aload_n hx hb dX5_bestSwap_30 rfl (lv_at hl 1 rfl) ?_
  refine z_roVN (As := [.ref (ad (0 + 9 + 2 * r))]) (rest := []) (host := "CharmBracelets") (q := (RX3, TX3, 5)) S hG (c_X3_lean E (ad := ad) (b := 0) (v := nw) (n := (zSz nw r)) (f := (zKd nw r)) hn.2 (fun s hs => hok.2.1 r hr s hs)) 1 gX5_bestSwap_X3_lean_n95 (List.mem_of_getElem? (i := 27) rfl) (by decide +kernel) rfl kX3_lean.2 ⟨Nat.le_of_ble_eq_true rfl, Nat.le_of_ble_eq_true rfl⟩ ⟨Nat.zero_le _, Nat.zero_le _⟩ (⟨hA, hR r (by omega)⟩) rfl h0 rfl hl.1 rfl rfl (Nat.le_of_ble_eq_true rfl) dX5_bestSwap_31 ?_
  refine lv_istore (lv' := [(4, .int (zlean (zWt nw) (zSz nw r) (zKd nw r))), (3, .int (-6)), (2, .ref (ad (0 + 9 + 2 * r))), (0, .ref (ad 287)), (1, .int (nI (r)))]) hx hb dX5_bestSwap_34 hl (by decide) rfl (fun ls hl => ?_)
  refine lv_iconst (v := nI (0)) hx hb dX5_bestSwap_36 (by decide) ?_
  refine lv_istore (lv' := [(5, .int (nI (0))), (4, .int (zlean (zWt nw) (zSz nw r) (zKd nw r))), (3, .int (-6)), (2, .ref (ad (0 + 9 + 2 * r))), (0, .ref (ad 287)), (1, .int (nI (r)))]) hx hb dX5_bestSwap_37 hl (by decide) rfl (fun ls hl => ?_)
  have L39 : ∀ (dd : Nat) (i : Nat), (zSz nw r) - i < dd → (i ≤ (zSz nw r)) → ∀ (Hn : Heap) (locs : List Loc) (hS : va_S (zAC ad) H Hn locs) (hz : Hn.size = H.size) (hX : ∃ π : Nat → Nat, zPi π ∧ zCX E ad nw sv an hs ct ln cd π (zSz nw r) tt nb (zKd nw r) Hn) (ls : Array Slot), lv_has ls 8 [(0, .ref (ad 287)), (1, .int (nI (r))), (2, .ref (ad (0 + 9 + 2 * r))), (3, .int ((zbsA (zWt nw) (zSz nw r) (zKd nw r) i).1)), (4, .int ((zbsA (zWt nw) (zSz nw r) (zKd nw r) i).2)), (5, .int (nI (i)))] → W p (zl E) e (zRm 5 114) s m args below meth c Hn locs 0 0 Q (F0 m 39 ls []) := by
    intro dd
    induction dd with
    | zero => intro i hdd; exact absurd hdd (Nat.not_lt_zero _)
    | succ dd ih39 =>
      intro i hdd39 hi Hn locs hS hz hX ls hl
      obtain ⟨π, hp, hX⟩ := hX
      obtain ⟨hA, hsv, hhs, t5, t8, t9, t10, t11⟩ := id hX
      obtain ⟨h0, h1, h2, h3, h4, h5, h6, h7, hR⟩ := id hA
      refine lv_iload hx hb dX5_bestSwap_39 (lv_at hl 5 rfl) ?_
      refine lv_aload_n hx hb dX5_bestSwap_41 rfl (lv_at hl 0 rfl) ?_
      refine z_get (ref := RX5) (C := RX5) (T := TX5) (N := 7) hx hb hts hin5 hown hG t5 rfl 4 (by decide) (by decide +kernel) rfl rfl dX5_bestSwap_42 ?_
      refine z_getN (own := RX5) (ref := RX2) (host := "CharmBracelets") (C := RX2) (T := TX2) (N := 2) hx hb hts hin2 hown hG t11.1 rfl 0 (by decide) (List.mem_of_getElem? (i := 4) rfl) rfl rfl dX5_bestSwap_45 ?_
      refine z_cge (tgt := 115) hx hb dX5_bestSwap_48 (by decide) ⟨by omega, by omega⟩ (fun c_4 => ?_) (fun c_4 => ?_)
      · refine lv_iload_n hx hb dX5_bestSwap_115 rfl (lv_at hl 3 rfl) ?_
        exact hret _ _ _ _ _ hS (hz) dX5_bestSwap_116 (by rw [show i = (zSz nw r) by omega]) (zsc hp hX)
      · refine lv_iload hx hb dX5_bestSwap_51 (lv_at hl 5 rfl) ?_
        refine lv_iconst (v := nI (1)) hx hb dX5_bestSwap_53 (by decide) ?_
        refine z_iadd hx hb dX5_bestSwap_54 ?_
        refine lv_istore (lv' := [(6, .int (nI (i + 1))), (0, .ref (ad 287)), (1, .int (nI (r))), (2, .ref (ad (0 + 9 + 2 * r))), (3, .int ((zbsA (zWt nw) (zSz nw r) (zKd nw r) i).1)), (4, .int ((zbsA (zWt nw) (zSz nw r) (zKd nw r) i).2)), (5, .int (nI (i)))]) hx hb dX5_bestSwap_55 hl (by decide) rfl (fun ls hl => ?_)
        have L57 : ∀ (dd : Nat) (j : Nat), (zSz nw r) - j < dd → (i + 1 ≤ j ∧ j ≤ (zSz nw r)) → ∀ (Hn : Heap) (locs : List Loc) (hS : va_S (zAC ad) H Hn locs) (hz : Hn.size = H.size) (hX : ∃ π : Nat → Nat, zPi π ∧ zCX E ad nw sv an hs ct ln cd π (zSz nw r) tt nb (zKd nw r) Hn) (ls : Array Slot), lv_has ls 8 [(0, .ref (ad 287)), (1, .int (nI (r))), (2, .ref (ad (0 + 9 + 2 * r))), (3, .int ((zbsB (zWt nw) (zSz nw r) (zKd nw r) i (zbsA (zWt nw) (zSz nw r) (zKd nw r) i) j).1)), (4, .int ((zbsB (zWt nw) (zSz nw r) (zKd nw r) i (zbsA (zWt nw) (zSz nw r) (zKd nw r) i) j).2)), (5, .int (nI (i))), (6, .int (nI (j)))] → W p (zl E) e (zRm 5 114) s m args below meth c Hn locs 0 0 Q (F0 m 57 ls []) := by
          intro dd
          induction dd with
          | zero => intro j hdd; exact absurd hdd (Nat.not_lt_zero _)
          | succ dd ih57 =>
            intro j hdd57 hj Hn locs hS hz hX ls hl
            obtain ⟨π, hp, hX⟩ := hX
            obtain ⟨hA, hsv, hhs, t5, t8, t9, t10, t11⟩ := id hX
            obtain ⟨h0, h1, h2, h3, h4, h5, h6, h7, hR⟩ := id hA
            refine lv_iload hx hb dX5_bestSwap_57 (lv_at hl 6 rfl) ?_
            refine lv_aload_n hx hb dX5_bestSwap_59 rfl (lv_at hl 0 rfl) ?_
            refine z_get (ref := RX5) (C := RX5) (T := TX5) (N := 7) hx hb hts hin5 hown hG t5 rfl 4 (by decide) (by decide +kernel) rfl rfl dX5_bestSwap_60 ?_
            refine z_getN (own := RX5) (ref := RX2) (host := "CharmBracelets") (C := RX2) (T := TX2) (N := 2) hx hb hts hin2 hown hG t11.1 rfl 0 (by decide) (List.mem_of_getElem? (i := 4) rfl) rfl rfl dX5_bestSwap_63 ?_
            refine z_cge (tgt := 109) hx hb dX5_bestSwap_66 (by decide) ⟨by omega, by omega⟩ (fun c_5 => ?_) (fun c_5 => ?_)
            · refine lv_iinc (v := nI (i + 1)) (lv' := [(5, .int (nI (i + 1))), (0, .ref (ad 287)), (1, .int (nI (r))), (2, .ref (ad (0 + 9 + 2 * r))), (3, .int ((zbsB (zWt nw) (zSz nw r) (zKd nw r) i (zbsA (zWt nw) (zSz nw r) (zKd nw r) i) j).1)), (4, .int ((zbsB (zWt nw) (zSz nw r) (zKd nw r) i (zbsA (zWt nw) (zSz nw r) (zKd nw r) i) j).2)), (6, .int (nI (j)))]) hx hb dX5_bestSwap_109 hl (k := 5) rfl (z_inc1 _) (by decide) rfl (fun ls hl => ?_)
              refine lv_goto (tgt := 39) hx hb dX5_bestSwap_112 (by decide) ?_
              have hl9 := lv_sub hl [1, 2, 3, 4, 5, 0] (l' := [(0, .ref (ad 287)), (1, .int (nI (r))), (2, .ref (ad (0 + 9 + 2 * r))), (3, .int ((zbsB (zWt nw) (zSz nw r) (zKd nw r) i (zbsA (zWt nw) (zSz nw r) (zKd nw r) i) j).1)), (4, .int ((zbsB (zWt nw) (zSz nw r) (zKd nw r) i (zbsA (zWt nw) (zSz nw r) (zKd nw r) i) j).2)), (5, .int (nI (i + 1)))]) rfl
              have e9_3 : ((zbsB (zWt nw) (zSz nw r) (zKd nw r) i (zbsA (zWt nw) (zSz nw r) (zKd nw r) i) j).1) = ((zbsA (zWt nw) (zSz nw r) (zKd nw r) (i + 1)).1) := by rw [show j = (zSz nw r) by omega]; rfl
              have e9_4 : ((zbsB (zWt nw) (zSz nw r) (zKd nw r) i (zbsA (zWt nw) (zSz nw r) (zKd nw r) i) j).2) = ((zbsA (zWt nw) (zSz nw r) (zKd nw r) (i + 1)).2) := by rw [show j = (zSz nw r) by omega]; rfl
              have e9_5 : (i + 1) = ((i + 1)) := by omega
              exact ih39 (i + 1) (by omega) (by omega) _ _ hS hz (⟨π, hp, hX⟩) ls (by rw [← e9_3, ← e9_4, ← e9_5]; exact hl9)
            · refine lv_aload_n hx hb dX5_bestSwap_69 rfl (lv_at hl 0 rfl) ?_
              refine lv_aload_n hx hb dX5_bestSwap_70 rfl (lv_at hl 0 rfl) ?_
              refine z_get (ref := RX5) (C := RX5) (T := TX5) (N := 7) hx hb hts hin5 hown hG t5 rfl 4 (by decide) (by decide +kernel) rfl rfl dX5_bestSwap_71 ?_
              refine lv_iload hx hb dX5_bestSwap_74 (lv_at hl 5 rfl) ?_
              refine lv_iload hx hb dX5_bestSwap_76 (lv_at hl 6 rfl) ?_
              refine z_wrV (As := [.ref (ad 291), .int (nI (i)), .int (nI (j))]) (rest := []) (q := (RX5, TX5, 7)) S hG (c_X5_leanAfterSwap E hinj hp (i := i) (j := j) hn.2 ⟨by omega, by omega⟩ (fun s hs => zxc_k (fun s hs => hok.2.1 r hr s hs) (by omega) (by omega) hs)) 3 gX5_bestSwap_X5_leanAfterSwap rfl kX5_leanAfterSwap ⟨Nat.le_of_ble_eq_true rfl, Nat.le_of_ble_eq_true rfl⟩ ⟨Nat.zero_le _, Nat.zero_le _⟩ (hX) rfl t5 rfl hl.1 rfl rfl (Nat.le_of_ble_eq_true rfl) dX5_bestSwap_78 hS (fun _ h => h) (fun Hn locs h_7 q_6 o_8 hS => ?_)
              have hz : Hn.size = H.size := q_6.trans hz
              have hX := h_7
              obtain ⟨hA, hsv, hhs, t5, t8, t9, t10, t11⟩ := id hX
              obtain ⟨h0, h1, h2, h3, h4, h5, h6, h7, hR⟩ := id hA
              refine lv_istore (lv' := [(7, .int (zlean (zWt nw) (zSz nw r) (zxc (zKd nw r) i j))), (0, .ref (ad 287)), (1, .int (nI (r))), (2, .ref (ad (0 + 9 + 2 * r))), (3, .int ((zbsB (zWt nw) (zSz nw r) (zKd nw r) i (zbsA (zWt nw) (zSz nw r) (zKd nw r) i) j).1)), (4, .int ((zbsB (zWt nw) (zSz nw r) (zKd nw r) i (zbsA (zWt nw) (zSz nw r) (zKd nw r) i) j).2)), (5, .int (nI (i))), (6, .int (nI (j)))]) hx hb dX5_bestSwap_81 hl (by decide) rfl (fun ls hl => ?_)
              refine lv_iload hx hb dX5_bestSwap_83 (lv_at hl 0 rfl) ?_
              refine lv_iload hx hb dX5_bestSwap_85 (lv_at hl 5 rfl) ?_
              refine lv_icmp_ge (tgt := 103) hx hb dX5_bestSwap_87 (by decide) (fun c_9 => ?_) (fun c_9 => ?_)
              · refine lv_iinc (v := nI (j + 1)) (lv' := [(6, .int (nI (j + 1))), (7, .int (zlean (zWt nw) (zSz nw r) (zxc (zKd nw r) i j))), (0, .ref (ad 287)), (1, .int (nI (r))), (2, .ref (ad (0 + 9 + 2 * r))), (3, .int ((zbsB (zWt nw) (zSz nw r) (zKd nw r) i (zbsA (zWt nw) (zSz nw r) (zKd nw r) i) j).1)), (4, .int ((zbsB (zWt nw) (zSz nw r) (zKd nw r) i (zbsA (zWt nw) (zSz nw r) (zKd nw r) i) j).2)), (5, .int (nI (i)))]) hx hb dX5_bestSwap_103 hl (k := 7) rfl (z_inc1 _) (by decide) rfl (fun ls hl => ?_)
                refine lv_goto (tgt := 57) hx hb dX5_bestSwap_106 (by decide) ?_
                have hl9 := lv_sub hl [2, 3, 4, 5, 6, 7, 0] (l' := [(0, .ref (ad 287)), (1, .int (nI (r))), (2, .ref (ad (0 + 9 + 2 * r))), (3, .int ((zbsB (zWt nw) (zSz nw r) (zKd nw r) i (zbsA (zWt nw) (zSz nw r) (zKd nw r) i) j).1)), (4, .int ((zbsB (zWt nw) (zSz nw r) (zKd nw r) i (zbsA (zWt nw) (zSz nw r) (zKd nw r) i) j).2)), (5, .int (nI (i))), (6, .int (nI (j + 1)))]) rfl
                have e9_3 : ((zbsB (zWt nw) (zSz nw r) (zKd nw r) i (zbsA (zWt nw) (zSz nw r) (zKd nw r) i) j).1) = ((zbsB (zWt nw) (zSz nw r) (zKd nw r) i (zbsA (zWt nw) (zSz nw r) (zKd nw r) i) (j + 1)).1) := by rw [zbsB_n hj.1 c_9]
                have e9_4 : ((zbsB (zWt nw) (zSz nw r) (zKd nw r) i (zbsA (zWt nw) (zSz nw r) (zKd nw r) i) j).2) = ((zbsB (zWt nw) (zSz nw r) (zKd nw r) i (zbsA (zWt nw) (zSz nw r) (zKd nw r) i) (j + 1)).2) := by rw [zbsB_n hj.1 c_9]
                have e9_6 : (j + 1) = ((j + 1)) := by omega
                exact ih57 (j + 1) (by omega) (⟨by omega, by omega⟩) _ _ hS hz (⟨π, hp, hX⟩) ls (by rw [← e9_3, ← e9_4, ← e9_6]; exact hl9)
              · refine lv_iload hx hb dX5_bestSwap_90 (lv_at hl 0 rfl) ?_
                refine lv_istore (lv' := [(4, .int (zlean (zWt nw) (zSz nw r) (zxc (zKd nw r) i j))), (7, .int (zlean (zWt nw) (zSz nw r) (zxc (zKd nw r) i j))), (0, .ref (ad 287)), (1, .int (nI (r))), (2, .ref (ad (0 + 9 + 2 * r))), (3, .int ((zbsB (zWt nw) (zSz nw r) (zKd nw r) i (zbsA (zWt nw) (zSz nw r) (zKd nw r) i) j).1)), (5, .int (nI (i))), (6, .int (nI (j)))]) hx hb dX5_bestSwap_92 hl (by decide) rfl (fun ls hl => ?_)
                refine lv_bipush (v := nI (100)) hx hb dX5_bestSwap_94 (by decide) ?_
                refine lv_iload hx hb dX5_bestSwap_96 (lv_at hl 6 rfl) ?_
                refine z_imul hx hb dX5_bestSwap_98 ?_
                refine lv_iload hx hb dX5_bestSwap_99 (lv_at hl 7 rfl) ?_
                refine z_iadd hx hb dX5_bestSwap_101 ?_
                refine lv_istore_n (lv' := [(3, .int (nI ((100 * i) + j))), (4, .int (zlean (zWt nw) (zSz nw r) (zxc (zKd nw r) i j))), (7, .int (zlean (zWt nw) (zSz nw r) (zxc (zKd nw r) i j))), (0, .ref (ad 287)), (1, .int (nI (r))), (2, .ref (ad (0 + 9 + 2 * r))), (5, .int (nI (i))), (6, .int (nI (j)))]) hx hb dX5_bestSwap_102 rfl hl (by decide) rfl (fun ls hl => ?_)
                refine lv_iinc (v := nI (j + 1)) (lv' := [(6, .int (nI (j + 1))), (3, .int (nI ((100 * i) + j))), (4, .int (zlean (zWt nw) (zSz nw r) (zxc (zKd nw r) i j))), (7, .int (zlean (zWt nw) (zSz nw r) (zxc (zKd nw r) i j))), (0, .ref (ad 287)), (1, .int (nI (r))), (2, .ref (ad (0 + 9 + 2 * r))), (5, .int (nI (i)))]) hx hb dX5_bestSwap_103 hl (k := 7) rfl (z_inc1 _) (by decide) rfl (fun ls hl => ?_)
                refine lv_goto (tgt := 57) hx hb dX5_bestSwap_106 (by decide) ?_
                have hl9 := lv_sub hl [4, 5, 6, 1, 2, 7, 0] (l' := [(0, .ref (ad 287)), (1, .int (nI (r))), (2, .ref (ad (0 + 9 + 2 * r))), (3, .int (nI ((100 * i) + j))), (4, .int (zlean (zWt nw) (zSz nw r) (zxc (zKd nw r) i j))), (5, .int (nI (i))), (6, .int (nI (j + 1)))]) rfl
                have e9_3 : (nI ((100 * i) + j)) = (((zbsB (zWt nw) (zSz nw r) (zKd nw r) i (zbsA (zWt nw) (zSz nw r) (zKd nw r) i) (j + 1)).1)) := by rw [zbsB_y hj.1 (Int32.not_le.mp c_9)]
                have e9_4 : (zlean (zWt nw) (zSz nw r) (zxc (zKd nw r) i j)) = ((zbsB (zWt nw) (zSz nw r) (zKd nw r) i (zbsA (zWt nw) (zSz nw r) (zKd nw r) i) (j + 1)).2) := by rw [zbsB_y hj.1 (Int32.not_le.mp c_9)]
                have e9_6 : (j + 1) = ((j + 1)) := by omega
                exact ih57 (j + 1) (by omega) (⟨by omega, by omega⟩) _ _ hS hz (⟨π, hp, hX⟩) ls (by rw [← e9_3, ← e9_4, ← e9_6]; exact hl9)
        rw [show (zbsA (zWt nw) (zSz nw r) (zKd nw r) i).1 = (zbsB (zWt nw) (zSz nw r) (zKd nw r) i (zbsA (zWt nw) (zSz nw r) (zKd nw r) i) (i + 1)).1 by rw [zbsB_i], show (zbsA (zWt nw) (zSz nw r) (zKd nw r) i).2 = (zbsB (zWt nw) (zSz nw r) (zKd nw r) i (zbsA (zWt nw) (zSz nw r) (zKd nw r) i) (i + 1)).2 by rw [zbsB_i]] at hl
        exact L57 (((zSz nw r) - (i + 1)) + 1) (i + 1) (Nat.lt_succ_self _) (⟨Nat.le_refl _, by omega⟩) _ _ hS hz (⟨π, hp, hX⟩) ls (lv_sub hl [1, 2, 3, 4, 5, 6, 0] rfl)
  exact L39 (((zSz nw r) - (0)) + 1) (0) (Nat.lt_succ_self _) (Nat.zero_le _) _ _ hS hz (⟨π, hp, hX⟩) ls (lv_sub hl [4, 5, 3, 2, 1, 0] rfl)
