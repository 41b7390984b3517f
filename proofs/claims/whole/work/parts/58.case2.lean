/-! the law's cases -/
set_option maxHeartbeats 4000000 in
set_option maxRecDepth 100000 in
theorem lw_c_distance {p : Program} {e : Env} {s : State} {m : MethodId} {b L : Nat} {xs : Nat → Int32} {below : List Frame} {meth : Method} {c : Code} {E : zEnv} {ad am : Nat → Nat} {Q : State → Prop} {i : Nat} (F : zLF E p s m c b L xs) (D : zLA ad am s) (hi : i + 3 < L) (kk : zLG p e s m b below meth c E ad am Q i 1309) : zLG p e s m b below meth c E ad am Q i 838 := by
  intro τ H locs hs ls hl
  obtain ⟨S, hG, hX, hbl, hL⟩ := F
  obtain ⟨hin, him, hA1, hA2, hdis⟩ := D
  obtain ⟨hv, hc, hmw, hS⟩ := hs
  have hbA : ¬ (fun q : Nat => s.heap.size ≤ q) b := Nat.not_le.mpr hbl
  obtain ⟨hx, hb, hml, hown, hts⟩ := id S
  obtain ⟨nw, sv, an, hh, ct, ln, cd⟩ := τ
  obtain ⟨r, o5, o6⟩ := op_distance E hin him hv (xs (nI (i + 1)).toNatClampNeg) (xs (nI (i + 2)).toNatClampNeg)
  obtain ⟨f5, h5⟩ := zCWt_recv hc
  refine lv_aload_n hx hb dL_law_838 rfl (lv_at hl 1 rfl) ?_
  refine lv_aload_n hx hb dL_law_839 rfl (lv_at hl 0 rfl) ?_
  refine lv_iload_n hx hb dL_law_840 rfl (lv_at hl 3 rfl) ?_
  refine lv_iconst (v := nI 1) hx hb dL_law_841 (by decide) ?_
  refine z_iadd hx hb dL_law_842 ?_
  refine va_sld hx hb hX hbl hbA hS (vp_in_nI (show i + 1 < L by omega) (by omega)) dL_law_843 ?_
  refine lv_aload_n hx hb dL_law_844 rfl (lv_at hl 0 rfl) ?_
  refine lv_iload_n hx hb dL_law_845 rfl (lv_at hl 3 rfl) ?_
  refine lv_iconst (v := nI 2) hx hb dL_law_846 (by decide) ?_
  refine z_iadd hx hb dL_law_847 ?_
  refine va_sld hx hb hX hbl hbA hS (vp_in_nI (show i + 2 < L by omega) (by omega)) dL_law_848 ?_
  refine z_roV (As := [.int (xs (nI (i + 1)).toNatClampNeg), .int (xs (nI (i + 2)).toNatClampNeg)]) (rest := []) (q := (RX5, TX5, 7)) S hG o5 2 gL_law_X5_distance rfl kX5_distance ⟨Nat.le_of_ble_eq_true rfl, Nat.le_of_ble_eq_true rfl⟩ ⟨Nat.le_of_ble_eq_true rfl, Nat.le_of_ble_eq_true rfl⟩ hc rfl h5 rfl hl.1 rfl rfl (Nat.le_of_ble_eq_true rfl) dL_law_849 ?_
  have hmw1 := hmw
  obtain ⟨f6, h6⟩ := zMWt_recv hmw1
  refine lv_aload_n hx hb dL_law_852 rfl (lv_at hl 2 rfl) ?_
  refine lv_aload_n hx hb dL_law_853 rfl (lv_at hl 0 rfl) ?_
  refine lv_iload_n hx hb dL_law_854 rfl (lv_at hl 3 rfl) ?_
  refine lv_iconst (v := nI 1) hx hb dL_law_855 (by decide) ?_
  refine z_iadd hx hb dL_law_856 ?_
  refine va_sld hx hb hX hbl hbA hS (vp_in_nI (show i + 1 < L by omega) (by omega)) dL_law_857 ?_
  refine lv_aload_n hx hb dL_law_858 rfl (lv_at hl 0 rfl) ?_
  refine lv_iload_n hx hb dL_law_859 rfl (lv_at hl 3 rfl) ?_
  refine lv_iconst (v := nI 2) hx hb dL_law_860 (by decide) ?_
  refine z_iadd hx hb dL_law_861 ?_
  refine va_sld hx hb hX hbl hbA hS (vp_in_nI (show i + 2 < L by omega) (by omega)) dL_law_862 ?_
  refine z_roV (As := [.int (xs (nI (i + 1)).toNatClampNeg), .int (xs (nI (i + 2)).toNatClampNeg)]) (rest := [.int r]) (q := (RX6, TX6, 11)) S hG o6 2 gL_law_X6_distance rfl kX6_distance ⟨Nat.le_of_ble_eq_true rfl, Nat.le_of_ble_eq_true rfl⟩ ⟨Nat.le_of_ble_eq_true rfl, Nat.le_of_ble_eq_true rfl⟩ hmw1 rfl h6 rfl hl.1 rfl rfl (Nat.le_of_ble_eq_true rfl) dL_law_863 ?_
  refine lv_icmp_eq (tgt := 1309) hx hb dL_law_866 (by decide) (fun _ => ?_) (fun q => absurd rfl q)
  exact kk _ _ _ ⟨hv, hc, hmw, hS⟩ ls hl
set_option maxHeartbeats 4000000 in
set_option maxRecDepth 100000 in
theorem lw_c_classes {p : Program} {e : Env} {s : State} {m : MethodId} {b L : Nat} {xs : Nat → Int32} {below : List Frame} {meth : Method} {c : Code} {E : zEnv} {ad am : Nat → Nat} {Q : State → Prop} {i : Nat} (F : zLF E p s m c b L xs) (D : zLA ad am s) (hi : i + 3 < L) (kk : zLG p e s m b below meth c E ad am Q i 1309) : zLG p e s m b below meth c E ad am Q i 871 := by
  intro τ H locs hs ls hl
  obtain ⟨S, hG, hX, hbl, hL⟩ := F
  obtain ⟨hin, him, hA1, hA2, hdis⟩ := D
  obtain ⟨hv, hc, hmw, hS⟩ := hs
  have hbA : ¬ (fun q : Nat => s.heap.size ≤ q) b := Nat.not_le.mpr hbl
  obtain ⟨hx, hb, hml, hown, hts⟩ := id S
  obtain ⟨nw, sv, an, hh, ct, ln, cd⟩ := τ
  obtain ⟨r, o5, o6⟩ := op_classes E (ad := ad) (am := am) (xs (nI (i + 1)).toNatClampNeg) (xs (nI (i + 2)).toNatClampNeg) (xs (nI (i + 3)).toNatClampNeg)
  obtain ⟨f5, h5⟩ := zCWt_recv hc
  refine lv_aload_n hx hb dL_law_871 rfl (lv_at hl 1 rfl) ?_
  refine lv_aload_n hx hb dL_law_872 rfl (lv_at hl 0 rfl) ?_
  refine lv_iload_n hx hb dL_law_873 rfl (lv_at hl 3 rfl) ?_
  refine lv_iconst (v := nI 1) hx hb dL_law_874 (by decide) ?_
  refine z_iadd hx hb dL_law_875 ?_
  refine va_sld hx hb hX hbl hbA hS (vp_in_nI (show i + 1 < L by omega) (by omega)) dL_law_876 ?_
  refine lv_aload_n hx hb dL_law_877 rfl (lv_at hl 0 rfl) ?_
  refine lv_iload_n hx hb dL_law_878 rfl (lv_at hl 3 rfl) ?_
  refine lv_iconst (v := nI 2) hx hb dL_law_879 (by decide) ?_
  refine z_iadd hx hb dL_law_880 ?_
  refine va_sld hx hb hX hbl hbA hS (vp_in_nI (show i + 2 < L by omega) (by omega)) dL_law_881 ?_
  refine lv_aload_n hx hb dL_law_882 rfl (lv_at hl 0 rfl) ?_
  refine lv_iload_n hx hb dL_law_883 rfl (lv_at hl 3 rfl) ?_
  refine lv_iconst (v := nI 3) hx hb dL_law_884 (by decide) ?_
  refine z_iadd hx hb dL_law_885 ?_
  refine va_sld hx hb hX hbl hbA hS (vp_in_nI (show i + 3 < L by omega) (by omega)) dL_law_886 ?_
  refine z_roV (As := [.int (xs (nI (i + 1)).toNatClampNeg), .int (xs (nI (i + 2)).toNatClampNeg), .int (xs (nI (i + 3)).toNatClampNeg)]) (rest := []) (q := (RX5, TX5, 7)) S hG o5 3 gL_law_X5_classes rfl kX5_classes ⟨Nat.le_of_ble_eq_true rfl, Nat.le_of_ble_eq_true rfl⟩ ⟨Nat.le_of_ble_eq_true rfl, Nat.le_of_ble_eq_true rfl⟩ trivial rfl h5 rfl hl.1 rfl rfl (Nat.le_of_ble_eq_true rfl) dL_law_887 ?_
  have hmw1 := hmw
  obtain ⟨f6, h6⟩ := zMWt_recv hmw1
  refine lv_aload_n hx hb dL_law_890 rfl (lv_at hl 2 rfl) ?_
  refine lv_aload_n hx hb dL_law_891 rfl (lv_at hl 0 rfl) ?_
  refine lv_iload_n hx hb dL_law_892 rfl (lv_at hl 3 rfl) ?_
  refine lv_iconst (v := nI 1) hx hb dL_law_893 (by decide) ?_
  refine z_iadd hx hb dL_law_894 ?_
  refine va_sld hx hb hX hbl hbA hS (vp_in_nI (show i + 1 < L by omega) (by omega)) dL_law_895 ?_
  refine lv_aload_n hx hb dL_law_896 rfl (lv_at hl 0 rfl) ?_
  refine lv_iload_n hx hb dL_law_897 rfl (lv_at hl 3 rfl) ?_
  refine lv_iconst (v := nI 2) hx hb dL_law_898 (by decide) ?_
  refine z_iadd hx hb dL_law_899 ?_
  refine va_sld hx hb hX hbl hbA hS (vp_in_nI (show i + 2 < L by omega) (by omega)) dL_law_900 ?_
  refine lv_aload_n hx hb dL_law_901 rfl (lv_at hl 0 rfl) ?_
  refine lv_iload_n hx hb dL_law_902 rfl (lv_at hl 3 rfl) ?_
  refine lv_iconst (v := nI 3) hx hb dL_law_903 (by decide) ?_
  refine z_iadd hx hb dL_law_904 ?_
  refine va_sld hx hb hX hbl hbA hS (vp_in_nI (show i + 3 < L by omega) (by omega)) dL_law_905 ?_
  refine z_roV (As := [.int (xs (nI (i + 1)).toNatClampNeg), .int (xs (nI (i + 2)).toNatClampNeg), .int (xs (nI (i + 3)).toNatClampNeg)]) (rest := [.long r]) (q := (RX6, TX6, 11)) S hG o6 3 gL_law_X6_classes rfl kX6_classes ⟨Nat.le_of_ble_eq_true rfl, Nat.le_of_ble_eq_true rfl⟩ ⟨Nat.le_of_ble_eq_true rfl, Nat.le_of_ble_eq_true rfl⟩ trivial rfl h6 rfl hl.1 rfl rfl (Nat.le_of_ble_eq_true rfl) dL_law_906 ?_
  refine W.lcmp hx hb dL_law_909 ?_
  refine z_top (y := 0) (by simp [lg_cmp]) ?_
  refine lv_if_eq (tgt := 1309) hx hb dL_law_910 (by decide) (fun _ => ?_) (fun q => absurd rfl q)
  exact kk _ _ _ ⟨hv, hc, hmw, hS⟩ ls hl
set_option maxHeartbeats 4000000 in
set_option maxRecDepth 100000 in
theorem lw_c_setMotif {p : Program} {e : Env} {s : State} {m : MethodId} {b L : Nat} {xs : Nat → Int32} {below : List Frame} {meth : Method} {c : Code} {E : zEnv} {ad am : Nat → Nat} {Q : State → Prop} {i : Nat} (F : zLF E p s m c b L xs) (D : zLA ad am s) (hi : i + 3 < L) (kk : zLG p e s m b below meth c E ad am Q i 1309) : zLG p e s m b below meth c E ad am Q i 915 := by
  intro τ H locs hs ls hl
  obtain ⟨S, hG, hX, hbl, hL⟩ := F
  obtain ⟨hin, him, hA1, hA2, hdis⟩ := D
  obtain ⟨hv, hc, hmw, hS⟩ := hs
  have hbA : ¬ (fun q : Nat => s.heap.size ≤ q) b := Nat.not_le.mpr hbl
  obtain ⟨hx, hb, hml, hown, hts⟩ := id S
  obtain ⟨nw, sv, an, hh, ct, ln, cd⟩ := τ
  obtain ⟨r, τ1, hv1, o5, o6⟩ := op_setMotif E hin him hv (xs (nI (i + 1)).toNatClampNeg) (xs (nI (i + 2)).toNatClampNeg) (xs (nI (i + 3)).toNatClampNeg)
  obtain ⟨f5, h5⟩ := zCWt_recv hc
  refine lv_aload_n hx hb dL_law_915 rfl (lv_at hl 1 rfl) ?_
  refine lv_aload_n hx hb dL_law_916 rfl (lv_at hl 0 rfl) ?_
  refine lv_iload_n hx hb dL_law_917 rfl (lv_at hl 3 rfl) ?_
  refine lv_iconst (v := nI 1) hx hb dL_law_918 (by decide) ?_
  refine z_iadd hx hb dL_law_919 ?_
  refine va_sld hx hb hX hbl hbA hS (vp_in_nI (show i + 1 < L by omega) (by omega)) dL_law_920 ?_
  refine lv_aload_n hx hb dL_law_921 rfl (lv_at hl 0 rfl) ?_
  refine lv_iload_n hx hb dL_law_922 rfl (lv_at hl 3 rfl) ?_
  refine lv_iconst (v := nI 2) hx hb dL_law_923 (by decide) ?_
  refine z_iadd hx hb dL_law_924 ?_
  refine va_sld hx hb hX hbl hbA hS (vp_in_nI (show i + 2 < L by omega) (by omega)) dL_law_925 ?_
  refine lv_aload_n hx hb dL_law_926 rfl (lv_at hl 0 rfl) ?_
  refine lv_iload_n hx hb dL_law_927 rfl (lv_at hl 3 rfl) ?_
  refine lv_iconst (v := nI 3) hx hb dL_law_928 (by decide) ?_
  refine z_iadd hx hb dL_law_929 ?_
  refine va_sld hx hb hX hbl hbA hS (vp_in_nI (show i + 3 < L by omega) (by omega)) dL_law_930 ?_
  refine z_wrV (As := [.int (xs (nI (i + 1)).toNatClampNeg), .int (xs (nI (i + 2)).toNatClampNeg), .int (xs (nI (i + 3)).toNatClampNeg)]) (rest := []) (q := (RX5, TX5, 7)) S hG o5 3 gL_law_X5_setMotif rfl kX5_setMotif ⟨Nat.le_of_ble_eq_true rfl, Nat.le_of_ble_eq_true rfl⟩ ⟨Nat.le_of_ble_eq_true rfl, Nat.le_of_ble_eq_true rfl⟩ hc rfl h5 rfl hl.1 rfl rfl (Nat.le_of_ble_eq_true rfl) dL_law_931 hS hA1 (fun H1 locs hc1 hz1 ho1 hS => ?_)
  have hmw1 := zMWt_kept hmw (fun q hq => ho1 q (hdis q hq))
  obtain ⟨f6, h6⟩ := zMWt_recv hmw1
  refine lv_aload_n hx hb dL_law_934 rfl (lv_at hl 2 rfl) ?_
  refine lv_aload_n hx hb dL_law_935 rfl (lv_at hl 0 rfl) ?_
  refine lv_iload_n hx hb dL_law_936 rfl (lv_at hl 3 rfl) ?_
  refine lv_iconst (v := nI 1) hx hb dL_law_937 (by decide) ?_
  refine z_iadd hx hb dL_law_938 ?_
  refine va_sld hx hb hX hbl hbA hS (vp_in_nI (show i + 1 < L by omega) (by omega)) dL_law_939 ?_
  refine lv_aload_n hx hb dL_law_940 rfl (lv_at hl 0 rfl) ?_
  refine lv_iload_n hx hb dL_law_941 rfl (lv_at hl 3 rfl) ?_
  refine lv_iconst (v := nI 2) hx hb dL_law_942 (by decide) ?_
  refine z_iadd hx hb dL_law_943 ?_
  refine va_sld hx hb hX hbl hbA hS (vp_in_nI (show i + 2 < L by omega) (by omega)) dL_law_944 ?_
  refine lv_aload_n hx hb dL_law_945 rfl (lv_at hl 0 rfl) ?_
  refine lv_iload_n hx hb dL_law_946 rfl (lv_at hl 3 rfl) ?_
  refine lv_iconst (v := nI 3) hx hb dL_law_947 (by decide) ?_
  refine z_iadd hx hb dL_law_948 ?_
  refine va_sld hx hb hX hbl hbA hS (vp_in_nI (show i + 3 < L by omega) (by omega)) dL_law_949 ?_
  refine z_wrV (As := [.int (xs (nI (i + 1)).toNatClampNeg), .int (xs (nI (i + 2)).toNatClampNeg), .int (xs (nI (i + 3)).toNatClampNeg)]) (rest := [.int r]) (q := (RX6, TX6, 11)) S hG o6 3 gL_law_X6_setMotif rfl kX6_setMotif ⟨Nat.le_of_ble_eq_true rfl, Nat.le_of_ble_eq_true rfl⟩ ⟨Nat.le_of_ble_eq_true rfl, Nat.le_of_ble_eq_true rfl⟩ hmw1 rfl h6 rfl hl.1 rfl rfl (Nat.le_of_ble_eq_true rfl) dL_law_950 hS hA2 (fun H2 locs hm2 hz2 ho2 hS => ?_)
  have hc2 := zCWt_kept hc1 (fun q hq => ho2 q (fun z => hdis q z hq))
  refine lv_icmp_eq (tgt := 1309) hx hb dL_law_953 (by decide) (fun _ => ?_) (fun q => absurd rfl q)
  exact kk _ _ _ ⟨hv1, hc2, hm2, hS⟩ ls hl
set_option maxHeartbeats 4000000 in
set_option maxRecDepth 100000 in
theorem lw_c_sign {p : Program} {e : Env} {s : State} {m : MethodId} {b L : Nat} {xs : Nat → Int32} {below : List Frame} {meth : Method} {c : Code} {E : zEnv} {ad am : Nat → Nat} {Q : State → Prop} {i : Nat} (F : zLF E p s m c b L xs) (D : zLA ad am s) (hi : i + 3 < L) (kk : zLG p e s m b below meth c E ad am Q i 1309) : zLG p e s m b below meth c E ad am Q i 958 := by
  intro τ H locs hs ls hl
  obtain ⟨S, hG, hX, hbl, hL⟩ := F
  obtain ⟨hin, him, hA1, hA2, hdis⟩ := D
  obtain ⟨hv, hc, hmw, hS⟩ := hs
  have hbA : ¬ (fun q : Nat => s.heap.size ≤ q) b := Nat.not_le.mpr hbl
  obtain ⟨hx, hb, hml, hown, hts⟩ := id S
  obtain ⟨nw, sv, an, hh, ct, ln, cd⟩ := τ
  obtain ⟨r, τ1, hv1, o5, o6⟩ := op_sign E hin him hv (xs (nI (i + 1)).toNatClampNeg) (xs (nI (i + 2)).toNatClampNeg)
  obtain ⟨f5, h5⟩ := zCWt_recv hc
  refine lv_aload_n hx hb dL_law_958 rfl (lv_at hl 1 rfl) ?_
  refine lv_aload_n hx hb dL_law_959 rfl (lv_at hl 0 rfl) ?_
  refine lv_iload_n hx hb dL_law_960 rfl (lv_at hl 3 rfl) ?_
  refine lv_iconst (v := nI 1) hx hb dL_law_961 (by decide) ?_
  refine z_iadd hx hb dL_law_962 ?_
  refine va_sld hx hb hX hbl hbA hS (vp_in_nI (show i + 1 < L by omega) (by omega)) dL_law_963 ?_
  refine lv_aload_n hx hb dL_law_964 rfl (lv_at hl 0 rfl) ?_
  refine lv_iload_n hx hb dL_law_965 rfl (lv_at hl 3 rfl) ?_
  refine lv_iconst (v := nI 2) hx hb dL_law_966 (by decide) ?_
  refine z_iadd hx hb dL_law_967 ?_
  refine va_sld hx hb hX hbl hbA hS (vp_in_nI (show i + 2 < L by omega) (by omega)) dL_law_968 ?_
  refine z_wrV (As := [.int (xs (nI (i + 1)).toNatClampNeg), .int (xs (nI (i + 2)).toNatClampNeg)]) (rest := []) (q := (RX5, TX5, 7)) S hG o5 2 gL_law_X5_sign rfl kX5_sign ⟨Nat.le_of_ble_eq_true rfl, Nat.le_of_ble_eq_true rfl⟩ ⟨Nat.le_of_ble_eq_true rfl, Nat.le_of_ble_eq_true rfl⟩ hc rfl h5 rfl hl.1 rfl rfl (Nat.le_of_ble_eq_true rfl) dL_law_969 hS hA1 (fun H1 locs hc1 hz1 ho1 hS => ?_)
  have hmw1 := zMWt_kept hmw (fun q hq => ho1 q (hdis q hq))
  obtain ⟨f6, h6⟩ := zMWt_recv hmw1
  refine lv_aload_n hx hb dL_law_972 rfl (lv_at hl 2 rfl) ?_
  refine lv_aload_n hx hb dL_law_973 rfl (lv_at hl 0 rfl) ?_
  refine lv_iload_n hx hb dL_law_974 rfl (lv_at hl 3 rfl) ?_
  refine lv_iconst (v := nI 1) hx hb dL_law_975 (by decide) ?_
  refine z_iadd hx hb dL_law_976 ?_
  refine va_sld hx hb hX hbl hbA hS (vp_in_nI (show i + 1 < L by omega) (by omega)) dL_law_977 ?_
  refine lv_aload_n hx hb dL_law_978 rfl (lv_at hl 0 rfl) ?_
  refine lv_iload_n hx hb dL_law_979 rfl (lv_at hl 3 rfl) ?_
  refine lv_iconst (v := nI 2) hx hb dL_law_980 (by decide) ?_
  refine z_iadd hx hb dL_law_981 ?_
  refine va_sld hx hb hX hbl hbA hS (vp_in_nI (show i + 2 < L by omega) (by omega)) dL_law_982 ?_
  refine z_wrV (As := [.int (xs (nI (i + 1)).toNatClampNeg), .int (xs (nI (i + 2)).toNatClampNeg)]) (rest := [.int r]) (q := (RX6, TX6, 11)) S hG o6 2 gL_law_X6_sign rfl kX6_sign ⟨Nat.le_of_ble_eq_true rfl, Nat.le_of_ble_eq_true rfl⟩ ⟨Nat.le_of_ble_eq_true rfl, Nat.le_of_ble_eq_true rfl⟩ hmw1 rfl h6 rfl hl.1 rfl rfl (Nat.le_of_ble_eq_true rfl) dL_law_983 hS hA2 (fun H2 locs hm2 hz2 ho2 hS => ?_)
  have hc2 := zCWt_kept hc1 (fun q hq => ho2 q (fun z => hdis q z hq))
  refine lv_icmp_eq (tgt := 1309) hx hb dL_law_986 (by decide) (fun _ => ?_) (fun q => absurd rfl q)
  exact kk _ _ _ ⟨hv1, hc2, hm2, hS⟩ ls hl
set_option maxHeartbeats 4000000 in
set_option maxRecDepth 100000 in
theorem lw_c_cutMotif {p : Program} {e : Env} {s : State} {m : MethodId} {b L : Nat} {xs : Nat → Int32} {below : List Frame} {meth : Method} {c : Code} {E : zEnv} {ad am : Nat → Nat} {Q : State → Prop} {i : Nat} (F : zLF E p s m c b L xs) (D : zLA ad am s) (hi : i + 3 < L) (kk : zLG p e s m b below meth c E ad am Q i 1309) : zLG p e s m b below meth c E ad am Q i 991 := by
  intro τ H locs hs ls hl
  obtain ⟨S, hG, hX, hbl, hL⟩ := F
  obtain ⟨hin, him, hA1, hA2, hdis⟩ := D
  obtain ⟨hv, hc, hmw, hS⟩ := hs
  have hbA : ¬ (fun q : Nat => s.heap.size ≤ q) b := Nat.not_le.mpr hbl
  obtain ⟨hx, hb, hml, hown, hts⟩ := id S
  obtain ⟨nw, sv, an, hh, ct, ln, cd⟩ := τ
  obtain ⟨r, τ1, hv1, o5, o6⟩ := op_cutMotif E hin him hv 
  obtain ⟨f5, h5⟩ := zCWt_recv hc
  refine lv_aload_n hx hb dL_law_991 rfl (lv_at hl 1 rfl) ?_
  refine z_wrV (As := []) (rest := []) (q := (RX5, TX5, 7)) S hG o5 0 gL_law_X5_cutMotif rfl kX5_cutMotif ⟨Nat.le_of_ble_eq_true rfl, Nat.le_of_ble_eq_true rfl⟩ ⟨Nat.le_of_ble_eq_true rfl, Nat.le_of_ble_eq_true rfl⟩ hc rfl h5 rfl hl.1 rfl rfl (Nat.le_of_ble_eq_true rfl) dL_law_992 hS hA1 (fun H1 locs hc1 hz1 ho1 hS => ?_)
  have hmw1 := zMWt_kept hmw (fun q hq => ho1 q (hdis q hq))
  obtain ⟨f6, h6⟩ := zMWt_recv hmw1
  refine lv_aload_n hx hb dL_law_995 rfl (lv_at hl 2 rfl) ?_
  refine z_wrV (As := []) (rest := [.int r]) (q := (RX6, TX6, 11)) S hG o6 0 gL_law_X6_cutMotif rfl kX6_cutMotif ⟨Nat.le_of_ble_eq_true rfl, Nat.le_of_ble_eq_true rfl⟩ ⟨Nat.le_of_ble_eq_true rfl, Nat.le_of_ble_eq_true rfl⟩ hmw1 rfl h6 rfl hl.1 rfl rfl (Nat.le_of_ble_eq_true rfl) dL_law_996 hS hA2 (fun H2 locs hm2 hz2 ho2 hS => ?_)
  have hc2 := zCWt_kept hc1 (fun q hq => ho2 q (fun z => hdis q z hq))
  refine lv_icmp_eq (tgt := 1309) hx hb dL_law_999 (by decide) (fun _ => ?_) (fun q => absurd rfl q)
  exact kk _ _ _ ⟨hv1, hc2, hm2, hS⟩ ls hl
set_option maxHeartbeats 4000000 in
set_option maxRecDepth 100000 in
theorem lw_c_motif {p : Program} {e : Env} {s : State} {m : MethodId} {b L : Nat} {xs : Nat → Int32} {below : List Frame} {meth : Method} {c : Code} {E : zEnv} {ad am : Nat → Nat} {Q : State → Prop} {i : Nat} (F : zLF E p s m c b L xs) (D : zLA ad am s) (hi : i + 3 < L) (kk : zLG p e s m b below meth c E ad am Q i 1309) : zLG p e s m b below meth c E ad am Q i 1004 := by
  intro τ H locs hs ls hl
  obtain ⟨S, hG, hX, hbl, hL⟩ := F
  obtain ⟨hin, him, hA1, hA2, hdis⟩ := D
  obtain ⟨hv, hc, hmw, hS⟩ := hs
  have hbA : ¬ (fun q : Nat => s.heap.size ≤ q) b := Nat.not_le.mpr hbl
  obtain ⟨hx, hb, hml, hown, hts⟩ := id S
  obtain ⟨nw, sv, an, hh, ct, ln, cd⟩ := τ
  obtain ⟨r, o5, o6⟩ := op_motif E hin him hv (xs (nI (i + 1)).toNatClampNeg)
  obtain ⟨f5, h5⟩ := zCWt_recv hc
  refine lv_aload_n hx hb dL_law_1004 rfl (lv_at hl 1 rfl) ?_
  refine lv_aload_n hx hb dL_law_1005 rfl (lv_at hl 0 rfl) ?_
  refine lv_iload_n hx hb dL_law_1006 rfl (lv_at hl 3 rfl) ?_
  refine lv_iconst (v := nI 1) hx hb dL_law_1007 (by decide) ?_
  refine z_iadd hx hb dL_law_1008 ?_
  refine va_sld hx hb hX hbl hbA hS (vp_in_nI (show i + 1 < L by omega) (by omega)) dL_law_1009 ?_
  refine z_roV (As := [.int (xs (nI (i + 1)).toNatClampNeg)]) (rest := []) (q := (RX5, TX5, 7)) S hG o5 1 gL_law_X5_motif rfl kX5_motif ⟨Nat.le_of_ble_eq_true rfl, Nat.le_of_ble_eq_true rfl⟩ ⟨Nat.le_of_ble_eq_true rfl, Nat.le_of_ble_eq_true rfl⟩ hc rfl h5 rfl hl.1 rfl rfl (Nat.le_of_ble_eq_true rfl) dL_law_1010 ?_
  have hmw1 := hmw
  obtain ⟨f6, h6⟩ := zMWt_recv hmw1
  refine lv_aload_n hx hb dL_law_1013 rfl (lv_at hl 2 rfl) ?_
  refine lv_aload_n hx hb dL_law_1014 rfl (lv_at hl 0 rfl) ?_
  refine lv_iload_n hx hb dL_law_1015 rfl (lv_at hl 3 rfl) ?_
  refine lv_iconst (v := nI 1) hx hb dL_law_1016 (by decide) ?_
  refine z_iadd hx hb dL_law_1017 ?_
  refine va_sld hx hb hX hbl hbA hS (vp_in_nI (show i + 1 < L by omega) (by omega)) dL_law_1018 ?_
  refine z_roV (As := [.int (xs (nI (i + 1)).toNatClampNeg)]) (rest := [.int r]) (q := (RX6, TX6, 11)) S hG o6 1 gL_law_X6_motif rfl kX6_motif ⟨Nat.le_of_ble_eq_true rfl, Nat.le_of_ble_eq_true rfl⟩ ⟨Nat.le_of_ble_eq_true rfl, Nat.le_of_ble_eq_true rfl⟩ hmw1 rfl h6 rfl hl.1 rfl rfl (Nat.le_of_ble_eq_true rfl) dL_law_1019 ?_
  refine lv_icmp_eq (tgt := 1309) hx hb dL_law_1022 (by decide) (fun _ => ?_) (fun q => absurd rfl q)
  exact kk _ _ _ ⟨hv, hc, hmw, hS⟩ ls hl
set_option maxHeartbeats 4000000 in
set_option maxRecDepth 100000 in
theorem lw_c_motifAt {p : Program} {e : Env} {s : State} {m : MethodId} {b L : Nat} {xs : Nat → Int32} {below : List Frame} {meth : Method} {c : Code} {E : zEnv} {ad am : Nat → Nat} {Q : State → Prop} {i : Nat} (F : zLF E p s m c b L xs) (D : zLA ad am s) (hi : i + 3 < L) (kk : zLG p e s m b below meth c E ad am Q i 1309) : zLG p e s m b below meth c E ad am Q i 1027 := by
  intro τ H locs hs ls hl
  obtain ⟨S, hG, hX, hbl, hL⟩ := F
  obtain ⟨hin, him, hA1, hA2, hdis⟩ := D
  obtain ⟨hv, hc, hmw, hS⟩ := hs
  have hbA : ¬ (fun q : Nat => s.heap.size ≤ q) b := Nat.not_le.mpr hbl
  obtain ⟨hx, hb, hml, hown, hts⟩ := id S
  obtain ⟨nw, sv, an, hh, ct, ln, cd⟩ := τ
  obtain ⟨r, o5, o6⟩ := op_motifAt E hin him hv (xs (nI (i + 1)).toNatClampNeg)
  obtain ⟨f5, h5⟩ := zCWt_recv hc
  refine lv_aload_n hx hb dL_law_1027 rfl (lv_at hl 1 rfl) ?_
  refine lv_aload_n hx hb dL_law_1028 rfl (lv_at hl 0 rfl) ?_
  refine lv_iload_n hx hb dL_law_1029 rfl (lv_at hl 3 rfl) ?_
  refine lv_iconst (v := nI 1) hx hb dL_law_1030 (by decide) ?_
  refine z_iadd hx hb dL_law_1031 ?_
  refine va_sld hx hb hX hbl hbA hS (vp_in_nI (show i + 1 < L by omega) (by omega)) dL_law_1032 ?_
  refine z_roV (As := [.int (xs (nI (i + 1)).toNatClampNeg)]) (rest := []) (q := (RX5, TX5, 7)) S hG o5 1 gL_law_X5_motifAt rfl kX5_motifAt ⟨Nat.le_of_ble_eq_true rfl, Nat.le_of_ble_eq_true rfl⟩ ⟨Nat.le_of_ble_eq_true rfl, Nat.le_of_ble_eq_true rfl⟩ hc rfl h5 rfl hl.1 rfl rfl (Nat.le_of_ble_eq_true rfl) dL_law_1033 ?_
  have hmw1 := hmw
  obtain ⟨f6, h6⟩ := zMWt_recv hmw1
  refine lv_aload_n hx hb dL_law_1036 rfl (lv_at hl 2 rfl) ?_
  refine lv_aload_n hx hb dL_law_1037 rfl (lv_at hl 0 rfl) ?_
  refine lv_iload_n hx hb dL_law_1038 rfl (lv_at hl 3 rfl) ?_
  refine lv_iconst (v := nI 1) hx hb dL_law_1039 (by decide) ?_
  refine z_iadd hx hb dL_law_1040 ?_
  refine va_sld hx hb hX hbl hbA hS (vp_in_nI (show i + 1 < L by omega) (by omega)) dL_law_1041 ?_
  refine z_roV (As := [.int (xs (nI (i + 1)).toNatClampNeg)]) (rest := [.int r]) (q := (RX6, TX6, 11)) S hG o6 1 gL_law_X6_motifAt rfl kX6_motifAt ⟨Nat.le_of_ble_eq_true rfl, Nat.le_of_ble_eq_true rfl⟩ ⟨Nat.le_of_ble_eq_true rfl, Nat.le_of_ble_eq_true rfl⟩ hmw1 rfl h6 rfl hl.1 rfl rfl (Nat.le_of_ble_eq_true rfl) dL_law_1042 ?_
  refine lv_icmp_eq (tgt := 1309) hx hb dL_law_1045 (by decide) (fun _ => ?_) (fun q => absurd rfl q)
  exact kk _ _ _ ⟨hv, hc, hmw, hS⟩ ls hl
set_option maxHeartbeats 4000000 in
set_option maxRecDepth 100000 in
theorem lw_c_staysAt {p : Program} {e : Env} {s : State} {m : MethodId} {b L : Nat} {xs : Nat → Int32} {below : List Frame} {meth : Method} {c : Code} {E : zEnv} {ad am : Nat → Nat} {Q : State → Prop} {i : Nat} (F : zLF E p s m c b L xs) (D : zLA ad am s) (hi : i + 3 < L) (kk : zLG p e s m b below meth c E ad am Q i 1309) : zLG p e s m b below meth c E ad am Q i 1050 := by
  intro τ H locs hs ls hl
  obtain ⟨S, hG, hX, hbl, hL⟩ := F
  obtain ⟨hin, him, hA1, hA2, hdis⟩ := D
  obtain ⟨hv, hc, hmw, hS⟩ := hs
  have hbA : ¬ (fun q : Nat => s.heap.size ≤ q) b := Nat.not_le.mpr hbl
  obtain ⟨hx, hb, hml, hown, hts⟩ := id S
  obtain ⟨nw, sv, an, hh, ct, ln, cd⟩ := τ
  obtain ⟨r, o5, o6⟩ := op_staysAt E hin him hv (xs (nI (i + 1)).toNatClampNeg)
  obtain ⟨f5, h5⟩ := zCWt_recv hc
  refine lv_aload_n hx hb dL_law_1050 rfl (lv_at hl 1 rfl) ?_
  refine lv_aload_n hx hb dL_law_1051 rfl (lv_at hl 0 rfl) ?_
  refine lv_iload_n hx hb dL_law_1052 rfl (lv_at hl 3 rfl) ?_
  refine lv_iconst (v := nI 1) hx hb dL_law_1053 (by decide) ?_
  refine z_iadd hx hb dL_law_1054 ?_
  refine va_sld hx hb hX hbl hbA hS (vp_in_nI (show i + 1 < L by omega) (by omega)) dL_law_1055 ?_
  refine z_roV (As := [.int (xs (nI (i + 1)).toNatClampNeg)]) (rest := []) (q := (RX5, TX5, 7)) S hG o5 1 gL_law_X5_staysAt rfl kX5_staysAt ⟨Nat.le_of_ble_eq_true rfl, Nat.le_of_ble_eq_true rfl⟩ ⟨Nat.le_of_ble_eq_true rfl, Nat.le_of_ble_eq_true rfl⟩ hc rfl h5 rfl hl.1 rfl rfl (Nat.le_of_ble_eq_true rfl) dL_law_1056 ?_
  have hmw1 := hmw
  obtain ⟨f6, h6⟩ := zMWt_recv hmw1
  refine lv_aload_n hx hb dL_law_1059 rfl (lv_at hl 2 rfl) ?_
  refine lv_aload_n hx hb dL_law_1060 rfl (lv_at hl 0 rfl) ?_
  refine lv_iload_n hx hb dL_law_1061 rfl (lv_at hl 3 rfl) ?_
  refine lv_iconst (v := nI 1) hx hb dL_law_1062 (by decide) ?_
  refine z_iadd hx hb dL_law_1063 ?_
  refine va_sld hx hb hX hbl hbA hS (vp_in_nI (show i + 1 < L by omega) (by omega)) dL_law_1064 ?_
  refine z_roV (As := [.int (xs (nI (i + 1)).toNatClampNeg)]) (rest := [.int r]) (q := (RX6, TX6, 11)) S hG o6 1 gL_law_X6_staysAt rfl kX6_staysAt ⟨Nat.le_of_ble_eq_true rfl, Nat.le_of_ble_eq_true rfl⟩ ⟨Nat.le_of_ble_eq_true rfl, Nat.le_of_ble_eq_true rfl⟩ hmw1 rfl h6 rfl hl.1 rfl rfl (Nat.le_of_ble_eq_true rfl) dL_law_1065 ?_
  refine lv_icmp_eq (tgt := 1309) hx hb dL_law_1068 (by decide) (fun _ => ?_) (fun q => absurd rfl q)
  exact kk _ _ _ ⟨hv, hc, hmw, hS⟩ ls hl
set_option maxHeartbeats 4000000 in
set_option maxRecDepth 100000 in
theorem lw_c_note {p : Program} {e : Env} {s : State} {m : MethodId} {b L : Nat} {xs : Nat → Int32} {below : List Frame} {meth : Method} {c : Code} {E : zEnv} {ad am : Nat → Nat} {Q : State → Prop} {i : Nat} (F : zLF E p s m c b L xs) (D : zLA ad am s) (hi : i + 3 < L) (kk : zLG p e s m b below meth c E ad am Q i 1309) : zLG p e s m b below meth c E ad am Q i 1073 := by
  intro τ H locs hs ls hl
  obtain ⟨S, hG, hX, hbl, hL⟩ := F
  obtain ⟨hin, him, hA1, hA2, hdis⟩ := D
  obtain ⟨hv, hc, hmw, hS⟩ := hs
  have hbA : ¬ (fun q : Nat => s.heap.size ≤ q) b := Nat.not_le.mpr hbl
  obtain ⟨hx, hb, hml, hown, hts⟩ := id S
  obtain ⟨nw, sv, an, hh, ct, ln, cd⟩ := τ
  obtain ⟨r, τ1, hv1, o5, o6⟩ := op_note E hin him hv (xs (nI (i + 1)).toNatClampNeg)
  obtain ⟨f5, h5⟩ := zCWt_recv hc
  refine lv_aload_n hx hb dL_law_1073 rfl (lv_at hl 1 rfl) ?_
  refine lv_aload_n hx hb dL_law_1074 rfl (lv_at hl 0 rfl) ?_
  refine lv_iload_n hx hb dL_law_1075 rfl (lv_at hl 3 rfl) ?_
  refine lv_iconst (v := nI 1) hx hb dL_law_1076 (by decide) ?_
  refine z_iadd hx hb dL_law_1077 ?_
  refine va_sld hx hb hX hbl hbA hS (vp_in_nI (show i + 1 < L by omega) (by omega)) dL_law_1078 ?_
  refine z_wrV (As := [.int (xs (nI (i + 1)).toNatClampNeg)]) (rest := []) (q := (RX5, TX5, 7)) S hG o5 1 gL_law_X5_note rfl kX5_note ⟨Nat.le_of_ble_eq_true rfl, Nat.le_of_ble_eq_true rfl⟩ ⟨Nat.le_of_ble_eq_true rfl, Nat.le_of_ble_eq_true rfl⟩ hc rfl h5 rfl hl.1 rfl rfl (Nat.le_of_ble_eq_true rfl) dL_law_1079 hS hA1 (fun H1 locs hc1 hz1 ho1 hS => ?_)
  have hmw1 := zMWt_kept hmw (fun q hq => ho1 q (hdis q hq))
  obtain ⟨f6, h6⟩ := zMWt_recv hmw1
  refine lv_aload_n hx hb dL_law_1082 rfl (lv_at hl 2 rfl) ?_
  refine lv_aload_n hx hb dL_law_1083 rfl (lv_at hl 0 rfl) ?_
  refine lv_iload_n hx hb dL_law_1084 rfl (lv_at hl 3 rfl) ?_
  refine lv_iconst (v := nI 1) hx hb dL_law_1085 (by decide) ?_
  refine z_iadd hx hb dL_law_1086 ?_
  refine va_sld hx hb hX hbl hbA hS (vp_in_nI (show i + 1 < L by omega) (by omega)) dL_law_1087 ?_
  refine z_wrV (As := [.int (xs (nI (i + 1)).toNatClampNeg)]) (rest := [.int r]) (q := (RX6, TX6, 11)) S hG o6 1 gL_law_X6_note rfl kX6_note ⟨Nat.le_of_ble_eq_true rfl, Nat.le_of_ble_eq_true rfl⟩ ⟨Nat.le_of_ble_eq_true rfl, Nat.le_of_ble_eq_true rfl⟩ hmw1 rfl h6 rfl hl.1 rfl rfl (Nat.le_of_ble_eq_true rfl) dL_law_1088 hS hA2 (fun H2 locs hm2 hz2 ho2 hS => ?_)
  have hc2 := zCWt_kept hc1 (fun q hq => ho2 q (fun z => hdis q z hq))
  refine lv_icmp_eq (tgt := 1309) hx hb dL_law_1091 (by decide) (fun _ => ?_) (fun q => absurd rfl q)
  exact kk _ _ _ ⟨hv1, hc2, hm2, hS⟩ ls hl
set_option maxHeartbeats 4000000 in
set_option maxRecDepth 100000 in
theorem lw_c_entries {p : Program} {e : Env} {s : State} {m : MethodId} {b L : Nat} {xs : Nat → Int32} {below : List Frame} {meth : Method} {c : Code} {E : zEnv} {ad am : Nat → Nat} {Q : State → Prop} {i : Nat} (F : zLF E p s m c b L xs) (D : zLA ad am s) (hi : i + 3 < L) (kk : zLG p e s m b below meth c E ad am Q i 1309) : zLG p e s m b below meth c E ad am Q i 1096 := by
  intro τ H locs hs ls hl
  obtain ⟨S, hG, hX, hbl, hL⟩ := F
  obtain ⟨hin, him, hA1, hA2, hdis⟩ := D
  obtain ⟨hv, hc, hmw, hS⟩ := hs
  have hbA : ¬ (fun q : Nat => s.heap.size ≤ q) b := Nat.not_le.mpr hbl
  obtain ⟨hx, hb, hml, hown, hts⟩ := id S
  obtain ⟨nw, sv, an, hh, ct, ln, cd⟩ := τ
  obtain ⟨r, o5, o6⟩ := op_entries E hin him hv 
  obtain ⟨f5, h5⟩ := zCWt_recv hc
  refine lv_aload_n hx hb dL_law_1096 rfl (lv_at hl 1 rfl) ?_
  refine z_roV (As := []) (rest := []) (q := (RX5, TX5, 7)) S hG o5 0 gL_law_X5_entries rfl kX5_entries ⟨Nat.le_of_ble_eq_true rfl, Nat.le_of_ble_eq_true rfl⟩ ⟨Nat.le_of_ble_eq_true rfl, Nat.le_of_ble_eq_true rfl⟩ hc rfl h5 rfl hl.1 rfl rfl (Nat.le_of_ble_eq_true rfl) dL_law_1097 ?_
  have hmw1 := hmw
  obtain ⟨f6, h6⟩ := zMWt_recv hmw1
  refine lv_aload_n hx hb dL_law_1100 rfl (lv_at hl 2 rfl) ?_
  refine z_roV (As := []) (rest := [.int r]) (q := (RX6, TX6, 11)) S hG o6 0 gL_law_X6_entries rfl kX6_entries ⟨Nat.le_of_ble_eq_true rfl, Nat.le_of_ble_eq_true rfl⟩ ⟨Nat.le_of_ble_eq_true rfl, Nat.le_of_ble_eq_true rfl⟩ hmw1 rfl h6 rfl hl.1 rfl rfl (Nat.le_of_ble_eq_true rfl) dL_law_1101 ?_
  refine lv_icmp_eq (tgt := 1309) hx hb dL_law_1104 (by decide) (fun _ => ?_) (fun q => absurd rfl q)
  exact kk _ _ _ ⟨hv, hc, hmw, hS⟩ ls hl
set_option maxHeartbeats 4000000 in
set_option maxRecDepth 100000 in
theorem lw_c_entry {p : Program} {e : Env} {s : State} {m : MethodId} {b L : Nat} {xs : Nat → Int32} {below : List Frame} {meth : Method} {c : Code} {E : zEnv} {ad am : Nat → Nat} {Q : State → Prop} {i : Nat} (F : zLF E p s m c b L xs) (D : zLA ad am s) (hi : i + 3 < L) (kk : zLG p e s m b below meth c E ad am Q i 1309) : zLG p e s m b below meth c E ad am Q i 1109 := by
  intro τ H locs hs ls hl
  obtain ⟨S, hG, hX, hbl, hL⟩ := F
  obtain ⟨hin, him, hA1, hA2, hdis⟩ := D
  obtain ⟨hv, hc, hmw, hS⟩ := hs
  have hbA : ¬ (fun q : Nat => s.heap.size ≤ q) b := Nat.not_le.mpr hbl
  obtain ⟨hx, hb, hml, hown, hts⟩ := id S
  obtain ⟨nw, sv, an, hh, ct, ln, cd⟩ := τ
  obtain ⟨r, o5, o6⟩ := op_entry E hin him hv (xs (nI (i + 1)).toNatClampNeg) (xs (nI (i + 2)).toNatClampNeg)
  obtain ⟨f5, h5⟩ := zCWt_recv hc
  refine lv_aload_n hx hb dL_law_1109 rfl (lv_at hl 1 rfl) ?_
  refine lv_aload_n hx hb dL_law_1110 rfl (lv_at hl 0 rfl) ?_
  refine lv_iload_n hx hb dL_law_1111 rfl (lv_at hl 3 rfl) ?_
  refine lv_iconst (v := nI 1) hx hb dL_law_1112 (by decide) ?_
  refine z_iadd hx hb dL_law_1113 ?_
  refine va_sld hx hb hX hbl hbA hS (vp_in_nI (show i + 1 < L by omega) (by omega)) dL_law_1114 ?_
  refine lv_aload_n hx hb dL_law_1115 rfl (lv_at hl 0 rfl) ?_
  refine lv_iload_n hx hb dL_law_1116 rfl (lv_at hl 3 rfl) ?_
  refine lv_iconst (v := nI 2) hx hb dL_law_1117 (by decide) ?_
  refine z_iadd hx hb dL_law_1118 ?_
  refine va_sld hx hb hX hbl hbA hS (vp_in_nI (show i + 2 < L by omega) (by omega)) dL_law_1119 ?_
  refine z_roV (As := [.int (xs (nI (i + 1)).toNatClampNeg), .int (xs (nI (i + 2)).toNatClampNeg)]) (rest := []) (q := (RX5, TX5, 7)) S hG o5 2 gL_law_X5_entry rfl kX5_entry ⟨Nat.le_of_ble_eq_true rfl, Nat.le_of_ble_eq_true rfl⟩ ⟨Nat.le_of_ble_eq_true rfl, Nat.le_of_ble_eq_true rfl⟩ hc rfl h5 rfl hl.1 rfl rfl (Nat.le_of_ble_eq_true rfl) dL_law_1120 ?_
  have hmw1 := hmw
  obtain ⟨f6, h6⟩ := zMWt_recv hmw1
  refine lv_aload_n hx hb dL_law_1123 rfl (lv_at hl 2 rfl) ?_
  refine lv_aload_n hx hb dL_law_1124 rfl (lv_at hl 0 rfl) ?_
  refine lv_iload_n hx hb dL_law_1125 rfl (lv_at hl 3 rfl) ?_
  refine lv_iconst (v := nI 1) hx hb dL_law_1126 (by decide) ?_
  refine z_iadd hx hb dL_law_1127 ?_
  refine va_sld hx hb hX hbl hbA hS (vp_in_nI (show i + 1 < L by omega) (by omega)) dL_law_1128 ?_
  refine lv_aload_n hx hb dL_law_1129 rfl (lv_at hl 0 rfl) ?_
  refine lv_iload_n hx hb dL_law_1130 rfl (lv_at hl 3 rfl) ?_
  refine lv_iconst (v := nI 2) hx hb dL_law_1131 (by decide) ?_
  refine z_iadd hx hb dL_law_1132 ?_
  refine va_sld hx hb hX hbl hbA hS (vp_in_nI (show i + 2 < L by omega) (by omega)) dL_law_1133 ?_
  refine z_roV (As := [.int (xs (nI (i + 1)).toNatClampNeg), .int (xs (nI (i + 2)).toNatClampNeg)]) (rest := [.int r]) (q := (RX6, TX6, 11)) S hG o6 2 gL_law_X6_entry rfl kX6_entry ⟨Nat.le_of_ble_eq_true rfl, Nat.le_of_ble_eq_true rfl⟩ ⟨Nat.le_of_ble_eq_true rfl, Nat.le_of_ble_eq_true rfl⟩ hmw1 rfl h6 rfl hl.1 rfl rfl (Nat.le_of_ble_eq_true rfl) dL_law_1134 ?_
  refine lv_icmp_eq (tgt := 1309) hx hb dL_law_1137 (by decide) (fun _ => ?_) (fun q => absurd rfl q)
  exact kk _ _ _ ⟨hv, hc, hmw, hS⟩ ls hl
set_option maxHeartbeats 4000000 in
set_option maxRecDepth 100000 in
theorem lw_c_ifHung {p : Program} {e : Env} {s : State} {m : MethodId} {b L : Nat} {xs : Nat → Int32} {below : List Frame} {meth : Method} {c : Code} {E : zEnv} {ad am : Nat → Nat} {Q : State → Prop} {i : Nat} (F : zLF E p s m c b L xs) (D : zLA ad am s) (hi : i + 3 < L) (kk : zLG p e s m b below meth c E ad am Q i 1309) : zLG p e s m b below meth c E ad am Q i 1142 := by
  intro τ H locs hs ls hl
  obtain ⟨S, hG, hX, hbl, hL⟩ := F
  obtain ⟨hin, him, hA1, hA2, hdis⟩ := D
  obtain ⟨hv, hc, hmw, hS⟩ := hs
  have hbA : ¬ (fun q : Nat => s.heap.size ≤ q) b := Nat.not_le.mpr hbl
  obtain ⟨hx, hb, hml, hown, hts⟩ := id S
  obtain ⟨nw, sv, an, hh, ct, ln, cd⟩ := τ
  obtain ⟨r, τ1, hv1, o5, o6⟩ := op_ifHung E hin him hv (xs (nI (i + 1)).toNatClampNeg) (xs (nI (i + 2)).toNatClampNeg) (xs (nI (i + 3)).toNatClampNeg)
  obtain ⟨f5, h5⟩ := zCWt_recv hc
  refine lv_aload_n hx hb dL_law_1142 rfl (lv_at hl 1 rfl) ?_
  refine lv_aload_n hx hb dL_law_1143 rfl (lv_at hl 0 rfl) ?_
  refine lv_iload_n hx hb dL_law_1144 rfl (lv_at hl 3 rfl) ?_
  refine lv_iconst (v := nI 1) hx hb dL_law_1145 (by decide) ?_
  refine z_iadd hx hb dL_law_1146 ?_
  refine va_sld hx hb hX hbl hbA hS (vp_in_nI (show i + 1 < L by omega) (by omega)) dL_law_1147 ?_
  refine lv_aload_n hx hb dL_law_1148 rfl (lv_at hl 0 rfl) ?_
  refine lv_iload_n hx hb dL_law_1149 rfl (lv_at hl 3 rfl) ?_
  refine lv_iconst (v := nI 2) hx hb dL_law_1150 (by decide) ?_
  refine z_iadd hx hb dL_law_1151 ?_
  refine va_sld hx hb hX hbl hbA hS (vp_in_nI (show i + 2 < L by omega) (by omega)) dL_law_1152 ?_
  refine lv_aload_n hx hb dL_law_1153 rfl (lv_at hl 0 rfl) ?_
  refine lv_iload_n hx hb dL_law_1154 rfl (lv_at hl 3 rfl) ?_
  refine lv_iconst (v := nI 3) hx hb dL_law_1155 (by decide) ?_
  refine z_iadd hx hb dL_law_1156 ?_
  refine va_sld hx hb hX hbl hbA hS (vp_in_nI (show i + 3 < L by omega) (by omega)) dL_law_1157 ?_
  refine z_wrV (As := [.int (xs (nI (i + 1)).toNatClampNeg), .int (xs (nI (i + 2)).toNatClampNeg), .int (xs (nI (i + 3)).toNatClampNeg)]) (rest := []) (q := (RX5, TX5, 7)) S hG o5 3 gL_law_X5_ifHung rfl kX5_ifHung ⟨Nat.le_of_ble_eq_true rfl, Nat.le_of_ble_eq_true rfl⟩ ⟨Nat.le_of_ble_eq_true rfl, Nat.le_of_ble_eq_true rfl⟩ hc rfl h5 rfl hl.1 rfl rfl (Nat.le_of_ble_eq_true rfl) dL_law_1158 hS hA1 (fun H1 locs hc1 hz1 ho1 hS => ?_)
  have hmw1 := zMWt_kept hmw (fun q hq => ho1 q (hdis q hq))
  obtain ⟨f6, h6⟩ := zMWt_recv hmw1
  refine lv_aload_n hx hb dL_law_1161 rfl (lv_at hl 2 rfl) ?_
  refine lv_aload_n hx hb dL_law_1162 rfl (lv_at hl 0 rfl) ?_
  refine lv_iload_n hx hb dL_law_1163 rfl (lv_at hl 3 rfl) ?_
  refine lv_iconst (v := nI 1) hx hb dL_law_1164 (by decide) ?_
  refine z_iadd hx hb dL_law_1165 ?_
  refine va_sld hx hb hX hbl hbA hS (vp_in_nI (show i + 1 < L by omega) (by omega)) dL_law_1166 ?_
  refine lv_aload_n hx hb dL_law_1167 rfl (lv_at hl 0 rfl) ?_
  refine lv_iload_n hx hb dL_law_1168 rfl (lv_at hl 3 rfl) ?_
  refine lv_iconst (v := nI 2) hx hb dL_law_1169 (by decide) ?_
  refine z_iadd hx hb dL_law_1170 ?_
  refine va_sld hx hb hX hbl hbA hS (vp_in_nI (show i + 2 < L by omega) (by omega)) dL_law_1171 ?_
  refine lv_aload_n hx hb dL_law_1172 rfl (lv_at hl 0 rfl) ?_
  refine lv_iload_n hx hb dL_law_1173 rfl (lv_at hl 3 rfl) ?_
  refine lv_iconst (v := nI 3) hx hb dL_law_1174 (by decide) ?_
  refine z_iadd hx hb dL_law_1175 ?_
  refine va_sld hx hb hX hbl hbA hS (vp_in_nI (show i + 3 < L by omega) (by omega)) dL_law_1176 ?_
  refine z_wrV (As := [.int (xs (nI (i + 1)).toNatClampNeg), .int (xs (nI (i + 2)).toNatClampNeg), .int (xs (nI (i + 3)).toNatClampNeg)]) (rest := [.int r]) (q := (RX6, TX6, 11)) S hG o6 3 gL_law_X6_ifHung rfl kX6_ifHung ⟨Nat.le_of_ble_eq_true rfl, Nat.le_of_ble_eq_true rfl⟩ ⟨Nat.le_of_ble_eq_true rfl, Nat.le_of_ble_eq_true rfl⟩ hmw1 rfl h6 rfl hl.1 rfl rfl (Nat.le_of_ble_eq_true rfl) dL_law_1177 hS hA2 (fun H2 locs hm2 hz2 ho2 hS => ?_)
  have hc2 := zCWt_kept hc1 (fun q hq => ho2 q (fun z => hdis q z hq))
  refine lv_icmp_eq (tgt := 1309) hx hb dL_law_1180 (by decide) (fun _ => ?_) (fun q => absurd rfl q)
  exact kk _ _ _ ⟨hv1, hc2, hm2, hS⟩ ls hl
set_option maxHeartbeats 4000000 in
set_option maxRecDepth 100000 in
theorem lw_c_bestSwap {p : Program} {e : Env} {s : State} {m : MethodId} {b L : Nat} {xs : Nat → Int32} {below : List Frame} {meth : Method} {c : Code} {E : zEnv} {ad am : Nat → Nat} {Q : State → Prop} {i : Nat} (F : zLF E p s m c b L xs) (D : zLA ad am s) (hi : i + 3 < L) (kk : zLG p e s m b below meth c E ad am Q i 1309) : zLG p e s m b below meth c E ad am Q i 1185 := by
  intro τ H locs hs ls hl
  obtain ⟨S, hG, hX, hbl, hL⟩ := F
  obtain ⟨hin, him, hA1, hA2, hdis⟩ := D
  obtain ⟨hv, hc, hmw, hS⟩ := hs
  have hbA : ¬ (fun q : Nat => s.heap.size ≤ q) b := Nat.not_le.mpr hbl
  obtain ⟨hx, hb, hml, hown, hts⟩ := id S
  obtain ⟨nw, sv, an, hh, ct, ln, cd⟩ := τ
  obtain ⟨r, τ1, hv1, o5, o6⟩ := op_bestSwap E hin him hv (xs (nI (i + 1)).toNatClampNeg)
  obtain ⟨f5, h5⟩ := zCWt_recv hc
  refine lv_aload_n hx hb dL_law_1185 rfl (lv_at hl 1 rfl) ?_
  refine lv_aload_n hx hb dL_law_1186 rfl (lv_at hl 0 rfl) ?_
  refine lv_iload_n hx hb dL_law_1187 rfl (lv_at hl 3 rfl) ?_
  refine lv_iconst (v := nI 1) hx hb dL_law_1188 (by decide) ?_
  refine z_iadd hx hb dL_law_1189 ?_
  refine va_sld hx hb hX hbl hbA hS (vp_in_nI (show i + 1 < L by omega) (by omega)) dL_law_1190 ?_
  refine z_wrV (As := [.int (xs (nI (i + 1)).toNatClampNeg)]) (rest := []) (q := (RX5, TX5, 7)) S hG o5 1 gL_law_X5_bestSwap rfl kX5_bestSwap ⟨Nat.le_of_ble_eq_true rfl, Nat.le_of_ble_eq_true rfl⟩ ⟨Nat.le_of_ble_eq_true rfl, Nat.le_of_ble_eq_true rfl⟩ hc rfl h5 rfl hl.1 rfl rfl (Nat.le_of_ble_eq_true rfl) dL_law_1191 hS hA1 (fun H1 locs hc1 hz1 ho1 hS => ?_)
  have hmw1 := zMWt_kept hmw (fun q hq => ho1 q (hdis q hq))
  obtain ⟨f6, h6⟩ := zMWt_recv hmw1
  refine lv_aload_n hx hb dL_law_1194 rfl (lv_at hl 2 rfl) ?_
  refine lv_aload_n hx hb dL_law_1195 rfl (lv_at hl 0 rfl) ?_
  refine lv_iload_n hx hb dL_law_1196 rfl (lv_at hl 3 rfl) ?_
  refine lv_iconst (v := nI 1) hx hb dL_law_1197 (by decide) ?_
  refine z_iadd hx hb dL_law_1198 ?_
  refine va_sld hx hb hX hbl hbA hS (vp_in_nI (show i + 1 < L by omega) (by omega)) dL_law_1199 ?_
  refine z_wrV (As := [.int (xs (nI (i + 1)).toNatClampNeg)]) (rest := [.int r]) (q := (RX6, TX6, 11)) S hG o6 1 gL_law_X6_bestSwap rfl kX6_bestSwap ⟨Nat.le_of_ble_eq_true rfl, Nat.le_of_ble_eq_true rfl⟩ ⟨Nat.le_of_ble_eq_true rfl, Nat.le_of_ble_eq_true rfl⟩ hmw1 rfl h6 rfl hl.1 rfl rfl (Nat.le_of_ble_eq_true rfl) dL_law_1200 hS hA2 (fun H2 locs hm2 hz2 ho2 hS => ?_)
  have hc2 := zCWt_kept hc1 (fun q hq => ho2 q (fun z => hdis q z hq))
  refine lv_icmp_eq (tgt := 1309) hx hb dL_law_1203 (by decide) (fun _ => ?_) (fun q => absurd rfl q)
  exact kk _ _ _ ⟨hv1, hc2, hm2, hS⟩ ls hl
set_option maxHeartbeats 4000000 in
set_option maxRecDepth 100000 in
theorem lw_c_append {p : Program} {e : Env} {s : State} {m : MethodId} {b L : Nat} {xs : Nat → Int32} {below : List Frame} {meth : Method} {c : Code} {E : zEnv} {ad am : Nat → Nat} {Q : State → Prop} {i : Nat} (F : zLF E p s m c b L xs) (D : zLA ad am s) (hi : i + 3 < L) (kk : zLG p e s m b below meth c E ad am Q i 1309) : zLG p e s m b below meth c E ad am Q i 1208 := by
  intro τ H locs hs ls hl
  obtain ⟨S, hG, hX, hbl, hL⟩ := F
  obtain ⟨hin, him, hA1, hA2, hdis⟩ := D
  obtain ⟨hv, hc, hmw, hS⟩ := hs
  have hbA : ¬ (fun q : Nat => s.heap.size ≤ q) b := Nat.not_le.mpr hbl
  obtain ⟨hx, hb, hml, hown, hts⟩ := id S
  obtain ⟨nw, sv, an, hh, ct, ln, cd⟩ := τ
  obtain ⟨r, τ1, hv1, o5, o6⟩ := op_append E hin him hv (xs (nI (i + 1)).toNatClampNeg)
  obtain ⟨f5, h5⟩ := zCWt_recv hc
  refine lv_aload_n hx hb dL_law_1208 rfl (lv_at hl 1 rfl) ?_
  refine lv_aload_n hx hb dL_law_1209 rfl (lv_at hl 0 rfl) ?_
  refine lv_iload_n hx hb dL_law_1210 rfl (lv_at hl 3 rfl) ?_
  refine lv_iconst (v := nI 1) hx hb dL_law_1211 (by decide) ?_
  refine z_iadd hx hb dL_law_1212 ?_
  refine va_sld hx hb hX hbl hbA hS (vp_in_nI (show i + 1 < L by omega) (by omega)) dL_law_1213 ?_
  refine z_wrV (As := [.int (xs (nI (i + 1)).toNatClampNeg)]) (rest := []) (q := (RX5, TX5, 7)) S hG o5 1 gL_law_X5_append rfl kX5_append ⟨Nat.le_of_ble_eq_true rfl, Nat.le_of_ble_eq_true rfl⟩ ⟨Nat.le_of_ble_eq_true rfl, Nat.le_of_ble_eq_true rfl⟩ hc rfl h5 rfl hl.1 rfl rfl (Nat.le_of_ble_eq_true rfl) dL_law_1214 hS hA1 (fun H1 locs hc1 hz1 ho1 hS => ?_)
  have hmw1 := zMWt_kept hmw (fun q hq => ho1 q (hdis q hq))
  obtain ⟨f6, h6⟩ := zMWt_recv hmw1
  refine lv_aload_n hx hb dL_law_1217 rfl (lv_at hl 2 rfl) ?_
  refine lv_aload_n hx hb dL_law_1218 rfl (lv_at hl 0 rfl) ?_
  refine lv_iload_n hx hb dL_law_1219 rfl (lv_at hl 3 rfl) ?_
  refine lv_iconst (v := nI 1) hx hb dL_law_1220 (by decide) ?_
  refine z_iadd hx hb dL_law_1221 ?_
  refine va_sld hx hb hX hbl hbA hS (vp_in_nI (show i + 1 < L by omega) (by omega)) dL_law_1222 ?_
  refine z_wrV (As := [.int (xs (nI (i + 1)).toNatClampNeg)]) (rest := [.int r]) (q := (RX6, TX6, 11)) S hG o6 1 gL_law_X6_append rfl kX6_append ⟨Nat.le_of_ble_eq_true rfl, Nat.le_of_ble_eq_true rfl⟩ ⟨Nat.le_of_ble_eq_true rfl, Nat.le_of_ble_eq_true rfl⟩ hmw1 rfl h6 rfl hl.1 rfl rfl (Nat.le_of_ble_eq_true rfl) dL_law_1223 hS hA2 (fun H2 locs hm2 hz2 ho2 hS => ?_)
  have hc2 := zCWt_kept hc1 (fun q hq => ho2 q (fun z => hdis q z hq))
  refine lv_icmp_eq (tgt := 1309) hx hb dL_law_1226 (by decide) (fun _ => ?_) (fun q => absurd rfl q)
  exact kk _ _ _ ⟨hv1, hc2, hm2, hS⟩ ls hl
set_option maxHeartbeats 4000000 in
set_option maxRecDepth 100000 in
theorem lw_c_clearText {p : Program} {e : Env} {s : State} {m : MethodId} {b L : Nat} {xs : Nat → Int32} {below : List Frame} {meth : Method} {c : Code} {E : zEnv} {ad am : Nat → Nat} {Q : State → Prop} {i : Nat} (F : zLF E p s m c b L xs) (D : zLA ad am s) (hi : i + 3 < L) (kk : zLG p e s m b below meth c E ad am Q i 1309) : zLG p e s m b below meth c E ad am Q i 1231 := by
  intro τ H locs hs ls hl
  obtain ⟨S, hG, hX, hbl, hL⟩ := F
  obtain ⟨hin, him, hA1, hA2, hdis⟩ := D
  obtain ⟨hv, hc, hmw, hS⟩ := hs
  have hbA : ¬ (fun q : Nat => s.heap.size ≤ q) b := Nat.not_le.mpr hbl
  obtain ⟨hx, hb, hml, hown, hts⟩ := id S
  obtain ⟨nw, sv, an, hh, ct, ln, cd⟩ := τ
  obtain ⟨r, τ1, hv1, o5, o6⟩ := op_clearText E hin him hv 
  obtain ⟨f5, h5⟩ := zCWt_recv hc
  refine lv_aload_n hx hb dL_law_1231 rfl (lv_at hl 1 rfl) ?_
  refine z_wrV (As := []) (rest := []) (q := (RX5, TX5, 7)) S hG o5 0 gL_law_X5_clearText rfl kX5_clearText ⟨Nat.le_of_ble_eq_true rfl, Nat.le_of_ble_eq_true rfl⟩ ⟨Nat.le_of_ble_eq_true rfl, Nat.le_of_ble_eq_true rfl⟩ hc rfl h5 rfl hl.1 rfl rfl (Nat.le_of_ble_eq_true rfl) dL_law_1232 hS hA1 (fun H1 locs hc1 hz1 ho1 hS => ?_)
  have hmw1 := zMWt_kept hmw (fun q hq => ho1 q (hdis q hq))
  obtain ⟨f6, h6⟩ := zMWt_recv hmw1
  refine lv_aload_n hx hb dL_law_1235 rfl (lv_at hl 2 rfl) ?_
  refine z_wrV (As := []) (rest := [.int r]) (q := (RX6, TX6, 11)) S hG o6 0 gL_law_X6_clearText rfl kX6_clearText ⟨Nat.le_of_ble_eq_true rfl, Nat.le_of_ble_eq_true rfl⟩ ⟨Nat.le_of_ble_eq_true rfl, Nat.le_of_ble_eq_true rfl⟩ hmw1 rfl h6 rfl hl.1 rfl rfl (Nat.le_of_ble_eq_true rfl) dL_law_1236 hS hA2 (fun H2 locs hm2 hz2 ho2 hS => ?_)
  have hc2 := zCWt_kept hc1 (fun q hq => ho2 q (fun z => hdis q z hq))
  refine lv_icmp_eq (tgt := 1309) hx hb dL_law_1239 (by decide) (fun _ => ?_) (fun q => absurd rfl q)
  exact kk _ _ _ ⟨hv1, hc2, hm2, hS⟩ ls hl
set_option maxHeartbeats 4000000 in
set_option maxRecDepth 100000 in
theorem lw_c_errorPosition {p : Program} {e : Env} {s : State} {m : MethodId} {b L : Nat} {xs : Nat → Int32} {below : List Frame} {meth : Method} {c : Code} {E : zEnv} {ad am : Nat → Nat} {Q : State → Prop} {i : Nat} (F : zLF E p s m c b L xs) (D : zLA ad am s) (hi : i + 3 < L) (kk : zLG p e s m b below meth c E ad am Q i 1309) : zLG p e s m b below meth c E ad am Q i 1244 := by
  intro τ H locs hs ls hl
  obtain ⟨S, hG, hX, hbl, hL⟩ := F
  obtain ⟨hin, him, hA1, hA2, hdis⟩ := D
  obtain ⟨hv, hc, hmw, hS⟩ := hs
  have hbA : ¬ (fun q : Nat => s.heap.size ≤ q) b := Nat.not_le.mpr hbl
  obtain ⟨hx, hb, hml, hown, hts⟩ := id S
  obtain ⟨nw, sv, an, hh, ct, ln, cd⟩ := τ
  obtain ⟨r, τ1, hv1, o5, o6⟩ := op_errorPosition E hin him hv 
  obtain ⟨f5, h5⟩ := zCWt_recv hc
  refine lv_aload_n hx hb dL_law_1244 rfl (lv_at hl 1 rfl) ?_
  refine z_wrV (As := []) (rest := []) (q := (RX5, TX5, 7)) S hG o5 0 gL_law_X5_errorPosition rfl kX5_errorPosition ⟨Nat.le_of_ble_eq_true rfl, Nat.le_of_ble_eq_true rfl⟩ ⟨Nat.le_of_ble_eq_true rfl, Nat.le_of_ble_eq_true rfl⟩ hc rfl h5 rfl hl.1 rfl rfl (Nat.le_of_ble_eq_true rfl) dL_law_1245 hS hA1 (fun H1 locs hc1 hz1 ho1 hS => ?_)
  have hmw1 := zMWt_kept hmw (fun q hq => ho1 q (hdis q hq))
  obtain ⟨f6, h6⟩ := zMWt_recv hmw1
  refine lv_aload_n hx hb dL_law_1248 rfl (lv_at hl 2 rfl) ?_
  refine z_wrV (As := []) (rest := [.int r]) (q := (RX6, TX6, 11)) S hG o6 0 gL_law_X6_errorPosition rfl kX6_errorPosition ⟨Nat.le_of_ble_eq_true rfl, Nat.le_of_ble_eq_true rfl⟩ ⟨Nat.le_of_ble_eq_true rfl, Nat.le_of_ble_eq_true rfl⟩ hmw1 rfl h6 rfl hl.1 rfl rfl (Nat.le_of_ble_eq_true rfl) dL_law_1249 hS hA2 (fun H2 locs hm2 hz2 ho2 hS => ?_)
  have hc2 := zCWt_kept hc1 (fun q hq => ho2 q (fun z => hdis q z hq))
  refine lv_icmp_eq (tgt := 1309) hx hb dL_law_1252 (by decide) (fun _ => ?_) (fun q => absurd rfl q)
  exact kk _ _ _ ⟨hv1, hc2, hm2, hS⟩ ls hl
set_option maxHeartbeats 4000000 in
set_option maxRecDepth 100000 in
theorem lw_c_read {p : Program} {e : Env} {s : State} {m : MethodId} {b L : Nat} {xs : Nat → Int32} {below : List Frame} {meth : Method} {c : Code} {E : zEnv} {ad am : Nat → Nat} {Q : State → Prop} {i : Nat} (F : zLF E p s m c b L xs) (D : zLA ad am s) (hi : i + 3 < L) (kk : zLG p e s m b below meth c E ad am Q i 1309) : zLG p e s m b below meth c E ad am Q i 1257 := by
  intro τ H locs hs ls hl
  obtain ⟨S, hG, hX, hbl, hL⟩ := F
  obtain ⟨hin, him, hA1, hA2, hdis⟩ := D
  obtain ⟨hv, hc, hmw, hS⟩ := hs
  have hbA : ¬ (fun q : Nat => s.heap.size ≤ q) b := Nat.not_le.mpr hbl
  obtain ⟨hx, hb, hml, hown, hts⟩ := id S
  obtain ⟨nw, sv, an, hh, ct, ln, cd⟩ := τ
  obtain ⟨r, τ1, hv1, o5, o6⟩ := op_read E hin him hv 
  obtain ⟨f5, h5⟩ := zCWt_recv hc
  refine lv_aload_n hx hb dL_law_1257 rfl (lv_at hl 1 rfl) ?_
  refine z_wrV (As := []) (rest := []) (q := (RX5, TX5, 7)) S hG o5 0 gL_law_X5_read rfl kX5_read ⟨Nat.le_of_ble_eq_true rfl, Nat.le_of_ble_eq_true rfl⟩ ⟨Nat.le_of_ble_eq_true rfl, Nat.le_of_ble_eq_true rfl⟩ hc rfl h5 rfl hl.1 rfl rfl (Nat.le_of_ble_eq_true rfl) dL_law_1258 hS hA1 (fun H1 locs hc1 hz1 ho1 hS => ?_)
  have hmw1 := zMWt_kept hmw (fun q hq => ho1 q (hdis q hq))
  obtain ⟨f6, h6⟩ := zMWt_recv hmw1
  refine lv_aload_n hx hb dL_law_1261 rfl (lv_at hl 2 rfl) ?_
  refine z_wrV (As := []) (rest := [.int r]) (q := (RX6, TX6, 11)) S hG o6 0 gL_law_X6_read rfl kX6_read ⟨Nat.le_of_ble_eq_true rfl, Nat.le_of_ble_eq_true rfl⟩ ⟨Nat.le_of_ble_eq_true rfl, Nat.le_of_ble_eq_true rfl⟩ hmw1 rfl h6 rfl hl.1 rfl rfl (Nat.le_of_ble_eq_true rfl) dL_law_1262 hS hA2 (fun H2 locs hm2 hz2 ho2 hS => ?_)
  have hc2 := zCWt_kept hc1 (fun q hq => ho2 q (fun z => hdis q z hq))
  refine lv_icmp_eq (tgt := 1309) hx hb dL_law_1265 (by decide) (fun _ => ?_) (fun q => absurd rfl q)
  exact kk _ _ _ ⟨hv1, hc2, hm2, hS⟩ ls hl
set_option maxHeartbeats 4000000 in
set_option maxRecDepth 100000 in
theorem lw_c_undo {p : Program} {e : Env} {s : State} {m : MethodId} {b L : Nat} {xs : Nat → Int32} {below : List Frame} {meth : Method} {c : Code} {E : zEnv} {ad am : Nat → Nat} {Q : State → Prop} {i : Nat} (F : zLF E p s m c b L xs) (D : zLA ad am s) (hi : i + 3 < L) (kk : zLG p e s m b below meth c E ad am Q i 1309) : zLG p e s m b below meth c E ad am Q i 1270 := by
  intro τ H locs hs ls hl
  obtain ⟨S, hG, hX, hbl, hL⟩ := F
  obtain ⟨hin, him, hA1, hA2, hdis⟩ := D
  obtain ⟨hv, hc, hmw, hS⟩ := hs
  have hbA : ¬ (fun q : Nat => s.heap.size ≤ q) b := Nat.not_le.mpr hbl
  obtain ⟨hx, hb, hml, hown, hts⟩ := id S
  obtain ⟨nw, sv, an, hh, ct, ln, cd⟩ := τ
  obtain ⟨r, τ1, hv1, o5, o6⟩ := op_undo E hin him hv 
  obtain ⟨f5, h5⟩ := zCWt_recv hc
  refine lv_aload_n hx hb dL_law_1270 rfl (lv_at hl 1 rfl) ?_
  refine z_wrV (As := []) (rest := []) (q := (RX5, TX5, 7)) S hG o5 0 gL_law_X5_undo rfl kX5_undo ⟨Nat.le_of_ble_eq_true rfl, Nat.le_of_ble_eq_true rfl⟩ ⟨Nat.le_of_ble_eq_true rfl, Nat.le_of_ble_eq_true rfl⟩ hc rfl h5 rfl hl.1 rfl rfl (Nat.le_of_ble_eq_true rfl) dL_law_1271 hS hA1 (fun H1 locs hc1 hz1 ho1 hS => ?_)
  have hmw1 := zMWt_kept hmw (fun q hq => ho1 q (hdis q hq))
  obtain ⟨f6, h6⟩ := zMWt_recv hmw1
  refine lv_aload_n hx hb dL_law_1274 rfl (lv_at hl 2 rfl) ?_
  refine z_wrV (As := []) (rest := [.int r]) (q := (RX6, TX6, 11)) S hG o6 0 gL_law_X6_undo rfl kX6_undo ⟨Nat.le_of_ble_eq_true rfl, Nat.le_of_ble_eq_true rfl⟩ ⟨Nat.le_of_ble_eq_true rfl, Nat.le_of_ble_eq_true rfl⟩ hmw1 rfl h6 rfl hl.1 rfl rfl (Nat.le_of_ble_eq_true rfl) dL_law_1275 hS hA2 (fun H2 locs hm2 hz2 ho2 hS => ?_)
  have hc2 := zCWt_kept hc1 (fun q hq => ho2 q (fun z => hdis q z hq))
  refine lv_icmp_eq (tgt := 1309) hx hb dL_law_1278 (by decide) (fun _ => ?_) (fun q => absurd rfl q)
  exact kk _ _ _ ⟨hv1, hc2, hm2, hS⟩ ls hl
set_option maxHeartbeats 4000000 in
set_option maxRecDepth 100000 in
theorem lw_c_save {p : Program} {e : Env} {s : State} {m : MethodId} {b L : Nat} {xs : Nat → Int32} {below : List Frame} {meth : Method} {c : Code} {E : zEnv} {ad am : Nat → Nat} {Q : State → Prop} {i : Nat} (F : zLF E p s m c b L xs) (D : zLA ad am s) (hi : i + 3 < L) (kk : zLG p e s m b below meth c E ad am Q i 1309) : zLG p e s m b below meth c E ad am Q i 1283 := by
  intro τ H locs hs ls hl
  obtain ⟨S, hG, hX, hbl, hL⟩ := F
  obtain ⟨hin, him, hA1, hA2, hdis⟩ := D
  obtain ⟨hv, hc, hmw, hS⟩ := hs
  have hbA : ¬ (fun q : Nat => s.heap.size ≤ q) b := Nat.not_le.mpr hbl
  obtain ⟨hx, hb, hml, hown, hts⟩ := id S
  obtain ⟨nw, sv, an, hh, ct, ln, cd⟩ := τ
  obtain ⟨r, τ1, hv1, o5, o6⟩ := op_save E hin him hv 
  obtain ⟨f5, h5⟩ := zCWt_recv hc
  refine lv_aload_n hx hb dL_law_1283 rfl (lv_at hl 1 rfl) ?_
  refine z_wrV (As := []) (rest := []) (q := (RX5, TX5, 7)) S hG o5 0 gL_law_X5_save rfl kX5_save ⟨Nat.le_of_ble_eq_true rfl, Nat.le_of_ble_eq_true rfl⟩ ⟨Nat.le_of_ble_eq_true rfl, Nat.le_of_ble_eq_true rfl⟩ hc rfl h5 rfl hl.1 rfl rfl (Nat.le_of_ble_eq_true rfl) dL_law_1284 hS hA1 (fun H1 locs hc1 hz1 ho1 hS => ?_)
  have hmw1 := zMWt_kept hmw (fun q hq => ho1 q (hdis q hq))
  obtain ⟨f6, h6⟩ := zMWt_recv hmw1
  refine lv_aload_n hx hb dL_law_1287 rfl (lv_at hl 2 rfl) ?_
  refine z_wrV (As := []) (rest := [.int r]) (q := (RX6, TX6, 11)) S hG o6 0 gL_law_X6_save rfl kX6_save ⟨Nat.le_of_ble_eq_true rfl, Nat.le_of_ble_eq_true rfl⟩ ⟨Nat.le_of_ble_eq_true rfl, Nat.le_of_ble_eq_true rfl⟩ hmw1 rfl h6 rfl hl.1 rfl rfl (Nat.le_of_ble_eq_true rfl) dL_law_1288 hS hA2 (fun H2 locs hm2 hz2 ho2 hS => ?_)
  have hc2 := zCWt_kept hc1 (fun q hq => ho2 q (fun z => hdis q z hq))
  refine lv_icmp_eq (tgt := 1309) hx hb dL_law_1291 (by decide) (fun _ => ?_) (fun q => absurd rfl q)
  exact kk _ _ _ ⟨hv1, hc2, hm2, hS⟩ ls hl
set_option maxHeartbeats 4000000 in
set_option maxRecDepth 100000 in
theorem lw_c_restore {p : Program} {e : Env} {s : State} {m : MethodId} {b L : Nat} {xs : Nat → Int32} {below : List Frame} {meth : Method} {c : Code} {E : zEnv} {ad am : Nat → Nat} {Q : State → Prop} {i : Nat} (F : zLF E p s m c b L xs) (D : zLA ad am s) (hi : i + 3 < L) (kk : zLG p e s m b below meth c E ad am Q i 1309) : zLG p e s m b below meth c E ad am Q i 1296 := by
  intro τ H locs hs ls hl
  obtain ⟨S, hG, hX, hbl, hL⟩ := F
  obtain ⟨hin, him, hA1, hA2, hdis⟩ := D
  obtain ⟨hv, hc, hmw, hS⟩ := hs
  have hbA : ¬ (fun q : Nat => s.heap.size ≤ q) b := Nat.not_le.mpr hbl
  obtain ⟨hx, hb, hml, hown, hts⟩ := id S
  obtain ⟨nw, sv, an, hh, ct, ln, cd⟩ := τ
  obtain ⟨r, τ1, hv1, o5, o6⟩ := op_restore E hin him hv 
  obtain ⟨f5, h5⟩ := zCWt_recv hc
  refine lv_aload_n hx hb dL_law_1296 rfl (lv_at hl 1 rfl) ?_
  refine z_wrV (As := []) (rest := []) (q := (RX5, TX5, 7)) S hG o5 0 gL_law_X5_restore rfl kX5_restore ⟨Nat.le_of_ble_eq_true rfl, Nat.le_of_ble_eq_true rfl⟩ ⟨Nat.le_of_ble_eq_true rfl, Nat.le_of_ble_eq_true rfl⟩ hc rfl h5 rfl hl.1 rfl rfl (Nat.le_of_ble_eq_true rfl) dL_law_1297 hS hA1 (fun H1 locs hc1 hz1 ho1 hS => ?_)
  have hmw1 := zMWt_kept hmw (fun q hq => ho1 q (hdis q hq))
  obtain ⟨f6, h6⟩ := zMWt_recv hmw1
  refine lv_aload_n hx hb dL_law_1300 rfl (lv_at hl 2 rfl) ?_
  refine z_wrV (As := []) (rest := [.int r]) (q := (RX6, TX6, 11)) S hG o6 0 gL_law_X6_restore rfl kX6_restore ⟨Nat.le_of_ble_eq_true rfl, Nat.le_of_ble_eq_true rfl⟩ ⟨Nat.le_of_ble_eq_true rfl, Nat.le_of_ble_eq_true rfl⟩ hmw1 rfl h6 rfl hl.1 rfl rfl (Nat.le_of_ble_eq_true rfl) dL_law_1301 hS hA2 (fun H2 locs hm2 hz2 ho2 hS => ?_)
  have hc2 := zCWt_kept hc1 (fun q hq => ho2 q (fun z => hdis q z hq))
  refine lv_icmp_eq (tgt := 1309) hx hb dL_law_1304 (by decide) (fun _ => ?_) (fun q => absurd rfl q)
  exact kk _ _ _ ⟨hv1, hc2, hm2, hS⟩ ls hl
