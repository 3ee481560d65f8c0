set_option maxRecDepth 100000 in
set_option maxHeartbeats 4000000 in
theorem lc_28 {z : Cz} {E : Ez} {b x m : Nat} {xs : Nat → Int32} (hC : Cx z E cL_law RL 4 14 600000 7302250) (hX : va_X b 6 xs (zs z) (zs z).heap) (hbl : b < (zs z).heap.size) (hbA : ¬ zA z b) (hT : ∀ (L : List Nat) (f : Nat → va_E) (c s : Nat), c ≤ 600000 → s ≤ 7302250 → V z E 4 c s L f 1468 [(3, .int 0), (2, .ref m), (1, .ref x), (0, .ref b)] []) {Lx Lm : List Nat} {f : Nat → va_E} (hFX : FX E x Lx f) (hFM : FM E m Lm f) : V z E 4 85 18286 (Lx ++ Lm) f 1022 [(3, .int 0), (2, .ref m), (1, .ref x), (0, .ref b)] [] := by
  obtain ⟨t, now, im, la, sl, np, ns, nw, nwa, nl, he, wa, tr, ta, tb, lax, nps, npf, nwc, nlk, nlf, nls, gsl, ⟨m_x, e_x⟩, ⟨m_t, e_t⟩, ⟨m_tb, e_tb⟩, ⟨m_im, e_im⟩, ⟨m_la, e_la⟩, ⟨m_sl, e_sl⟩, ⟨m_np, e_np⟩, ⟨m_ns, e_ns⟩, ⟨m_nw, e_nw⟩, ⟨m_nwa, e_nwa⟩, ⟨m_nwc, e_nwc⟩, ⟨m_nl, e_nl⟩, ⟨m_nlk, e_nlk⟩, ⟨m_nlf, e_nlf⟩, ⟨m_nls, e_nls⟩, hB, psl0⟩ := hFX
  obtain ⟨pa, pas, paf, sh, wy, wt, wtc, lo, lok, lof, los, cl, gwy, gcl, ⟨m_now, e_now⟩, ⟨m_pa, e_pa⟩, ⟨m_pas, e_pas⟩, ⟨m_paf, e_paf⟩, ⟨m_sh, e_sh⟩, ⟨m_wy, e_wy⟩, ⟨m_wt, e_wt⟩, ⟨m_wtc, e_wtc⟩, ⟨m_lo, e_lo⟩, ⟨m_lok, e_lok⟩, ⟨m_lof, e_lof⟩, ⟨m_los, e_los⟩, ⟨m_cl, e_cl⟩, pwy0, pcl0⟩ := id hB
  obtain ⟨wo, img, hi, tp, fv, fr, cl0, pl, wd, rd, tr0, co, bi, wl, mn, wi, nu, mv, gmn, ⟨m_m, e_m⟩, ⟨m_wo, e_wo⟩, ⟨m_img, e_img⟩, ⟨m_hi, e_hi⟩, ⟨m_tp, e_tp⟩, ⟨m_fv, e_fv⟩, ⟨m_fr, e_fr⟩, ⟨m_mn, e_mn⟩, ⟨m_wi, e_wi⟩, ⟨m_nu, e_nu⟩, pmn⟩ := hFM
  have pcl : ∀ i : Nat, i < 4 → ∃ q s : Nat, gcl i = some q ∧ q ∈ Lx ∧ f q = ob 1 [.ref s, .int 0] := fun i hi => by
    obtain ⟨q, s, h1, ⟨h2, h3⟩, -⟩ := pcl0 i hi
    exact ⟨q, s, h1, h2, h3⟩
  have pwy : ∀ i : Nat, i < 6 → ∃ q : Nat, gwy i = some q ∧ q ∈ Lx ∧ f q = ob 10 [.int 0, .int 0, .int 1, .int 1, .int 1, .int 0, .int 0] := fun i hi => by
    obtain ⟨q, h1, h2, h3⟩ := pwy0 i hi
    exact ⟨q, h1, h2, h3⟩
  have psl : ∀ i : Nat, i < 4 → ∃ q s : Nat, gsl i = some q ∧ q ∈ Lx ∧ f q = ob 5 [.ref s, .int (-1), .int 0] ∧ s ∈ Lx ∧ f s = aJ E 60 (fun _ => 0) := fun i hi => by
    obtain ⟨q, s, h1, ⟨h2, h3⟩, h4, h5⟩ := psl0 i hi
    exact ⟨q, s, h1, h2, h3, h4, h5⟩
  refine v_aload_n hC dL_law_1022 rfl ?_
  refine v_aload_n hC dL_law_1023 rfl ?_
  refine v_iload_n hC dL_law_1024 rfl ?_
  refine v_iconst hC dL_law_1025 (v := 1) (by decide) ?_
  refine v_iadd hC dL_law_1026 (v := 1) (by decide) ?_
  refine v_sld hC hX hbl hbA (by unfold vp_in; decide) (v := xs 1) rfl dL_law_1027 ?_
  refine v_aload_n hC dL_law_1028 rfl ?_
  refine v_iload_n hC dL_law_1029 rfl ?_
  refine v_iconst hC dL_law_1030 (v := 2) (by decide) ?_
  refine v_iadd hC dL_law_1031 (v := 2) (by decide) ?_
  refine v_sld hC hX hbl hbA (by unfold vp_in; decide) (v := xs 2) rfl dL_law_1032 ?_
  refine v_viD hC (rest := []) m_x e_x rfl mi_X11_ball ms_X11_ball (x_ball m_x e_x m_now e_now m_cl e_cl pcl) mx_X11_ball ml_L_130 (by decide) rfl (cells1 := 85) (slots1 := 18286) (by decide) (by decide) (Nat.le_of_ble_eq_true rfl) (Nat.le_of_ble_eq_true rfl) rfl (Nat.le_of_ble_eq_true rfl) dL_law_1033 (fun r_1 L_2 f_3 h_4 => ?_)
  obtain rfl : sp_c (xs 1) = r_1 := h_4
  refine v_aload_n hC dL_law_1036 rfl ?_
  refine v_aload_n hC dL_law_1037 rfl ?_
  refine v_iload_n hC dL_law_1038 rfl ?_
  refine v_iconst hC dL_law_1039 (v := 1) (by decide) ?_
  refine v_iadd hC dL_law_1040 (v := 1) (by decide) ?_
  refine v_sld hC hX hbl hbA (by unfold vp_in; decide) (v := xs 1) rfl dL_law_1041 ?_
  refine v_aload_n hC dL_law_1042 rfl ?_
  refine v_iload_n hC dL_law_1043 rfl ?_
  refine v_iconst hC dL_law_1044 (v := 2) (by decide) ?_
  refine v_iadd hC dL_law_1045 (v := 2) (by decide) ?_
  refine v_sld hC hX hbl hbA (by unfold vp_in; decide) (v := xs 2) rfl dL_law_1046 ?_
  refine v_vi hC (rest := [.int (sp_c (xs 1))]) m_m e_m rfl mi_X12_ball ms_X12_ball (y_ball m_m e_m m_wo e_wo) mx_X12_ball ml_L_133 (by decide) rfl (cells1 := 85) (slots1 := 18286) (by decide) (by decide) (Nat.le_of_ble_eq_true rfl) (Nat.le_of_ble_eq_true rfl) rfl (Nat.le_of_ble_eq_true rfl) dL_law_1047 (fun r_5 L_6 f_7 h_8 => ?_)
  obtain rfl : sp_c (xs 1) = r_5 := h_8
  refine v_icmp_eq_t hC dL_law_1050 (tgt := 1468) (by decide) rfl ?_
  exact hT _ _ _ _ (Nat.le_of_ble_eq_true rfl) (Nat.le_of_ble_eq_true rfl)
set_option maxRecDepth 100000 in
set_option maxHeartbeats 4000000 in
theorem lc_29 {z : Cz} {E : Ez} {b x m : Nat} {xs : Nat → Int32} (hC : Cx z E cL_law RL 4 14 600000 7302250) (hX : va_X b 6 xs (zs z) (zs z).heap) (hbl : b < (zs z).heap.size) (hbA : ¬ zA z b) (hT : ∀ (L : List Nat) (f : Nat → va_E) (c s : Nat), c ≤ 600000 → s ≤ 7302250 → V z E 4 c s L f 1468 [(3, .int 0), (2, .ref m), (1, .ref x), (0, .ref b)] []) {Lx Lm : List Nat} {f : Nat → va_E} (hFX : FX E x Lx f) (hFM : FM E m Lm f) : V z E 4 85 18286 (Lx ++ Lm) f 1055 [(3, .int 0), (2, .ref m), (1, .ref x), (0, .ref b)] [] := by
  obtain ⟨t, now, im, la, sl, np, ns, nw, nwa, nl, he, wa, tr, ta, tb, lax, nps, npf, nwc, nlk, nlf, nls, gsl, ⟨m_x, e_x⟩, ⟨m_t, e_t⟩, ⟨m_tb, e_tb⟩, ⟨m_im, e_im⟩, ⟨m_la, e_la⟩, ⟨m_sl, e_sl⟩, ⟨m_np, e_np⟩, ⟨m_ns, e_ns⟩, ⟨m_nw, e_nw⟩, ⟨m_nwa, e_nwa⟩, ⟨m_nwc, e_nwc⟩, ⟨m_nl, e_nl⟩, ⟨m_nlk, e_nlk⟩, ⟨m_nlf, e_nlf⟩, ⟨m_nls, e_nls⟩, hB, psl0⟩ := hFX
  obtain ⟨pa, pas, paf, sh, wy, wt, wtc, lo, lok, lof, los, cl, gwy, gcl, ⟨m_now, e_now⟩, ⟨m_pa, e_pa⟩, ⟨m_pas, e_pas⟩, ⟨m_paf, e_paf⟩, ⟨m_sh, e_sh⟩, ⟨m_wy, e_wy⟩, ⟨m_wt, e_wt⟩, ⟨m_wtc, e_wtc⟩, ⟨m_lo, e_lo⟩, ⟨m_lok, e_lok⟩, ⟨m_lof, e_lof⟩, ⟨m_los, e_los⟩, ⟨m_cl, e_cl⟩, pwy0, pcl0⟩ := id hB
  obtain ⟨wo, img, hi, tp, fv, fr, cl0, pl, wd, rd, tr0, co, bi, wl, mn, wi, nu, mv, gmn, ⟨m_m, e_m⟩, ⟨m_wo, e_wo⟩, ⟨m_img, e_img⟩, ⟨m_hi, e_hi⟩, ⟨m_tp, e_tp⟩, ⟨m_fv, e_fv⟩, ⟨m_fr, e_fr⟩, ⟨m_mn, e_mn⟩, ⟨m_wi, e_wi⟩, ⟨m_nu, e_nu⟩, pmn⟩ := hFM
  have pcl : ∀ i : Nat, i < 4 → ∃ q s : Nat, gcl i = some q ∧ q ∈ Lx ∧ f q = ob 1 [.ref s, .int 0] := fun i hi => by
    obtain ⟨q, s, h1, ⟨h2, h3⟩, -⟩ := pcl0 i hi
    exact ⟨q, s, h1, h2, h3⟩
  have pwy : ∀ i : Nat, i < 6 → ∃ q : Nat, gwy i = some q ∧ q ∈ Lx ∧ f q = ob 10 [.int 0, .int 0, .int 1, .int 1, .int 1, .int 0, .int 0] := fun i hi => by
    obtain ⟨q, h1, h2, h3⟩ := pwy0 i hi
    exact ⟨q, h1, h2, h3⟩
  have psl : ∀ i : Nat, i < 4 → ∃ q s : Nat, gsl i = some q ∧ q ∈ Lx ∧ f q = ob 5 [.ref s, .int (-1), .int 0] ∧ s ∈ Lx ∧ f s = aJ E 60 (fun _ => 0) := fun i hi => by
    obtain ⟨q, s, h1, ⟨h2, h3⟩, h4, h5⟩ := psl0 i hi
    exact ⟨q, s, h1, h2, h3, h4, h5⟩
  refine v_aload_n hC dL_law_1055 rfl ?_
  refine v_aload_n hC dL_law_1056 rfl ?_
  refine v_iload_n hC dL_law_1057 rfl ?_
  refine v_iconst hC dL_law_1058 (v := 1) (by decide) ?_
  refine v_iadd hC dL_law_1059 (v := 1) (by decide) ?_
  refine v_sld hC hX hbl hbA (by unfold vp_in; decide) (v := xs 1) rfl dL_law_1060 ?_
  refine v_aload_n hC dL_law_1061 rfl ?_
  refine v_iload_n hC dL_law_1062 rfl ?_
  refine v_iconst hC dL_law_1063 (v := 2) (by decide) ?_
  refine v_iadd hC dL_law_1064 (v := 2) (by decide) ?_
  refine v_sld hC hX hbl hbA (by unfold vp_in; decide) (v := xs 2) rfl dL_law_1065 ?_
  refine v_viD hC (rest := []) m_x e_x rfl mi_X11_rewind ms_X11_rewind (x_rewind m_x e_x m_now e_now m_cl e_cl pcl) mx_X11_rewind ml_L_134 (by decide) rfl (cells1 := 85) (slots1 := 18286) (by decide) (by decide) (Nat.le_of_ble_eq_true rfl) (Nat.le_of_ble_eq_true rfl) rfl (Nat.le_of_ble_eq_true rfl) dL_law_1066 (fun r_1 L_2 f_3 h_4 => ?_)
  obtain rfl : sp_cd (xs 1) (xs 2) = r_1 := h_4
  refine v_aload_n hC dL_law_1069 rfl ?_
  refine v_aload_n hC dL_law_1070 rfl ?_
  refine v_iload_n hC dL_law_1071 rfl ?_
  refine v_iconst hC dL_law_1072 (v := 1) (by decide) ?_
  refine v_iadd hC dL_law_1073 (v := 1) (by decide) ?_
  refine v_sld hC hX hbl hbA (by unfold vp_in; decide) (v := xs 1) rfl dL_law_1074 ?_
  refine v_aload_n hC dL_law_1075 rfl ?_
  refine v_iload_n hC dL_law_1076 rfl ?_
  refine v_iconst hC dL_law_1077 (v := 2) (by decide) ?_
  refine v_iadd hC dL_law_1078 (v := 2) (by decide) ?_
  refine v_sld hC hX hbl hbA (by unfold vp_in; decide) (v := xs 2) rfl dL_law_1079 ?_
  refine v_vi hC (rest := [.int (sp_cd (xs 1) (xs 2))]) m_m e_m rfl mi_X12_rewind ms_X12_rewind (y_rewind m_m e_m m_wo e_wo) mx_X12_rewind ml_L_137 (by decide) rfl (cells1 := 85) (slots1 := 18286) (by decide) (by decide) (Nat.le_of_ble_eq_true rfl) (Nat.le_of_ble_eq_true rfl) rfl (Nat.le_of_ble_eq_true rfl) dL_law_1080 (fun r_5 L_6 f_7 h_8 => ?_)
  obtain rfl : sp_cd (xs 1) (xs 2) = r_5 := h_8
  refine v_icmp_eq_t hC dL_law_1083 (tgt := 1468) (by decide) rfl ?_
  exact hT _ _ _ _ (Nat.le_of_ble_eq_true rfl) (Nat.le_of_ble_eq_true rfl)
set_option maxRecDepth 100000 in
set_option maxHeartbeats 4000000 in
theorem lc_30 {z : Cz} {E : Ez} {b x m : Nat} {xs : Nat → Int32} (hC : Cx z E cL_law RL 4 14 600000 7302250) (hX : va_X b 6 xs (zs z) (zs z).heap) (hbl : b < (zs z).heap.size) (hbA : ¬ zA z b) (hT : ∀ (L : List Nat) (f : Nat → va_E) (c s : Nat), c ≤ 600000 → s ≤ 7302250 → V z E 4 c s L f 1468 [(3, .int 0), (2, .ref m), (1, .ref x), (0, .ref b)] []) {Lx Lm : List Nat} {f : Nat → va_E} (hFX : FX E x Lx f) (hFM : FM E m Lm f) : V z E 4 85 18286 (Lx ++ Lm) f 1088 [(3, .int 0), (2, .ref m), (1, .ref x), (0, .ref b)] [] := by
  obtain ⟨t, now, im, la, sl, np, ns, nw, nwa, nl, he, wa, tr, ta, tb, lax, nps, npf, nwc, nlk, nlf, nls, gsl, ⟨m_x, e_x⟩, ⟨m_t, e_t⟩, ⟨m_tb, e_tb⟩, ⟨m_im, e_im⟩, ⟨m_la, e_la⟩, ⟨m_sl, e_sl⟩, ⟨m_np, e_np⟩, ⟨m_ns, e_ns⟩, ⟨m_nw, e_nw⟩, ⟨m_nwa, e_nwa⟩, ⟨m_nwc, e_nwc⟩, ⟨m_nl, e_nl⟩, ⟨m_nlk, e_nlk⟩, ⟨m_nlf, e_nlf⟩, ⟨m_nls, e_nls⟩, hB, psl0⟩ := hFX
  obtain ⟨pa, pas, paf, sh, wy, wt, wtc, lo, lok, lof, los, cl, gwy, gcl, ⟨m_now, e_now⟩, ⟨m_pa, e_pa⟩, ⟨m_pas, e_pas⟩, ⟨m_paf, e_paf⟩, ⟨m_sh, e_sh⟩, ⟨m_wy, e_wy⟩, ⟨m_wt, e_wt⟩, ⟨m_wtc, e_wtc⟩, ⟨m_lo, e_lo⟩, ⟨m_lok, e_lok⟩, ⟨m_lof, e_lof⟩, ⟨m_los, e_los⟩, ⟨m_cl, e_cl⟩, pwy0, pcl0⟩ := id hB
  obtain ⟨wo, img, hi, tp, fv, fr, cl0, pl, wd, rd, tr0, co, bi, wl, mn, wi, nu, mv, gmn, ⟨m_m, e_m⟩, ⟨m_wo, e_wo⟩, ⟨m_img, e_img⟩, ⟨m_hi, e_hi⟩, ⟨m_tp, e_tp⟩, ⟨m_fv, e_fv⟩, ⟨m_fr, e_fr⟩, ⟨m_mn, e_mn⟩, ⟨m_wi, e_wi⟩, ⟨m_nu, e_nu⟩, pmn⟩ := hFM
  have pcl : ∀ i : Nat, i < 4 → ∃ q s : Nat, gcl i = some q ∧ q ∈ Lx ∧ f q = ob 1 [.ref s, .int 0] := fun i hi => by
    obtain ⟨q, s, h1, ⟨h2, h3⟩, -⟩ := pcl0 i hi
    exact ⟨q, s, h1, h2, h3⟩
  have pwy : ∀ i : Nat, i < 6 → ∃ q : Nat, gwy i = some q ∧ q ∈ Lx ∧ f q = ob 10 [.int 0, .int 0, .int 1, .int 1, .int 1, .int 0, .int 0] := fun i hi => by
    obtain ⟨q, h1, h2, h3⟩ := pwy0 i hi
    exact ⟨q, h1, h2, h3⟩
  have psl : ∀ i : Nat, i < 4 → ∃ q s : Nat, gsl i = some q ∧ q ∈ Lx ∧ f q = ob 5 [.ref s, .int (-1), .int 0] ∧ s ∈ Lx ∧ f s = aJ E 60 (fun _ => 0) := fun i hi => by
    obtain ⟨q, s, h1, ⟨h2, h3⟩, h4, h5⟩ := psl0 i hi
    exact ⟨q, s, h1, h2, h3, h4, h5⟩
  refine v_aload_n hC dL_law_1088 rfl ?_
  refine v_aload_n hC dL_law_1089 rfl ?_
  refine v_iload_n hC dL_law_1090 rfl ?_
  refine v_iconst hC dL_law_1091 (v := 1) (by decide) ?_
  refine v_iadd hC dL_law_1092 (v := 1) (by decide) ?_
  refine v_sld hC hX hbl hbA (by unfold vp_in; decide) (v := xs 1) rfl dL_law_1093 ?_
  refine v_aload_n hC dL_law_1094 rfl ?_
  refine v_iload_n hC dL_law_1095 rfl ?_
  refine v_iconst hC dL_law_1096 (v := 2) (by decide) ?_
  refine v_iadd hC dL_law_1097 (v := 2) (by decide) ?_
  refine v_sld hC hX hbl hbA (by unfold vp_in; decide) (v := xs 2) rfl dL_law_1098 ?_
  refine v_viD hC (rest := []) m_x e_x rfl mi_X11_copy ms_X11_copy (x_copy m_x e_x m_now e_now m_cl e_cl pcl) mx_X11_copy ml_L_138 (by decide) rfl (cells1 := 85) (slots1 := 18286) (by decide) (by decide) (Nat.le_of_ble_eq_true rfl) (Nat.le_of_ble_eq_true rfl) rfl (Nat.le_of_ble_eq_true rfl) dL_law_1099 (fun r_1 L_2 f_3 h_4 => ?_)
  obtain rfl : sp_cd (xs 1) (xs 2) = r_1 := h_4
  refine v_aload_n hC dL_law_1102 rfl ?_
  refine v_aload_n hC dL_law_1103 rfl ?_
  refine v_iload_n hC dL_law_1104 rfl ?_
  refine v_iconst hC dL_law_1105 (v := 1) (by decide) ?_
  refine v_iadd hC dL_law_1106 (v := 1) (by decide) ?_
  refine v_sld hC hX hbl hbA (by unfold vp_in; decide) (v := xs 1) rfl dL_law_1107 ?_
  refine v_aload_n hC dL_law_1108 rfl ?_
  refine v_iload_n hC dL_law_1109 rfl ?_
  refine v_iconst hC dL_law_1110 (v := 2) (by decide) ?_
  refine v_iadd hC dL_law_1111 (v := 2) (by decide) ?_
  refine v_sld hC hX hbl hbA (by unfold vp_in; decide) (v := xs 2) rfl dL_law_1112 ?_
  refine v_vi hC (rest := [.int (sp_cd (xs 1) (xs 2))]) m_m e_m rfl mi_X12_copy ms_X12_copy (y_copy m_m e_m m_wo e_wo) mx_X12_copy ml_L_141 (by decide) rfl (cells1 := 85) (slots1 := 18286) (by decide) (by decide) (Nat.le_of_ble_eq_true rfl) (Nat.le_of_ble_eq_true rfl) rfl (Nat.le_of_ble_eq_true rfl) dL_law_1113 (fun r_5 L_6 f_7 h_8 => ?_)
  obtain rfl : sp_cd (xs 1) (xs 2) = r_5 := h_8
  refine v_icmp_eq_t hC dL_law_1116 (tgt := 1468) (by decide) rfl ?_
  exact hT _ _ _ _ (Nat.le_of_ble_eq_true rfl) (Nat.le_of_ble_eq_true rfl)
set_option maxRecDepth 100000 in
set_option maxHeartbeats 4000000 in
theorem lc_31 {z : Cz} {E : Ez} {b x m : Nat} {xs : Nat → Int32} (hC : Cx z E cL_law RL 4 14 600000 7302250) (hX : va_X b 6 xs (zs z) (zs z).heap) (hbl : b < (zs z).heap.size) (hbA : ¬ zA z b) (hT : ∀ (L : List Nat) (f : Nat → va_E) (c s : Nat), c ≤ 600000 → s ≤ 7302250 → V z E 4 c s L f 1468 [(3, .int 0), (2, .ref m), (1, .ref x), (0, .ref b)] []) {Lx Lm : List Nat} {f : Nat → va_E} (hFX : FX E x Lx f) (hFM : FM E m Lm f) : V z E 4 85 18286 (Lx ++ Lm) f 1121 [(3, .int 0), (2, .ref m), (1, .ref x), (0, .ref b)] [] := by
  obtain ⟨t, now, im, la, sl, np, ns, nw, nwa, nl, he, wa, tr, ta, tb, lax, nps, npf, nwc, nlk, nlf, nls, gsl, ⟨m_x, e_x⟩, ⟨m_t, e_t⟩, ⟨m_tb, e_tb⟩, ⟨m_im, e_im⟩, ⟨m_la, e_la⟩, ⟨m_sl, e_sl⟩, ⟨m_np, e_np⟩, ⟨m_ns, e_ns⟩, ⟨m_nw, e_nw⟩, ⟨m_nwa, e_nwa⟩, ⟨m_nwc, e_nwc⟩, ⟨m_nl, e_nl⟩, ⟨m_nlk, e_nlk⟩, ⟨m_nlf, e_nlf⟩, ⟨m_nls, e_nls⟩, hB, psl0⟩ := hFX
  obtain ⟨pa, pas, paf, sh, wy, wt, wtc, lo, lok, lof, los, cl, gwy, gcl, ⟨m_now, e_now⟩, ⟨m_pa, e_pa⟩, ⟨m_pas, e_pas⟩, ⟨m_paf, e_paf⟩, ⟨m_sh, e_sh⟩, ⟨m_wy, e_wy⟩, ⟨m_wt, e_wt⟩, ⟨m_wtc, e_wtc⟩, ⟨m_lo, e_lo⟩, ⟨m_lok, e_lok⟩, ⟨m_lof, e_lof⟩, ⟨m_los, e_los⟩, ⟨m_cl, e_cl⟩, pwy0, pcl0⟩ := id hB
  obtain ⟨wo, img, hi, tp, fv, fr, cl0, pl, wd, rd, tr0, co, bi, wl, mn, wi, nu, mv, gmn, ⟨m_m, e_m⟩, ⟨m_wo, e_wo⟩, ⟨m_img, e_img⟩, ⟨m_hi, e_hi⟩, ⟨m_tp, e_tp⟩, ⟨m_fv, e_fv⟩, ⟨m_fr, e_fr⟩, ⟨m_mn, e_mn⟩, ⟨m_wi, e_wi⟩, ⟨m_nu, e_nu⟩, pmn⟩ := hFM
  have pcl : ∀ i : Nat, i < 4 → ∃ q s : Nat, gcl i = some q ∧ q ∈ Lx ∧ f q = ob 1 [.ref s, .int 0] := fun i hi => by
    obtain ⟨q, s, h1, ⟨h2, h3⟩, -⟩ := pcl0 i hi
    exact ⟨q, s, h1, h2, h3⟩
  have pwy : ∀ i : Nat, i < 6 → ∃ q : Nat, gwy i = some q ∧ q ∈ Lx ∧ f q = ob 10 [.int 0, .int 0, .int 1, .int 1, .int 1, .int 0, .int 0] := fun i hi => by
    obtain ⟨q, h1, h2, h3⟩ := pwy0 i hi
    exact ⟨q, h1, h2, h3⟩
  have psl : ∀ i : Nat, i < 4 → ∃ q s : Nat, gsl i = some q ∧ q ∈ Lx ∧ f q = ob 5 [.ref s, .int (-1), .int 0] ∧ s ∈ Lx ∧ f s = aJ E 60 (fun _ => 0) := fun i hi => by
    obtain ⟨q, s, h1, ⟨h2, h3⟩, h4, h5⟩ := psl0 i hi
    exact ⟨q, s, h1, h2, h3, h4, h5⟩
  refine v_aload_n hC dL_law_1121 rfl ?_
  refine v_aload_n hC dL_law_1122 rfl ?_
  refine v_iload_n hC dL_law_1123 rfl ?_
  refine v_iconst hC dL_law_1124 (v := 1) (by decide) ?_
  refine v_iadd hC dL_law_1125 (v := 1) (by decide) ?_
  refine v_sld hC hX hbl hbA (by unfold vp_in; decide) (v := xs 1) rfl dL_law_1126 ?_
  refine v_aload_n hC dL_law_1127 rfl ?_
  refine v_iload_n hC dL_law_1128 rfl ?_
  refine v_iconst hC dL_law_1129 (v := 2) (by decide) ?_
  refine v_iadd hC dL_law_1130 (v := 2) (by decide) ?_
  refine v_sld hC hX hbl hbA (by unfold vp_in; decide) (v := xs 2) rfl dL_law_1131 ?_
  refine v_aload_n hC dL_law_1132 rfl ?_
  refine v_iload_n hC dL_law_1133 rfl ?_
  refine v_iconst hC dL_law_1134 (v := 3) (by decide) ?_
  refine v_iadd hC dL_law_1135 (v := 3) (by decide) ?_
  refine v_sld hC hX hbl hbA (by unfold vp_in; decide) (v := xs 3) rfl dL_law_1136 ?_
  refine v_viD hC (rest := []) m_x e_x rfl mi_X11_turn ms_X11_turn (x_turn m_x e_x m_now e_now m_pa e_pa) mx_X11_turn ml_L_142 (by decide) rfl (cells1 := 85) (slots1 := 18286) (by decide) (by decide) (Nat.le_of_ble_eq_true rfl) (Nat.le_of_ble_eq_true rfl) rfl (Nat.le_of_ble_eq_true rfl) dL_law_1137 (fun r_1 L_2 f_3 h_4 => ?_)
  obtain rfl : (-2 : Int32) = r_1 := h_4
  refine v_aload_n hC dL_law_1140 rfl ?_
  refine v_aload_n hC dL_law_1141 rfl ?_
  refine v_iload_n hC dL_law_1142 rfl ?_
  refine v_iconst hC dL_law_1143 (v := 1) (by decide) ?_
  refine v_iadd hC dL_law_1144 (v := 1) (by decide) ?_
  refine v_sld hC hX hbl hbA (by unfold vp_in; decide) (v := xs 1) rfl dL_law_1145 ?_
  refine v_aload_n hC dL_law_1146 rfl ?_
  refine v_iload_n hC dL_law_1147 rfl ?_
  refine v_iconst hC dL_law_1148 (v := 2) (by decide) ?_
  refine v_iadd hC dL_law_1149 (v := 2) (by decide) ?_
  refine v_sld hC hX hbl hbA (by unfold vp_in; decide) (v := xs 2) rfl dL_law_1150 ?_
  refine v_aload_n hC dL_law_1151 rfl ?_
  refine v_iload_n hC dL_law_1152 rfl ?_
  refine v_iconst hC dL_law_1153 (v := 3) (by decide) ?_
  refine v_iadd hC dL_law_1154 (v := 3) (by decide) ?_
  refine v_sld hC hX hbl hbA (by unfold vp_in; decide) (v := xs 3) rfl dL_law_1155 ?_
  refine v_vi hC (rest := [.int ((-2 : Int32))]) m_m e_m rfl mi_X12_turn ms_X12_turn (y_turn m_m e_m m_wo e_wo) mx_X12_turn ml_L_145 (by decide) rfl (cells1 := 85) (slots1 := 18286) (by decide) (by decide) (Nat.le_of_ble_eq_true rfl) (Nat.le_of_ble_eq_true rfl) rfl (Nat.le_of_ble_eq_true rfl) dL_law_1156 (fun r_5 L_6 f_7 h_8 => ?_)
  obtain rfl : (-2 : Int32) = r_5 := h_8
  refine v_icmp_eq_t hC dL_law_1159 (tgt := 1468) (by decide) rfl ?_
  exact hT _ _ _ _ (Nat.le_of_ble_eq_true rfl) (Nat.le_of_ble_eq_true rfl)
set_option maxRecDepth 100000 in
set_option maxHeartbeats 4000000 in
theorem lc_32 {z : Cz} {E : Ez} {b x m : Nat} {xs : Nat → Int32} (hC : Cx z E cL_law RL 4 14 600000 7302250) (hX : va_X b 6 xs (zs z) (zs z).heap) (hbl : b < (zs z).heap.size) (hbA : ¬ zA z b) (hT : ∀ (L : List Nat) (f : Nat → va_E) (c s : Nat), c ≤ 600000 → s ≤ 7302250 → V z E 4 c s L f 1468 [(3, .int 0), (2, .ref m), (1, .ref x), (0, .ref b)] []) {Lx Lm : List Nat} {f : Nat → va_E} (hFX : FX E x Lx f) (hFM : FM E m Lm f) : V z E 4 85 18286 (Lx ++ Lm) f 1164 [(3, .int 0), (2, .ref m), (1, .ref x), (0, .ref b)] [] := by
  obtain ⟨t, now, im, la, sl, np, ns, nw, nwa, nl, he, wa, tr, ta, tb, lax, nps, npf, nwc, nlk, nlf, nls, gsl, ⟨m_x, e_x⟩, ⟨m_t, e_t⟩, ⟨m_tb, e_tb⟩, ⟨m_im, e_im⟩, ⟨m_la, e_la⟩, ⟨m_sl, e_sl⟩, ⟨m_np, e_np⟩, ⟨m_ns, e_ns⟩, ⟨m_nw, e_nw⟩, ⟨m_nwa, e_nwa⟩, ⟨m_nwc, e_nwc⟩, ⟨m_nl, e_nl⟩, ⟨m_nlk, e_nlk⟩, ⟨m_nlf, e_nlf⟩, ⟨m_nls, e_nls⟩, hB, psl0⟩ := hFX
  obtain ⟨pa, pas, paf, sh, wy, wt, wtc, lo, lok, lof, los, cl, gwy, gcl, ⟨m_now, e_now⟩, ⟨m_pa, e_pa⟩, ⟨m_pas, e_pas⟩, ⟨m_paf, e_paf⟩, ⟨m_sh, e_sh⟩, ⟨m_wy, e_wy⟩, ⟨m_wt, e_wt⟩, ⟨m_wtc, e_wtc⟩, ⟨m_lo, e_lo⟩, ⟨m_lok, e_lok⟩, ⟨m_lof, e_lof⟩, ⟨m_los, e_los⟩, ⟨m_cl, e_cl⟩, pwy0, pcl0⟩ := id hB
  obtain ⟨wo, img, hi, tp, fv, fr, cl0, pl, wd, rd, tr0, co, bi, wl, mn, wi, nu, mv, gmn, ⟨m_m, e_m⟩, ⟨m_wo, e_wo⟩, ⟨m_img, e_img⟩, ⟨m_hi, e_hi⟩, ⟨m_tp, e_tp⟩, ⟨m_fv, e_fv⟩, ⟨m_fr, e_fr⟩, ⟨m_mn, e_mn⟩, ⟨m_wi, e_wi⟩, ⟨m_nu, e_nu⟩, pmn⟩ := hFM
  have pcl : ∀ i : Nat, i < 4 → ∃ q s : Nat, gcl i = some q ∧ q ∈ Lx ∧ f q = ob 1 [.ref s, .int 0] := fun i hi => by
    obtain ⟨q, s, h1, ⟨h2, h3⟩, -⟩ := pcl0 i hi
    exact ⟨q, s, h1, h2, h3⟩
  have pwy : ∀ i : Nat, i < 6 → ∃ q : Nat, gwy i = some q ∧ q ∈ Lx ∧ f q = ob 10 [.int 0, .int 0, .int 1, .int 1, .int 1, .int 0, .int 0] := fun i hi => by
    obtain ⟨q, h1, h2, h3⟩ := pwy0 i hi
    exact ⟨q, h1, h2, h3⟩
  have psl : ∀ i : Nat, i < 4 → ∃ q s : Nat, gsl i = some q ∧ q ∈ Lx ∧ f q = ob 5 [.ref s, .int (-1), .int 0] ∧ s ∈ Lx ∧ f s = aJ E 60 (fun _ => 0) := fun i hi => by
    obtain ⟨q, s, h1, ⟨h2, h3⟩, h4, h5⟩ := psl0 i hi
    exact ⟨q, s, h1, h2, h3, h4, h5⟩
  refine v_aload_n hC dL_law_1164 rfl ?_
  refine v_aload_n hC dL_law_1165 rfl ?_
  refine v_iload_n hC dL_law_1166 rfl ?_
  refine v_iconst hC dL_law_1167 (v := 1) (by decide) ?_
  refine v_iadd hC dL_law_1168 (v := 1) (by decide) ?_
  refine v_sld hC hX hbl hbA (by unfold vp_in; decide) (v := xs 1) rfl dL_law_1169 ?_
  refine v_viD hC (rest := []) m_x e_x rfl mi_X11_mend ms_X11_mend (x_mend m_x e_x m_now e_now m_cl e_cl pcl) mx_X11_mend ml_L_146 (by decide) rfl (cells1 := 85) (slots1 := 18286) (by decide) (by decide) (Nat.le_of_ble_eq_true rfl) (Nat.le_of_ble_eq_true rfl) rfl (Nat.le_of_ble_eq_true rfl) dL_law_1170 (fun r_1 L_2 f_3 h_4 => ?_)
  obtain rfl : sp_c (xs 1) = r_1 := h_4
  refine v_aload_n hC dL_law_1173 rfl ?_
  refine v_aload_n hC dL_law_1174 rfl ?_
  refine v_iload_n hC dL_law_1175 rfl ?_
  refine v_iconst hC dL_law_1176 (v := 1) (by decide) ?_
  refine v_iadd hC dL_law_1177 (v := 1) (by decide) ?_
  refine v_sld hC hX hbl hbA (by unfold vp_in; decide) (v := xs 1) rfl dL_law_1178 ?_
  refine v_vi hC (rest := [.int (sp_c (xs 1))]) m_m e_m rfl mi_X12_mend ms_X12_mend (y_mend m_m e_m m_wo e_wo) mx_X12_mend ml_L_149 (by decide) rfl (cells1 := 85) (slots1 := 18286) (by decide) (by decide) (Nat.le_of_ble_eq_true rfl) (Nat.le_of_ble_eq_true rfl) rfl (Nat.le_of_ble_eq_true rfl) dL_law_1179 (fun r_5 L_6 f_7 h_8 => ?_)
  obtain rfl : sp_c (xs 1) = r_5 := h_8
  refine v_icmp_eq_t hC dL_law_1182 (tgt := 1468) (by decide) rfl ?_
  exact hT _ _ _ _ (Nat.le_of_ble_eq_true rfl) (Nat.le_of_ble_eq_true rfl)
set_option maxRecDepth 100000 in
set_option maxHeartbeats 4000000 in
theorem lc_33 {z : Cz} {E : Ez} {b x m : Nat} {xs : Nat → Int32} (hC : Cx z E cL_law RL 4 14 600000 7302250) (hX : va_X b 6 xs (zs z) (zs z).heap) (hbl : b < (zs z).heap.size) (hbA : ¬ zA z b) (hT : ∀ (L : List Nat) (f : Nat → va_E) (c s : Nat), c ≤ 600000 → s ≤ 7302250 → V z E 4 c s L f 1468 [(3, .int 0), (2, .ref m), (1, .ref x), (0, .ref b)] []) {Lx Lm : List Nat} {f : Nat → va_E} (hFX : FX E x Lx f) (hFM : FM E m Lm f) : V z E 4 85 18286 (Lx ++ Lm) f 1187 [(3, .int 0), (2, .ref m), (1, .ref x), (0, .ref b)] [] := by
  obtain ⟨t, now, im, la, sl, np, ns, nw, nwa, nl, he, wa, tr, ta, tb, lax, nps, npf, nwc, nlk, nlf, nls, gsl, ⟨m_x, e_x⟩, ⟨m_t, e_t⟩, ⟨m_tb, e_tb⟩, ⟨m_im, e_im⟩, ⟨m_la, e_la⟩, ⟨m_sl, e_sl⟩, ⟨m_np, e_np⟩, ⟨m_ns, e_ns⟩, ⟨m_nw, e_nw⟩, ⟨m_nwa, e_nwa⟩, ⟨m_nwc, e_nwc⟩, ⟨m_nl, e_nl⟩, ⟨m_nlk, e_nlk⟩, ⟨m_nlf, e_nlf⟩, ⟨m_nls, e_nls⟩, hB, psl0⟩ := hFX
  obtain ⟨pa, pas, paf, sh, wy, wt, wtc, lo, lok, lof, los, cl, gwy, gcl, ⟨m_now, e_now⟩, ⟨m_pa, e_pa⟩, ⟨m_pas, e_pas⟩, ⟨m_paf, e_paf⟩, ⟨m_sh, e_sh⟩, ⟨m_wy, e_wy⟩, ⟨m_wt, e_wt⟩, ⟨m_wtc, e_wtc⟩, ⟨m_lo, e_lo⟩, ⟨m_lok, e_lok⟩, ⟨m_lof, e_lof⟩, ⟨m_los, e_los⟩, ⟨m_cl, e_cl⟩, pwy0, pcl0⟩ := id hB
  obtain ⟨wo, img, hi, tp, fv, fr, cl0, pl, wd, rd, tr0, co, bi, wl, mn, wi, nu, mv, gmn, ⟨m_m, e_m⟩, ⟨m_wo, e_wo⟩, ⟨m_img, e_img⟩, ⟨m_hi, e_hi⟩, ⟨m_tp, e_tp⟩, ⟨m_fv, e_fv⟩, ⟨m_fr, e_fr⟩, ⟨m_mn, e_mn⟩, ⟨m_wi, e_wi⟩, ⟨m_nu, e_nu⟩, pmn⟩ := hFM
  have pcl : ∀ i : Nat, i < 4 → ∃ q s : Nat, gcl i = some q ∧ q ∈ Lx ∧ f q = ob 1 [.ref s, .int 0] := fun i hi => by
    obtain ⟨q, s, h1, ⟨h2, h3⟩, -⟩ := pcl0 i hi
    exact ⟨q, s, h1, h2, h3⟩
  have pwy : ∀ i : Nat, i < 6 → ∃ q : Nat, gwy i = some q ∧ q ∈ Lx ∧ f q = ob 10 [.int 0, .int 0, .int 1, .int 1, .int 1, .int 0, .int 0] := fun i hi => by
    obtain ⟨q, h1, h2, h3⟩ := pwy0 i hi
    exact ⟨q, h1, h2, h3⟩
  have psl : ∀ i : Nat, i < 4 → ∃ q s : Nat, gsl i = some q ∧ q ∈ Lx ∧ f q = ob 5 [.ref s, .int (-1), .int 0] ∧ s ∈ Lx ∧ f s = aJ E 60 (fun _ => 0) := fun i hi => by
    obtain ⟨q, s, h1, ⟨h2, h3⟩, h4, h5⟩ := psl0 i hi
    exact ⟨q, s, h1, h2, h3, h4, h5⟩
  refine v_aload_n hC dL_law_1187 rfl ?_
  refine v_aload_n hC dL_law_1188 rfl ?_
  refine v_iload_n hC dL_law_1189 rfl ?_
  refine v_iconst hC dL_law_1190 (v := 1) (by decide) ?_
  refine v_iadd hC dL_law_1191 (v := 1) (by decide) ?_
  refine v_sld hC hX hbl hbA (by unfold vp_in; decide) (v := xs 1) rfl dL_law_1192 ?_
  refine v_viD hC (rest := []) m_x e_x rfl mi_X11_count ms_X11_count (x_count m_x e_x m_now e_now m_t e_t m_pa e_pa m_wt e_wt m_lo e_lo m_la e_la m_wy e_wy pwy m_cl e_cl pcl m_sl e_sl psl) mx_X11_count ml_L_150 (by decide) rfl (cells1 := 85) (slots1 := 18286) (by decide) (by decide) (Nat.le_of_ble_eq_true rfl) (Nat.le_of_ble_eq_true rfl) rfl (Nat.le_of_ble_eq_true rfl) dL_law_1193 (fun r_1 L_2 f_3 h_4 => ?_)
  obtain rfl : sp_count (xs 1) = r_1 := h_4
  refine v_aload_n hC dL_law_1196 rfl ?_
  refine v_aload_n hC dL_law_1197 rfl ?_
  refine v_iload_n hC dL_law_1198 rfl ?_
  refine v_iconst hC dL_law_1199 (v := 1) (by decide) ?_
  refine v_iadd hC dL_law_1200 (v := 1) (by decide) ?_
  refine v_sld hC hX hbl hbA (by unfold vp_in; decide) (v := xs 1) rfl dL_law_1201 ?_
  refine v_vi hC (rest := [.int (sp_count (xs 1))]) m_m e_m rfl mi_X12_count ms_X12_count (y_count m_m e_m m_wo e_wo m_mn e_mn pmn) mx_X12_count ml_L_153 (by decide) rfl (cells1 := 85) (slots1 := 18286) (by decide) (by decide) (Nat.le_of_ble_eq_true rfl) (Nat.le_of_ble_eq_true rfl) rfl (Nat.le_of_ble_eq_true rfl) dL_law_1202 (fun r_5 L_6 f_7 h_8 => ?_)
  obtain rfl : sp_count (xs 1) = r_5 := h_8
  refine v_icmp_eq_t hC dL_law_1205 (tgt := 1468) (by decide) rfl ?_
  exact hT _ _ _ _ (Nat.le_of_ble_eq_true rfl) (Nat.le_of_ble_eq_true rfl)
set_option maxRecDepth 100000 in
set_option maxHeartbeats 4000000 in
theorem lc_34 {z : Cz} {E : Ez} {b x m : Nat} {xs : Nat → Int32} (hC : Cx z E cL_law RL 4 14 600000 7302250) (hX : va_X b 6 xs (zs z) (zs z).heap) (hbl : b < (zs z).heap.size) (hbA : ¬ zA z b) (hT : ∀ (L : List Nat) (f : Nat → va_E) (c s : Nat), c ≤ 600000 → s ≤ 7302250 → V z E 4 c s L f 1468 [(3, .int 0), (2, .ref m), (1, .ref x), (0, .ref b)] []) {Lx Lm : List Nat} {f : Nat → va_E} (hFX : FX E x Lx f) (hFM : FM E m Lm f) : V z E 4 85 18286 (Lx ++ Lm) f 1210 [(3, .int 0), (2, .ref m), (1, .ref x), (0, .ref b)] [] := by
  obtain ⟨t, now, im, la, sl, np, ns, nw, nwa, nl, he, wa, tr, ta, tb, lax, nps, npf, nwc, nlk, nlf, nls, gsl, ⟨m_x, e_x⟩, ⟨m_t, e_t⟩, ⟨m_tb, e_tb⟩, ⟨m_im, e_im⟩, ⟨m_la, e_la⟩, ⟨m_sl, e_sl⟩, ⟨m_np, e_np⟩, ⟨m_ns, e_ns⟩, ⟨m_nw, e_nw⟩, ⟨m_nwa, e_nwa⟩, ⟨m_nwc, e_nwc⟩, ⟨m_nl, e_nl⟩, ⟨m_nlk, e_nlk⟩, ⟨m_nlf, e_nlf⟩, ⟨m_nls, e_nls⟩, hB, psl0⟩ := hFX
  obtain ⟨pa, pas, paf, sh, wy, wt, wtc, lo, lok, lof, los, cl, gwy, gcl, ⟨m_now, e_now⟩, ⟨m_pa, e_pa⟩, ⟨m_pas, e_pas⟩, ⟨m_paf, e_paf⟩, ⟨m_sh, e_sh⟩, ⟨m_wy, e_wy⟩, ⟨m_wt, e_wt⟩, ⟨m_wtc, e_wtc⟩, ⟨m_lo, e_lo⟩, ⟨m_lok, e_lok⟩, ⟨m_lof, e_lof⟩, ⟨m_los, e_los⟩, ⟨m_cl, e_cl⟩, pwy0, pcl0⟩ := id hB
  obtain ⟨wo, img, hi, tp, fv, fr, cl0, pl, wd, rd, tr0, co, bi, wl, mn, wi, nu, mv, gmn, ⟨m_m, e_m⟩, ⟨m_wo, e_wo⟩, ⟨m_img, e_img⟩, ⟨m_hi, e_hi⟩, ⟨m_tp, e_tp⟩, ⟨m_fv, e_fv⟩, ⟨m_fr, e_fr⟩, ⟨m_mn, e_mn⟩, ⟨m_wi, e_wi⟩, ⟨m_nu, e_nu⟩, pmn⟩ := hFM
  have pcl : ∀ i : Nat, i < 4 → ∃ q s : Nat, gcl i = some q ∧ q ∈ Lx ∧ f q = ob 1 [.ref s, .int 0] := fun i hi => by
    obtain ⟨q, s, h1, ⟨h2, h3⟩, -⟩ := pcl0 i hi
    exact ⟨q, s, h1, h2, h3⟩
  have pwy : ∀ i : Nat, i < 6 → ∃ q : Nat, gwy i = some q ∧ q ∈ Lx ∧ f q = ob 10 [.int 0, .int 0, .int 1, .int 1, .int 1, .int 0, .int 0] := fun i hi => by
    obtain ⟨q, h1, h2, h3⟩ := pwy0 i hi
    exact ⟨q, h1, h2, h3⟩
  have psl : ∀ i : Nat, i < 4 → ∃ q s : Nat, gsl i = some q ∧ q ∈ Lx ∧ f q = ob 5 [.ref s, .int (-1), .int 0] ∧ s ∈ Lx ∧ f s = aJ E 60 (fun _ => 0) := fun i hi => by
    obtain ⟨q, s, h1, ⟨h2, h3⟩, h4, h5⟩ := psl0 i hi
    exact ⟨q, s, h1, h2, h3, h4, h5⟩
  refine v_aload_n hC dL_law_1210 rfl ?_
  refine v_aload_n hC dL_law_1211 rfl ?_
  refine v_iload_n hC dL_law_1212 rfl ?_
  refine v_iconst hC dL_law_1213 (v := 1) (by decide) ?_
  refine v_iadd hC dL_law_1214 (v := 1) (by decide) ?_
  refine v_sld hC hX hbl hbA (by unfold vp_in; decide) (v := xs 1) rfl dL_law_1215 ?_
  refine v_viD hC (rest := []) m_x e_x rfl mi_X11_keep ms_X11_keep (x_keep m_x e_x m_im e_im hB) mx_X11_keep ml_L_154 (by decide) rfl (cells1 := 112) (slots1 := 20239) (by decide) (by decide) (Nat.le_of_ble_eq_true rfl) (Nat.le_of_ble_eq_true rfl) rfl (Nat.le_of_ble_eq_true rfl) dL_law_1216 (fun r_1 L_2 f_3 h_4 => ?_)
  obtain rfl : sp_keep (xs 1) = r_1 := h_4
  refine v_aload_n hC dL_law_1219 rfl ?_
  refine v_aload_n hC dL_law_1220 rfl ?_
  refine v_iload_n hC dL_law_1221 rfl ?_
  refine v_iconst hC dL_law_1222 (v := 1) (by decide) ?_
  refine v_iadd hC dL_law_1223 (v := 1) (by decide) ?_
  refine v_sld hC hX hbl hbA (by unfold vp_in; decide) (v := xs 1) rfl dL_law_1224 ?_
  refine v_vi hC (rest := [.int (sp_keep (xs 1))]) m_m e_m rfl mi_X12_keep ms_X12_keep (y_keep m_m e_m m_wo e_wo m_img e_img m_hi e_hi) mx_X12_keep ml_L_157 (by decide) rfl (cells1 := 112) (slots1 := 20239) (by decide) (by decide) (Nat.le_of_ble_eq_true rfl) (Nat.le_of_ble_eq_true rfl) rfl (Nat.le_of_ble_eq_true rfl) dL_law_1225 (fun r_5 L_6 f_7 h_8 => ?_)
  obtain rfl : sp_keep (xs 1) = r_5 := h_8
  refine v_icmp_eq_t hC dL_law_1228 (tgt := 1468) (by decide) rfl ?_
  exact hT _ _ _ _ (Nat.le_of_ble_eq_true rfl) (Nat.le_of_ble_eq_true rfl)
set_option maxRecDepth 100000 in
set_option maxHeartbeats 4000000 in
theorem lc_35 {z : Cz} {E : Ez} {b x m : Nat} {xs : Nat → Int32} (hC : Cx z E cL_law RL 4 14 600000 7302250) (hX : va_X b 6 xs (zs z) (zs z).heap) (hbl : b < (zs z).heap.size) (hbA : ¬ zA z b) (hT : ∀ (L : List Nat) (f : Nat → va_E) (c s : Nat), c ≤ 600000 → s ≤ 7302250 → V z E 4 c s L f 1468 [(3, .int 0), (2, .ref m), (1, .ref x), (0, .ref b)] []) {Lx Lm : List Nat} {f : Nat → va_E} (hFX : FX E x Lx f) (hFM : FM E m Lm f) : V z E 4 85 18286 (Lx ++ Lm) f 1233 [(3, .int 0), (2, .ref m), (1, .ref x), (0, .ref b)] [] := by
  obtain ⟨t, now, im, la, sl, np, ns, nw, nwa, nl, he, wa, tr, ta, tb, lax, nps, npf, nwc, nlk, nlf, nls, gsl, ⟨m_x, e_x⟩, ⟨m_t, e_t⟩, ⟨m_tb, e_tb⟩, ⟨m_im, e_im⟩, ⟨m_la, e_la⟩, ⟨m_sl, e_sl⟩, ⟨m_np, e_np⟩, ⟨m_ns, e_ns⟩, ⟨m_nw, e_nw⟩, ⟨m_nwa, e_nwa⟩, ⟨m_nwc, e_nwc⟩, ⟨m_nl, e_nl⟩, ⟨m_nlk, e_nlk⟩, ⟨m_nlf, e_nlf⟩, ⟨m_nls, e_nls⟩, hB, psl0⟩ := hFX
  obtain ⟨pa, pas, paf, sh, wy, wt, wtc, lo, lok, lof, los, cl, gwy, gcl, ⟨m_now, e_now⟩, ⟨m_pa, e_pa⟩, ⟨m_pas, e_pas⟩, ⟨m_paf, e_paf⟩, ⟨m_sh, e_sh⟩, ⟨m_wy, e_wy⟩, ⟨m_wt, e_wt⟩, ⟨m_wtc, e_wtc⟩, ⟨m_lo, e_lo⟩, ⟨m_lok, e_lok⟩, ⟨m_lof, e_lof⟩, ⟨m_los, e_los⟩, ⟨m_cl, e_cl⟩, pwy0, pcl0⟩ := id hB
  obtain ⟨wo, img, hi, tp, fv, fr, cl0, pl, wd, rd, tr0, co, bi, wl, mn, wi, nu, mv, gmn, ⟨m_m, e_m⟩, ⟨m_wo, e_wo⟩, ⟨m_img, e_img⟩, ⟨m_hi, e_hi⟩, ⟨m_tp, e_tp⟩, ⟨m_fv, e_fv⟩, ⟨m_fr, e_fr⟩, ⟨m_mn, e_mn⟩, ⟨m_wi, e_wi⟩, ⟨m_nu, e_nu⟩, pmn⟩ := hFM
  have pcl : ∀ i : Nat, i < 4 → ∃ q s : Nat, gcl i = some q ∧ q ∈ Lx ∧ f q = ob 1 [.ref s, .int 0] := fun i hi => by
    obtain ⟨q, s, h1, ⟨h2, h3⟩, -⟩ := pcl0 i hi
    exact ⟨q, s, h1, h2, h3⟩
  have pwy : ∀ i : Nat, i < 6 → ∃ q : Nat, gwy i = some q ∧ q ∈ Lx ∧ f q = ob 10 [.int 0, .int 0, .int 1, .int 1, .int 1, .int 0, .int 0] := fun i hi => by
    obtain ⟨q, h1, h2, h3⟩ := pwy0 i hi
    exact ⟨q, h1, h2, h3⟩
  have psl : ∀ i : Nat, i < 4 → ∃ q s : Nat, gsl i = some q ∧ q ∈ Lx ∧ f q = ob 5 [.ref s, .int (-1), .int 0] ∧ s ∈ Lx ∧ f s = aJ E 60 (fun _ => 0) := fun i hi => by
    obtain ⟨q, s, h1, ⟨h2, h3⟩, h4, h5⟩ := psl0 i hi
    exact ⟨q, s, h1, h2, h3, h4, h5⟩
  refine v_aload_n hC dL_law_1233 rfl ?_
  refine v_aload_n hC dL_law_1234 rfl ?_
  refine v_iload_n hC dL_law_1235 rfl ?_
  refine v_iconst hC dL_law_1236 (v := 1) (by decide) ?_
  refine v_iadd hC dL_law_1237 (v := 1) (by decide) ?_
  refine v_sld hC hX hbl hbA (by unfold vp_in; decide) (v := xs 1) rfl dL_law_1238 ?_
  refine v_viD hC (rest := []) m_x e_x rfl mi_X11_back ms_X11_back (x_back m_x e_x m_im e_im) mx_X11_back ml_L_158 (by decide) rfl (cells1 := 85) (slots1 := 18286) (by decide) (by decide) (Nat.le_of_ble_eq_true rfl) (Nat.le_of_ble_eq_true rfl) rfl (Nat.le_of_ble_eq_true rfl) dL_law_1239 (fun r_1 L_2 f_3 h_4 => ?_)
  obtain rfl : sp_back (xs 1) = r_1 := h_4
  refine v_aload_n hC dL_law_1242 rfl ?_
  refine v_aload_n hC dL_law_1243 rfl ?_
  refine v_iload_n hC dL_law_1244 rfl ?_
  refine v_iconst hC dL_law_1245 (v := 1) (by decide) ?_
  refine v_iadd hC dL_law_1246 (v := 1) (by decide) ?_
  refine v_sld hC hX hbl hbA (by unfold vp_in; decide) (v := xs 1) rfl dL_law_1247 ?_
  refine v_vi hC (rest := [.int (sp_back (xs 1))]) m_m e_m rfl mi_X12_back ms_X12_back (y_back m_m e_m m_hi e_hi) mx_X12_back ml_L_161 (by decide) rfl (cells1 := 85) (slots1 := 18286) (by decide) (by decide) (Nat.le_of_ble_eq_true rfl) (Nat.le_of_ble_eq_true rfl) rfl (Nat.le_of_ble_eq_true rfl) dL_law_1248 (fun r_5 L_6 f_7 h_8 => ?_)
  obtain rfl : sp_back (xs 1) = r_5 := h_8
  refine v_icmp_eq_t hC dL_law_1251 (tgt := 1468) (by decide) rfl ?_
  exact hT _ _ _ _ (Nat.le_of_ble_eq_true rfl) (Nat.le_of_ble_eq_true rfl)
set_option maxRecDepth 100000 in
set_option maxHeartbeats 4000000 in
theorem lc_36 {z : Cz} {E : Ez} {b x m : Nat} {xs : Nat → Int32} (hC : Cx z E cL_law RL 4 14 600000 7302250) (hX : va_X b 6 xs (zs z) (zs z).heap) (hbl : b < (zs z).heap.size) (hbA : ¬ zA z b) (hT : ∀ (L : List Nat) (f : Nat → va_E) (c s : Nat), c ≤ 600000 → s ≤ 7302250 → V z E 4 c s L f 1468 [(3, .int 0), (2, .ref m), (1, .ref x), (0, .ref b)] []) {Lx Lm : List Nat} {f : Nat → va_E} (hFX : FX E x Lx f) (hFM : FM E m Lm f) : V z E 4 85 18286 (Lx ++ Lm) f 1256 [(3, .int 0), (2, .ref m), (1, .ref x), (0, .ref b)] [] := by
  obtain ⟨t, now, im, la, sl, np, ns, nw, nwa, nl, he, wa, tr, ta, tb, lax, nps, npf, nwc, nlk, nlf, nls, gsl, ⟨m_x, e_x⟩, ⟨m_t, e_t⟩, ⟨m_tb, e_tb⟩, ⟨m_im, e_im⟩, ⟨m_la, e_la⟩, ⟨m_sl, e_sl⟩, ⟨m_np, e_np⟩, ⟨m_ns, e_ns⟩, ⟨m_nw, e_nw⟩, ⟨m_nwa, e_nwa⟩, ⟨m_nwc, e_nwc⟩, ⟨m_nl, e_nl⟩, ⟨m_nlk, e_nlk⟩, ⟨m_nlf, e_nlf⟩, ⟨m_nls, e_nls⟩, hB, psl0⟩ := hFX
  obtain ⟨pa, pas, paf, sh, wy, wt, wtc, lo, lok, lof, los, cl, gwy, gcl, ⟨m_now, e_now⟩, ⟨m_pa, e_pa⟩, ⟨m_pas, e_pas⟩, ⟨m_paf, e_paf⟩, ⟨m_sh, e_sh⟩, ⟨m_wy, e_wy⟩, ⟨m_wt, e_wt⟩, ⟨m_wtc, e_wtc⟩, ⟨m_lo, e_lo⟩, ⟨m_lok, e_lok⟩, ⟨m_lof, e_lof⟩, ⟨m_los, e_los⟩, ⟨m_cl, e_cl⟩, pwy0, pcl0⟩ := id hB
  obtain ⟨wo, img, hi, tp, fv, fr, cl0, pl, wd, rd, tr0, co, bi, wl, mn, wi, nu, mv, gmn, ⟨m_m, e_m⟩, ⟨m_wo, e_wo⟩, ⟨m_img, e_img⟩, ⟨m_hi, e_hi⟩, ⟨m_tp, e_tp⟩, ⟨m_fv, e_fv⟩, ⟨m_fr, e_fr⟩, ⟨m_mn, e_mn⟩, ⟨m_wi, e_wi⟩, ⟨m_nu, e_nu⟩, pmn⟩ := hFM
  have pcl : ∀ i : Nat, i < 4 → ∃ q s : Nat, gcl i = some q ∧ q ∈ Lx ∧ f q = ob 1 [.ref s, .int 0] := fun i hi => by
    obtain ⟨q, s, h1, ⟨h2, h3⟩, -⟩ := pcl0 i hi
    exact ⟨q, s, h1, h2, h3⟩
  have pwy : ∀ i : Nat, i < 6 → ∃ q : Nat, gwy i = some q ∧ q ∈ Lx ∧ f q = ob 10 [.int 0, .int 0, .int 1, .int 1, .int 1, .int 0, .int 0] := fun i hi => by
    obtain ⟨q, h1, h2, h3⟩ := pwy0 i hi
    exact ⟨q, h1, h2, h3⟩
  have psl : ∀ i : Nat, i < 4 → ∃ q s : Nat, gsl i = some q ∧ q ∈ Lx ∧ f q = ob 5 [.ref s, .int (-1), .int 0] ∧ s ∈ Lx ∧ f s = aJ E 60 (fun _ => 0) := fun i hi => by
    obtain ⟨q, s, h1, ⟨h2, h3⟩, h4, h5⟩ := psl0 i hi
    exact ⟨q, s, h1, h2, h3, h4, h5⟩
  refine v_aload_n hC dL_law_1256 rfl ?_
  refine v_aload_n hC dL_law_1257 rfl ?_
  refine v_iload_n hC dL_law_1258 rfl ?_
  refine v_iconst hC dL_law_1259 (v := 1) (by decide) ?_
  refine v_iadd hC dL_law_1260 (v := 1) (by decide) ?_
  refine v_sld hC hX hbl hbA (by unfold vp_in; decide) (v := xs 1) rfl dL_law_1261 ?_
  refine v_aload_n hC dL_law_1262 rfl ?_
  refine v_iload_n hC dL_law_1263 rfl ?_
  refine v_iconst hC dL_law_1264 (v := 2) (by decide) ?_
  refine v_iadd hC dL_law_1265 (v := 2) (by decide) ?_
  refine v_sld hC hX hbl hbA (by unfold vp_in; decide) (v := xs 2) rfl dL_law_1266 ?_
  refine v_aload_n hC dL_law_1267 rfl ?_
  refine v_iload_n hC dL_law_1268 rfl ?_
  refine v_iconst hC dL_law_1269 (v := 3) (by decide) ?_
  refine v_iadd hC dL_law_1270 (v := 3) (by decide) ?_
  refine v_sld hC hX hbl hbA (by unfold vp_in; decide) (v := xs 3) rfl dL_law_1271 ?_
  refine v_viD hC (rest := []) m_x e_x rfl mi_X11_row ms_X11_row (x_row m_x e_x m_sl e_sl psl) mx_X11_row ml_L_162 (by decide) rfl (cells1 := 85) (slots1 := 18286) (by decide) (by decide) (Nat.le_of_ble_eq_true rfl) (Nat.le_of_ble_eq_true rfl) rfl (Nat.le_of_ble_eq_true rfl) dL_law_1272 (fun r_1 L_2 f_3 h_4 => ?_)
  obtain rfl : sp_row (xs 1) (xs 2) (xs 3) = r_1 := h_4
  refine v_aload_n hC dL_law_1275 rfl ?_
  refine v_aload_n hC dL_law_1276 rfl ?_
  refine v_iload_n hC dL_law_1277 rfl ?_
  refine v_iconst hC dL_law_1278 (v := 1) (by decide) ?_
  refine v_iadd hC dL_law_1279 (v := 1) (by decide) ?_
  refine v_sld hC hX hbl hbA (by unfold vp_in; decide) (v := xs 1) rfl dL_law_1280 ?_
  refine v_aload_n hC dL_law_1281 rfl ?_
  refine v_iload_n hC dL_law_1282 rfl ?_
  refine v_iconst hC dL_law_1283 (v := 2) (by decide) ?_
  refine v_iadd hC dL_law_1284 (v := 2) (by decide) ?_
  refine v_sld hC hX hbl hbA (by unfold vp_in; decide) (v := xs 2) rfl dL_law_1285 ?_
  refine v_aload_n hC dL_law_1286 rfl ?_
  refine v_iload_n hC dL_law_1287 rfl ?_
  refine v_iconst hC dL_law_1288 (v := 3) (by decide) ?_
  refine v_iadd hC dL_law_1289 (v := 3) (by decide) ?_
  refine v_sld hC hX hbl hbA (by unfold vp_in; decide) (v := xs 3) rfl dL_law_1290 ?_
  refine v_vi hC (rest := [.int (sp_row (xs 1) (xs 2) (xs 3))]) m_m e_m rfl mi_X12_row ms_X12_row (y_row m_m e_m m_mn e_mn pmn m_wi e_wi m_nu e_nu) mx_X12_row ml_L_165 (by decide) rfl (cells1 := 85) (slots1 := 18286) (by decide) (by decide) (Nat.le_of_ble_eq_true rfl) (Nat.le_of_ble_eq_true rfl) rfl (Nat.le_of_ble_eq_true rfl) dL_law_1291 (fun r_5 L_6 f_7 h_8 => ?_)
  obtain rfl : sp_row (xs 1) (xs 2) (xs 3) = r_5 := h_8
  refine v_icmp_eq_t hC dL_law_1294 (tgt := 1468) (by decide) rfl ?_
  exact hT _ _ _ _ (Nat.le_of_ble_eq_true rfl) (Nat.le_of_ble_eq_true rfl)
set_option maxRecDepth 100000 in
set_option maxHeartbeats 4000000 in
theorem lc_37 {z : Cz} {E : Ez} {b x m : Nat} {xs : Nat → Int32} (hC : Cx z E cL_law RL 4 14 600000 7302250) (hX : va_X b 6 xs (zs z) (zs z).heap) (hbl : b < (zs z).heap.size) (hbA : ¬ zA z b) (hT : ∀ (L : List Nat) (f : Nat → va_E) (c s : Nat), c ≤ 600000 → s ≤ 7302250 → V z E 4 c s L f 1468 [(3, .int 0), (2, .ref m), (1, .ref x), (0, .ref b)] []) {Lx Lm : List Nat} {f : Nat → va_E} (hFX : FX E x Lx f) (hFM : FM E m Lm f) : V z E 4 85 18286 (Lx ++ Lm) f 1299 [(3, .int 0), (2, .ref m), (1, .ref x), (0, .ref b)] [] := by
  obtain ⟨t, now, im, la, sl, np, ns, nw, nwa, nl, he, wa, tr, ta, tb, lax, nps, npf, nwc, nlk, nlf, nls, gsl, ⟨m_x, e_x⟩, ⟨m_t, e_t⟩, ⟨m_tb, e_tb⟩, ⟨m_im, e_im⟩, ⟨m_la, e_la⟩, ⟨m_sl, e_sl⟩, ⟨m_np, e_np⟩, ⟨m_ns, e_ns⟩, ⟨m_nw, e_nw⟩, ⟨m_nwa, e_nwa⟩, ⟨m_nwc, e_nwc⟩, ⟨m_nl, e_nl⟩, ⟨m_nlk, e_nlk⟩, ⟨m_nlf, e_nlf⟩, ⟨m_nls, e_nls⟩, hB, psl0⟩ := hFX
  obtain ⟨pa, pas, paf, sh, wy, wt, wtc, lo, lok, lof, los, cl, gwy, gcl, ⟨m_now, e_now⟩, ⟨m_pa, e_pa⟩, ⟨m_pas, e_pas⟩, ⟨m_paf, e_paf⟩, ⟨m_sh, e_sh⟩, ⟨m_wy, e_wy⟩, ⟨m_wt, e_wt⟩, ⟨m_wtc, e_wtc⟩, ⟨m_lo, e_lo⟩, ⟨m_lok, e_lok⟩, ⟨m_lof, e_lof⟩, ⟨m_los, e_los⟩, ⟨m_cl, e_cl⟩, pwy0, pcl0⟩ := id hB
  obtain ⟨wo, img, hi, tp, fv, fr, cl0, pl, wd, rd, tr0, co, bi, wl, mn, wi, nu, mv, gmn, ⟨m_m, e_m⟩, ⟨m_wo, e_wo⟩, ⟨m_img, e_img⟩, ⟨m_hi, e_hi⟩, ⟨m_tp, e_tp⟩, ⟨m_fv, e_fv⟩, ⟨m_fr, e_fr⟩, ⟨m_mn, e_mn⟩, ⟨m_wi, e_wi⟩, ⟨m_nu, e_nu⟩, pmn⟩ := hFM
  have pcl : ∀ i : Nat, i < 4 → ∃ q s : Nat, gcl i = some q ∧ q ∈ Lx ∧ f q = ob 1 [.ref s, .int 0] := fun i hi => by
    obtain ⟨q, s, h1, ⟨h2, h3⟩, -⟩ := pcl0 i hi
    exact ⟨q, s, h1, h2, h3⟩
  have pwy : ∀ i : Nat, i < 6 → ∃ q : Nat, gwy i = some q ∧ q ∈ Lx ∧ f q = ob 10 [.int 0, .int 0, .int 1, .int 1, .int 1, .int 0, .int 0] := fun i hi => by
    obtain ⟨q, h1, h2, h3⟩ := pwy0 i hi
    exact ⟨q, h1, h2, h3⟩
  have psl : ∀ i : Nat, i < 4 → ∃ q s : Nat, gsl i = some q ∧ q ∈ Lx ∧ f q = ob 5 [.ref s, .int (-1), .int 0] ∧ s ∈ Lx ∧ f s = aJ E 60 (fun _ => 0) := fun i hi => by
    obtain ⟨q, s, h1, ⟨h2, h3⟩, h4, h5⟩ := psl0 i hi
    exact ⟨q, s, h1, h2, h3, h4, h5⟩
  refine v_aload_n hC dL_law_1299 rfl ?_
  refine v_aload_n hC dL_law_1300 rfl ?_
  refine v_iload_n hC dL_law_1301 rfl ?_
  refine v_iconst hC dL_law_1302 (v := 1) (by decide) ?_
  refine v_iadd hC dL_law_1303 (v := 1) (by decide) ?_
  refine v_sld hC hX hbl hbA (by unfold vp_in; decide) (v := xs 1) rfl dL_law_1304 ?_
  refine v_aload_n hC dL_law_1305 rfl ?_
  refine v_iload_n hC dL_law_1306 rfl ?_
  refine v_iconst hC dL_law_1307 (v := 2) (by decide) ?_
  refine v_iadd hC dL_law_1308 (v := 2) (by decide) ?_
  refine v_sld hC hX hbl hbA (by unfold vp_in; decide) (v := xs 2) rfl dL_law_1309 ?_
  refine v_aload_n hC dL_law_1310 rfl ?_
  refine v_iload_n hC dL_law_1311 rfl ?_
  refine v_iconst hC dL_law_1312 (v := 3) (by decide) ?_
  refine v_iadd hC dL_law_1313 (v := 3) (by decide) ?_
  refine v_sld hC hX hbl hbA (by unfold vp_in; decide) (v := xs 3) rfl dL_law_1314 ?_
  refine v_i2l hC dL_law_1315 rfl ?_
  refine v_bipush hC dL_law_1316 (v := 32) (by decide) ?_
  refine v_lshl hC dL_law_1318 rfl ?_
  refine v_aload_n hC dL_law_1319 rfl ?_
  refine v_iload_n hC dL_law_1320 rfl ?_
  refine v_iconst hC dL_law_1321 (v := 4) (by decide) ?_
  refine v_iadd hC dL_law_1322 (v := 4) (by decide) ?_
  refine v_sld hC hX hbl hbA (by unfold vp_in; decide) (v := xs 4) rfl dL_law_1323 ?_
  refine v_i2l hC dL_law_1324 rfl ?_
  refine v_ldc2 hC kl_L_166 dL_law_1325 ?_
  refine v_land hC dL_law_1328 rfl ?_
  refine v_lor hC dL_law_1329 rfl ?_
  refine v_viD hC (rest := []) m_x e_x rfl mi_X11_write ms_X11_write (x_write m_x e_x m_sl e_sl psl) mx_X11_write ml_L_168 (by decide) rfl (cells1 := 85) (slots1 := 18286) (by decide) (by decide) (Nat.le_of_ble_eq_true rfl) (Nat.le_of_ble_eq_true rfl) rfl (Nat.le_of_ble_eq_true rfl) dL_law_1330 (fun r_1 L_2 f_3 h_4 => ?_)
  obtain rfl : sp_slot (xs 1) = r_1 := h_4
  refine v_aload_n hC dL_law_1333 rfl ?_
  refine v_aload_n hC dL_law_1334 rfl ?_
  refine v_iload_n hC dL_law_1335 rfl ?_
  refine v_iconst hC dL_law_1336 (v := 1) (by decide) ?_
  refine v_iadd hC dL_law_1337 (v := 1) (by decide) ?_
  refine v_sld hC hX hbl hbA (by unfold vp_in; decide) (v := xs 1) rfl dL_law_1338 ?_
  refine v_aload_n hC dL_law_1339 rfl ?_
  refine v_iload_n hC dL_law_1340 rfl ?_
  refine v_iconst hC dL_law_1341 (v := 2) (by decide) ?_
  refine v_iadd hC dL_law_1342 (v := 2) (by decide) ?_
  refine v_sld hC hX hbl hbA (by unfold vp_in; decide) (v := xs 2) rfl dL_law_1343 ?_
  refine v_aload_n hC dL_law_1344 rfl ?_
  refine v_iload_n hC dL_law_1345 rfl ?_
  refine v_iconst hC dL_law_1346 (v := 3) (by decide) ?_
  refine v_iadd hC dL_law_1347 (v := 3) (by decide) ?_
  refine v_sld hC hX hbl hbA (by unfold vp_in; decide) (v := xs 3) rfl dL_law_1348 ?_
  refine v_i2l hC dL_law_1349 rfl ?_
  refine v_bipush hC dL_law_1350 (v := 32) (by decide) ?_
  refine v_lshl hC dL_law_1352 rfl ?_
  refine v_aload_n hC dL_law_1353 rfl ?_
  refine v_iload_n hC dL_law_1354 rfl ?_
  refine v_iconst hC dL_law_1355 (v := 4) (by decide) ?_
  refine v_iadd hC dL_law_1356 (v := 4) (by decide) ?_
  refine v_sld hC hX hbl hbA (by unfold vp_in; decide) (v := xs 4) rfl dL_law_1357 ?_
  refine v_i2l hC dL_law_1358 rfl ?_
  refine v_ldc2 hC kl_L_166 dL_law_1359 ?_
  refine v_land hC dL_law_1362 rfl ?_
  refine v_lor hC dL_law_1363 rfl ?_
  refine v_vi hC (rest := [.int (sp_slot (xs 1))]) m_m e_m rfl mi_X12_write ms_X12_write (y_write m_m e_m m_mn e_mn pmn) mx_X12_write ml_L_172 (by decide) rfl (cells1 := 85) (slots1 := 18286) (by decide) (by decide) (Nat.le_of_ble_eq_true rfl) (Nat.le_of_ble_eq_true rfl) rfl (Nat.le_of_ble_eq_true rfl) dL_law_1364 (fun r_5 L_6 f_7 h_8 => ?_)
  obtain rfl : sp_slot (xs 1) = r_5 := h_8
  refine v_icmp_eq_t hC dL_law_1367 (tgt := 1468) (by decide) rfl ?_
  exact hT _ _ _ _ (Nat.le_of_ble_eq_true rfl) (Nat.le_of_ble_eq_true rfl)
set_option maxRecDepth 100000 in
set_option maxHeartbeats 4000000 in
theorem lc_38 {z : Cz} {E : Ez} {b x m : Nat} {xs : Nat → Int32} (hC : Cx z E cL_law RL 4 14 600000 7302250) (hX : va_X b 6 xs (zs z) (zs z).heap) (hbl : b < (zs z).heap.size) (hbA : ¬ zA z b) (hT : ∀ (L : List Nat) (f : Nat → va_E) (c s : Nat), c ≤ 600000 → s ≤ 7302250 → V z E 4 c s L f 1468 [(3, .int 0), (2, .ref m), (1, .ref x), (0, .ref b)] []) {Lx Lm : List Nat} {f : Nat → va_E} (hFX : FX E x Lx f) (hFM : FM E m Lm f) : V z E 4 85 18286 (Lx ++ Lm) f 1372 [(3, .int 0), (2, .ref m), (1, .ref x), (0, .ref b)] [] := by
  obtain ⟨t, now, im, la, sl, np, ns, nw, nwa, nl, he, wa, tr, ta, tb, lax, nps, npf, nwc, nlk, nlf, nls, gsl, ⟨m_x, e_x⟩, ⟨m_t, e_t⟩, ⟨m_tb, e_tb⟩, ⟨m_im, e_im⟩, ⟨m_la, e_la⟩, ⟨m_sl, e_sl⟩, ⟨m_np, e_np⟩, ⟨m_ns, e_ns⟩, ⟨m_nw, e_nw⟩, ⟨m_nwa, e_nwa⟩, ⟨m_nwc, e_nwc⟩, ⟨m_nl, e_nl⟩, ⟨m_nlk, e_nlk⟩, ⟨m_nlf, e_nlf⟩, ⟨m_nls, e_nls⟩, hB, psl0⟩ := hFX
  obtain ⟨pa, pas, paf, sh, wy, wt, wtc, lo, lok, lof, los, cl, gwy, gcl, ⟨m_now, e_now⟩, ⟨m_pa, e_pa⟩, ⟨m_pas, e_pas⟩, ⟨m_paf, e_paf⟩, ⟨m_sh, e_sh⟩, ⟨m_wy, e_wy⟩, ⟨m_wt, e_wt⟩, ⟨m_wtc, e_wtc⟩, ⟨m_lo, e_lo⟩, ⟨m_lok, e_lok⟩, ⟨m_lof, e_lof⟩, ⟨m_los, e_los⟩, ⟨m_cl, e_cl⟩, pwy0, pcl0⟩ := id hB
  obtain ⟨wo, img, hi, tp, fv, fr, cl0, pl, wd, rd, tr0, co, bi, wl, mn, wi, nu, mv, gmn, ⟨m_m, e_m⟩, ⟨m_wo, e_wo⟩, ⟨m_img, e_img⟩, ⟨m_hi, e_hi⟩, ⟨m_tp, e_tp⟩, ⟨m_fv, e_fv⟩, ⟨m_fr, e_fr⟩, ⟨m_mn, e_mn⟩, ⟨m_wi, e_wi⟩, ⟨m_nu, e_nu⟩, pmn⟩ := hFM
  have pcl : ∀ i : Nat, i < 4 → ∃ q s : Nat, gcl i = some q ∧ q ∈ Lx ∧ f q = ob 1 [.ref s, .int 0] := fun i hi => by
    obtain ⟨q, s, h1, ⟨h2, h3⟩, -⟩ := pcl0 i hi
    exact ⟨q, s, h1, h2, h3⟩
  have pwy : ∀ i : Nat, i < 6 → ∃ q : Nat, gwy i = some q ∧ q ∈ Lx ∧ f q = ob 10 [.int 0, .int 0, .int 1, .int 1, .int 1, .int 0, .int 0] := fun i hi => by
    obtain ⟨q, h1, h2, h3⟩ := pwy0 i hi
    exact ⟨q, h1, h2, h3⟩
  have psl : ∀ i : Nat, i < 4 → ∃ q s : Nat, gsl i = some q ∧ q ∈ Lx ∧ f q = ob 5 [.ref s, .int (-1), .int 0] ∧ s ∈ Lx ∧ f s = aJ E 60 (fun _ => 0) := fun i hi => by
    obtain ⟨q, s, h1, ⟨h2, h3⟩, h4, h5⟩ := psl0 i hi
    exact ⟨q, s, h1, h2, h3, h4, h5⟩
  refine v_aload_n hC dL_law_1372 rfl ?_
  refine v_aload_n hC dL_law_1373 rfl ?_
  refine v_iload_n hC dL_law_1374 rfl ?_
  refine v_iconst hC dL_law_1375 (v := 1) (by decide) ?_
  refine v_iadd hC dL_law_1376 (v := 1) (by decide) ?_
  refine v_sld hC hX hbl hbA (by unfold vp_in; decide) (v := xs 1) rfl dL_law_1377 ?_
  refine v_aload_n hC dL_law_1378 rfl ?_
  refine v_iload_n hC dL_law_1379 rfl ?_
  refine v_iconst hC dL_law_1380 (v := 2) (by decide) ?_
  refine v_iadd hC dL_law_1381 (v := 2) (by decide) ?_
  refine v_sld hC hX hbl hbA (by unfold vp_in; decide) (v := xs 2) rfl dL_law_1382 ?_
  refine v_aload_n hC dL_law_1383 rfl ?_
  refine v_iload_n hC dL_law_1384 rfl ?_
  refine v_iconst hC dL_law_1385 (v := 3) (by decide) ?_
  refine v_iadd hC dL_law_1386 (v := 3) (by decide) ?_
  refine v_sld hC hX hbl hbA (by unfold vp_in; decide) (v := xs 3) rfl dL_law_1387 ?_
  refine v_aload_n hC dL_law_1388 rfl ?_
  refine v_iload_n hC dL_law_1389 rfl ?_
  refine v_iconst hC dL_law_1390 (v := 4) (by decide) ?_
  refine v_iadd hC dL_law_1391 (v := 4) (by decide) ?_
  refine v_sld hC hX hbl hbA (by unfold vp_in; decide) (v := xs 4) rfl dL_law_1392 ?_
  refine v_aload_n hC dL_law_1393 rfl ?_
  refine v_iload_n hC dL_law_1394 rfl ?_
  refine v_iconst hC dL_law_1395 (v := 5) (by decide) ?_
  refine v_iadd hC dL_law_1396 (v := 5) (by decide) ?_
  refine v_sld hC hX hbl hbA (by unfold vp_in; decide) (v := xs 5) rfl dL_law_1397 ?_
  refine v_viD hC (rest := []) m_x e_x rfl mi_X11_paste ms_X11_paste (x_paste m_x e_x m_sl e_sl psl) mx_X11_paste ml_L_173 (by decide) rfl (cells1 := 85) (slots1 := 18286) (by decide) (by decide) (Nat.le_of_ble_eq_true rfl) (Nat.le_of_ble_eq_true rfl) rfl (Nat.le_of_ble_eq_true rfl) dL_law_1398 (fun r_1 L_2 f_3 h_4 => ?_)
  obtain rfl : sp_slots (xs 1) (xs 3) = r_1 := h_4
  refine v_aload_n hC dL_law_1401 rfl ?_
  refine v_aload_n hC dL_law_1402 rfl ?_
  refine v_iload_n hC dL_law_1403 rfl ?_
  refine v_iconst hC dL_law_1404 (v := 1) (by decide) ?_
  refine v_iadd hC dL_law_1405 (v := 1) (by decide) ?_
  refine v_sld hC hX hbl hbA (by unfold vp_in; decide) (v := xs 1) rfl dL_law_1406 ?_
  refine v_aload_n hC dL_law_1407 rfl ?_
  refine v_iload_n hC dL_law_1408 rfl ?_
  refine v_iconst hC dL_law_1409 (v := 2) (by decide) ?_
  refine v_iadd hC dL_law_1410 (v := 2) (by decide) ?_
  refine v_sld hC hX hbl hbA (by unfold vp_in; decide) (v := xs 2) rfl dL_law_1411 ?_
  refine v_aload_n hC dL_law_1412 rfl ?_
  refine v_iload_n hC dL_law_1413 rfl ?_
  refine v_iconst hC dL_law_1414 (v := 3) (by decide) ?_
  refine v_iadd hC dL_law_1415 (v := 3) (by decide) ?_
  refine v_sld hC hX hbl hbA (by unfold vp_in; decide) (v := xs 3) rfl dL_law_1416 ?_
  refine v_aload_n hC dL_law_1417 rfl ?_
  refine v_iload_n hC dL_law_1418 rfl ?_
  refine v_iconst hC dL_law_1419 (v := 4) (by decide) ?_
  refine v_iadd hC dL_law_1420 (v := 4) (by decide) ?_
  refine v_sld hC hX hbl hbA (by unfold vp_in; decide) (v := xs 4) rfl dL_law_1421 ?_
  refine v_aload_n hC dL_law_1422 rfl ?_
  refine v_iload_n hC dL_law_1423 rfl ?_
  refine v_iconst hC dL_law_1424 (v := 5) (by decide) ?_
  refine v_iadd hC dL_law_1425 (v := 5) (by decide) ?_
  refine v_sld hC hX hbl hbA (by unfold vp_in; decide) (v := xs 5) rfl dL_law_1426 ?_
  refine v_vi hC (rest := [.int (sp_slots (xs 1) (xs 3))]) m_m e_m rfl mi_X12_paste ms_X12_paste (y_paste m_m e_m m_mn e_mn pmn) mx_X12_paste ml_L_176 (by decide) rfl (cells1 := 85) (slots1 := 18286) (by decide) (by decide) (Nat.le_of_ble_eq_true rfl) (Nat.le_of_ble_eq_true rfl) rfl (Nat.le_of_ble_eq_true rfl) dL_law_1427 (fun r_5 L_6 f_7 h_8 => ?_)
  obtain rfl : sp_slots (xs 1) (xs 3) = r_5 := h_8
  refine v_icmp_eq_t hC dL_law_1430 (tgt := 1468) (by decide) rfl ?_
  exact hT _ _ _ _ (Nat.le_of_ble_eq_true rfl) (Nat.le_of_ble_eq_true rfl)
set_option maxRecDepth 100000 in
set_option maxHeartbeats 4000000 in
theorem lc_39 {z : Cz} {E : Ez} {b x m : Nat} {xs : Nat → Int32} (hC : Cx z E cL_law RL 4 14 600000 7302250) (hX : va_X b 6 xs (zs z) (zs z).heap) (hbl : b < (zs z).heap.size) (hbA : ¬ zA z b) (hT : ∀ (L : List Nat) (f : Nat → va_E) (c s : Nat), c ≤ 600000 → s ≤ 7302250 → V z E 4 c s L f 1468 [(3, .int 0), (2, .ref m), (1, .ref x), (0, .ref b)] []) {Lx Lm : List Nat} {f : Nat → va_E} (hFX : FX E x Lx f) (hFM : FM E m Lm f) : V z E 4 85 18286 (Lx ++ Lm) f 1435 [(3, .int 0), (2, .ref m), (1, .ref x), (0, .ref b)] [] := by
  obtain ⟨t, now, im, la, sl, np, ns, nw, nwa, nl, he, wa, tr, ta, tb, lax, nps, npf, nwc, nlk, nlf, nls, gsl, ⟨m_x, e_x⟩, ⟨m_t, e_t⟩, ⟨m_tb, e_tb⟩, ⟨m_im, e_im⟩, ⟨m_la, e_la⟩, ⟨m_sl, e_sl⟩, ⟨m_np, e_np⟩, ⟨m_ns, e_ns⟩, ⟨m_nw, e_nw⟩, ⟨m_nwa, e_nwa⟩, ⟨m_nwc, e_nwc⟩, ⟨m_nl, e_nl⟩, ⟨m_nlk, e_nlk⟩, ⟨m_nlf, e_nlf⟩, ⟨m_nls, e_nls⟩, hB, psl0⟩ := hFX
  obtain ⟨pa, pas, paf, sh, wy, wt, wtc, lo, lok, lof, los, cl, gwy, gcl, ⟨m_now, e_now⟩, ⟨m_pa, e_pa⟩, ⟨m_pas, e_pas⟩, ⟨m_paf, e_paf⟩, ⟨m_sh, e_sh⟩, ⟨m_wy, e_wy⟩, ⟨m_wt, e_wt⟩, ⟨m_wtc, e_wtc⟩, ⟨m_lo, e_lo⟩, ⟨m_lok, e_lok⟩, ⟨m_lof, e_lof⟩, ⟨m_los, e_los⟩, ⟨m_cl, e_cl⟩, pwy0, pcl0⟩ := id hB
  obtain ⟨wo, img, hi, tp, fv, fr, cl0, pl, wd, rd, tr0, co, bi, wl, mn, wi, nu, mv, gmn, ⟨m_m, e_m⟩, ⟨m_wo, e_wo⟩, ⟨m_img, e_img⟩, ⟨m_hi, e_hi⟩, ⟨m_tp, e_tp⟩, ⟨m_fv, e_fv⟩, ⟨m_fr, e_fr⟩, ⟨m_mn, e_mn⟩, ⟨m_wi, e_wi⟩, ⟨m_nu, e_nu⟩, pmn⟩ := hFM
  have pcl : ∀ i : Nat, i < 4 → ∃ q s : Nat, gcl i = some q ∧ q ∈ Lx ∧ f q = ob 1 [.ref s, .int 0] := fun i hi => by
    obtain ⟨q, s, h1, ⟨h2, h3⟩, -⟩ := pcl0 i hi
    exact ⟨q, s, h1, h2, h3⟩
  have pwy : ∀ i : Nat, i < 6 → ∃ q : Nat, gwy i = some q ∧ q ∈ Lx ∧ f q = ob 10 [.int 0, .int 0, .int 1, .int 1, .int 1, .int 0, .int 0] := fun i hi => by
    obtain ⟨q, h1, h2, h3⟩ := pwy0 i hi
    exact ⟨q, h1, h2, h3⟩
  have psl : ∀ i : Nat, i < 4 → ∃ q s : Nat, gsl i = some q ∧ q ∈ Lx ∧ f q = ob 5 [.ref s, .int (-1), .int 0] ∧ s ∈ Lx ∧ f s = aJ E 60 (fun _ => 0) := fun i hi => by
    obtain ⟨q, s, h1, ⟨h2, h3⟩, h4, h5⟩ := psl0 i hi
    exact ⟨q, s, h1, h2, h3, h4, h5⟩
  refine v_aload_n hC dL_law_1435 rfl ?_
  refine v_aload_n hC dL_law_1436 rfl ?_
  refine v_iload_n hC dL_law_1437 rfl ?_
  refine v_iconst hC dL_law_1438 (v := 1) (by decide) ?_
  refine v_iadd hC dL_law_1439 (v := 1) (by decide) ?_
  refine v_sld hC hX hbl hbA (by unfold vp_in; decide) (v := xs 1) rfl dL_law_1440 ?_
  refine v_aload_n hC dL_law_1441 rfl ?_
  refine v_iload_n hC dL_law_1442 rfl ?_
  refine v_iconst hC dL_law_1443 (v := 2) (by decide) ?_
  refine v_iadd hC dL_law_1444 (v := 2) (by decide) ?_
  refine v_sld hC hX hbl hbA (by unfold vp_in; decide) (v := xs 2) rfl dL_law_1445 ?_
  refine v_viD hC (rest := []) m_x e_x rfl mi_X11_lay ms_X11_lay (x_lay m_x e_x m_sl e_sl psl) mx_X11_lay ml_L_177 (by decide) rfl (cells1 := 85) (slots1 := 18286) (by decide) (by decide) (Nat.le_of_ble_eq_true rfl) (Nat.le_of_ble_eq_true rfl) rfl (Nat.le_of_ble_eq_true rfl) dL_law_1446 (fun r_1 L_2 f_3 h_4 => ?_)
  obtain rfl : sp_slots (xs 1) (xs 2) = r_1 := h_4
  refine v_aload_n hC dL_law_1449 rfl ?_
  refine v_aload_n hC dL_law_1450 rfl ?_
  refine v_iload_n hC dL_law_1451 rfl ?_
  refine v_iconst hC dL_law_1452 (v := 1) (by decide) ?_
  refine v_iadd hC dL_law_1453 (v := 1) (by decide) ?_
  refine v_sld hC hX hbl hbA (by unfold vp_in; decide) (v := xs 1) rfl dL_law_1454 ?_
  refine v_aload_n hC dL_law_1455 rfl ?_
  refine v_iload_n hC dL_law_1456 rfl ?_
  refine v_iconst hC dL_law_1457 (v := 2) (by decide) ?_
  refine v_iadd hC dL_law_1458 (v := 2) (by decide) ?_
  refine v_sld hC hX hbl hbA (by unfold vp_in; decide) (v := xs 2) rfl dL_law_1459 ?_
  refine v_vi hC (rest := [.int (sp_slots (xs 1) (xs 2))]) m_m e_m rfl mi_X12_lay ms_X12_lay (y_lay m_m e_m m_mn e_mn pmn) mx_X12_lay ml_L_180 (by decide) rfl (cells1 := 85) (slots1 := 18286) (by decide) (by decide) (Nat.le_of_ble_eq_true rfl) (Nat.le_of_ble_eq_true rfl) rfl (Nat.le_of_ble_eq_true rfl) dL_law_1460 (fun r_5 L_6 f_7 h_8 => ?_)
  obtain rfl : sp_slots (xs 1) (xs 2) = r_5 := h_8
  refine v_icmp_eq_t hC dL_law_1463 (tgt := 1468) (by decide) rfl ?_
  exact hT _ _ _ _ (Nat.le_of_ble_eq_true rfl) (Nat.le_of_ble_eq_true rfl)
