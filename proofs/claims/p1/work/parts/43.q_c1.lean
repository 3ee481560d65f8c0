set_option maxRecDepth 100000 in
set_option maxHeartbeats 4000000 in
theorem lc_14 {z : Cz} {E : Ez} {b x m : Nat} {xs : Nat → Int32} (hC : Cx z E cL_law RL 4 14 600000 7302250) (hX : va_X b 6 xs (zs z) (zs z).heap) (hbl : b < (zs z).heap.size) (hbA : ¬ zA z b) (hT : ∀ (L : List Nat) (f : Nat → va_E) (c s : Nat), c ≤ 600000 → s ≤ 7302250 → V z E 4 c s L f 1468 [(3, .int 0), (2, .ref m), (1, .ref x), (0, .ref b)] []) {Lx Lm : List Nat} {f : Nat → va_E} (hFX : FX E x Lx f) (hFM : FM E m Lm f) : V z E 4 85 18286 (Lx ++ Lm) f 590 [(3, .int 0), (2, .ref m), (1, .ref x), (0, .ref b)] [] := by
  obtain ⟨t, now, im, la, sl, np, ns, nw, nwa, nl, he, wa, tr, ta, tb, lax, nps, npf, nwc, nlk, nlf, nls, gsl, ⟨m_x, e_x⟩, ⟨m_t, e_t⟩, ⟨m_tb, e_tb⟩, ⟨m_im, e_im⟩, ⟨m_la, e_la⟩, ⟨m_sl, e_sl⟩, ⟨m_np, e_np⟩, ⟨m_ns, e_ns⟩, ⟨m_nw, e_nw⟩, ⟨m_nwa, e_nwa⟩, ⟨m_nwc, e_nwc⟩, ⟨m_nl, e_nl⟩, ⟨m_nlk, e_nlk⟩, ⟨m_nlf, e_nlf⟩, ⟨m_nls, e_nls⟩, hB, psl0⟩ := hFX
  obtain ⟨pa, pas, paf, sh, wy, wt, wtc, lo, lok, lof, los, cl, gwy, gcl, ⟨m_now, e_now⟩, ⟨m_pa, e_pa⟩, ⟨m_pas, e_pas⟩, ⟨m_paf, e_paf⟩, ⟨m_sh, e_sh⟩, ⟨m_wy, e_wy⟩, ⟨m_wt, e_wt⟩, ⟨m_wtc, e_wtc⟩, ⟨m_lo, e_lo⟩, ⟨m_lok, e_lok⟩, ⟨m_lof, e_lof⟩, ⟨m_los, e_los⟩, ⟨m_cl, e_cl⟩, pwy0, pcl0⟩ := id hB
  obtain ⟨wo, img, hi, tp, fv, fr, cl0, pl, wd, rd, tr0, co, bi, wl, mn, wi, nu, mv, gmn, ⟨m_m, e_m⟩, ⟨m_wo, e_wo⟩, ⟨m_img, e_img⟩, ⟨m_hi, e_hi⟩, ⟨m_tp, e_tp⟩, ⟨m_fv, e_fv⟩, ⟨m_fr, e_fr⟩, ⟨m_mn, e_mn⟩, ⟨m_wi, e_wi⟩, ⟨m_nu, e_nu⟩, pmn⟩ := hFM
  have pcl : ∀ i : Nat, i < 4 → ∃ q s : Nat, gcl i = some q ∧ q ∈ Lx ∧ f q = ob 1 [.ref s, .int 0] := fun i hi => by
    obtain ⟨q, s, h1, ⟨h2, h3⟩, -⟩ := pcl0 i hi
    exact ⟨q, s, h1, h2, h3⟩
  have pwy : ∀ i : Nat, i < 6 → ∃ q : Nat, gwy i = some q ∧ q ∈ Lx ∧ f q = ob 10 [.int 0, .int 0, .int 1, .int 1, .int 1, .int 0, .int 0] := fun i hi => by
    obtain ⟨q, h1, h2, h3⟩ := pwy0 i hi
    exact ⟨q, h1, h2, h3⟩
  have psl : ∀ i : Nat, i < 4 → ∃ q s : Nat, gsl i = some q ∧ q ∈ Lx ∧ f q = ob 5 [.ref s, .int (-1), .int 0] ∧ s ∈ Lx ∧ f s = aJ E 60 (fun _ => 0) := fun i hi => by
    obtain ⟨q, s, h1, ⟨h2, h3⟩, h4, h5⟩ := psl0 i hi
    exact ⟨q, s, h1, h2, h3, h4, h5⟩
  refine v_aload_n hC dL_law_590 rfl ?_
  refine v_aload_n hC dL_law_591 rfl ?_
  refine v_iload_n hC dL_law_592 rfl ?_
  refine v_iconst hC dL_law_593 (v := 1) (by decide) ?_
  refine v_iadd hC dL_law_594 (v := 1) (by decide) ?_
  refine v_sld hC hX hbl hbA (by unfold vp_in; decide) (v := xs 1) rfl dL_law_595 ?_
  refine v_viD hC (rest := []) m_x e_x rfl mi_X11_says ms_X11_says (x_says m_x e_x m_now e_now m_cl e_cl pcl) mx_X11_says ml_L_74 (by decide) rfl (cells1 := 85) (slots1 := 18286) (by decide) (by decide) (Nat.le_of_ble_eq_true rfl) (Nat.le_of_ble_eq_true rfl) rfl (Nat.le_of_ble_eq_true rfl) dL_law_596 (fun r_1 L_2 f_3 h_4 => ?_)
  obtain rfl : sp_c (xs 1) = r_1 := h_4
  refine v_aload_n hC dL_law_599 rfl ?_
  refine v_aload_n hC dL_law_600 rfl ?_
  refine v_iload_n hC dL_law_601 rfl ?_
  refine v_iconst hC dL_law_602 (v := 1) (by decide) ?_
  refine v_iadd hC dL_law_603 (v := 1) (by decide) ?_
  refine v_sld hC hX hbl hbA (by unfold vp_in; decide) (v := xs 1) rfl dL_law_604 ?_
  refine v_vi hC (rest := [.int (sp_c (xs 1))]) m_m e_m rfl mi_X12_says ms_X12_says (y_says m_m e_m m_wo e_wo) mx_X12_says ml_L_77 (by decide) rfl (cells1 := 85) (slots1 := 18286) (by decide) (by decide) (Nat.le_of_ble_eq_true rfl) (Nat.le_of_ble_eq_true rfl) rfl (Nat.le_of_ble_eq_true rfl) dL_law_605 (fun r_5 L_6 f_7 h_8 => ?_)
  obtain rfl : sp_c (xs 1) = r_5 := h_8
  refine v_icmp_eq_t hC dL_law_608 (tgt := 1468) (by decide) rfl ?_
  exact hT _ _ _ _ (Nat.le_of_ble_eq_true rfl) (Nat.le_of_ble_eq_true rfl)
set_option maxRecDepth 100000 in
set_option maxHeartbeats 4000000 in
theorem lc_15 {z : Cz} {E : Ez} {b x m : Nat} {xs : Nat → Int32} (hC : Cx z E cL_law RL 4 14 600000 7302250) (hX : va_X b 6 xs (zs z) (zs z).heap) (hbl : b < (zs z).heap.size) (hbA : ¬ zA z b) (hT : ∀ (L : List Nat) (f : Nat → va_E) (c s : Nat), c ≤ 600000 → s ≤ 7302250 → V z E 4 c s L f 1468 [(3, .int 0), (2, .ref m), (1, .ref x), (0, .ref b)] []) {Lx Lm : List Nat} {f : Nat → va_E} (hFX : FX E x Lx f) (hFM : FM E m Lm f) : V z E 4 85 18286 (Lx ++ Lm) f 613 [(3, .int 0), (2, .ref m), (1, .ref x), (0, .ref b)] [] := by
  obtain ⟨t, now, im, la, sl, np, ns, nw, nwa, nl, he, wa, tr, ta, tb, lax, nps, npf, nwc, nlk, nlf, nls, gsl, ⟨m_x, e_x⟩, ⟨m_t, e_t⟩, ⟨m_tb, e_tb⟩, ⟨m_im, e_im⟩, ⟨m_la, e_la⟩, ⟨m_sl, e_sl⟩, ⟨m_np, e_np⟩, ⟨m_ns, e_ns⟩, ⟨m_nw, e_nw⟩, ⟨m_nwa, e_nwa⟩, ⟨m_nwc, e_nwc⟩, ⟨m_nl, e_nl⟩, ⟨m_nlk, e_nlk⟩, ⟨m_nlf, e_nlf⟩, ⟨m_nls, e_nls⟩, hB, psl0⟩ := hFX
  obtain ⟨pa, pas, paf, sh, wy, wt, wtc, lo, lok, lof, los, cl, gwy, gcl, ⟨m_now, e_now⟩, ⟨m_pa, e_pa⟩, ⟨m_pas, e_pas⟩, ⟨m_paf, e_paf⟩, ⟨m_sh, e_sh⟩, ⟨m_wy, e_wy⟩, ⟨m_wt, e_wt⟩, ⟨m_wtc, e_wtc⟩, ⟨m_lo, e_lo⟩, ⟨m_lok, e_lok⟩, ⟨m_lof, e_lof⟩, ⟨m_los, e_los⟩, ⟨m_cl, e_cl⟩, pwy0, pcl0⟩ := id hB
  obtain ⟨wo, img, hi, tp, fv, fr, cl0, pl, wd, rd, tr0, co, bi, wl, mn, wi, nu, mv, gmn, ⟨m_m, e_m⟩, ⟨m_wo, e_wo⟩, ⟨m_img, e_img⟩, ⟨m_hi, e_hi⟩, ⟨m_tp, e_tp⟩, ⟨m_fv, e_fv⟩, ⟨m_fr, e_fr⟩, ⟨m_mn, e_mn⟩, ⟨m_wi, e_wi⟩, ⟨m_nu, e_nu⟩, pmn⟩ := hFM
  have pcl : ∀ i : Nat, i < 4 → ∃ q s : Nat, gcl i = some q ∧ q ∈ Lx ∧ f q = ob 1 [.ref s, .int 0] := fun i hi => by
    obtain ⟨q, s, h1, ⟨h2, h3⟩, -⟩ := pcl0 i hi
    exact ⟨q, s, h1, h2, h3⟩
  have pwy : ∀ i : Nat, i < 6 → ∃ q : Nat, gwy i = some q ∧ q ∈ Lx ∧ f q = ob 10 [.int 0, .int 0, .int 1, .int 1, .int 1, .int 0, .int 0] := fun i hi => by
    obtain ⟨q, h1, h2, h3⟩ := pwy0 i hi
    exact ⟨q, h1, h2, h3⟩
  have psl : ∀ i : Nat, i < 4 → ∃ q s : Nat, gsl i = some q ∧ q ∈ Lx ∧ f q = ob 5 [.ref s, .int (-1), .int 0] ∧ s ∈ Lx ∧ f s = aJ E 60 (fun _ => 0) := fun i hi => by
    obtain ⟨q, s, h1, ⟨h2, h3⟩, h4, h5⟩ := psl0 i hi
    exact ⟨q, s, h1, h2, h3, h4, h5⟩
  refine v_aload_n hC dL_law_613 rfl ?_
  refine v_aload_n hC dL_law_614 rfl ?_
  refine v_iload_n hC dL_law_615 rfl ?_
  refine v_iconst hC dL_law_616 (v := 1) (by decide) ?_
  refine v_iadd hC dL_law_617 (v := 1) (by decide) ?_
  refine v_sld hC hX hbl hbA (by unfold vp_in; decide) (v := xs 1) rfl dL_law_618 ?_
  refine v_aload_n hC dL_law_619 rfl ?_
  refine v_iload_n hC dL_law_620 rfl ?_
  refine v_iconst hC dL_law_621 (v := 2) (by decide) ?_
  refine v_iadd hC dL_law_622 (v := 2) (by decide) ?_
  refine v_sld hC hX hbl hbA (by unfold vp_in; decide) (v := xs 2) rfl dL_law_623 ?_
  refine v_aload_n hC dL_law_624 rfl ?_
  refine v_iload_n hC dL_law_625 rfl ?_
  refine v_iconst hC dL_law_626 (v := 3) (by decide) ?_
  refine v_iadd hC dL_law_627 (v := 3) (by decide) ?_
  refine v_sld hC hX hbl hbA (by unfold vp_in; decide) (v := xs 3) rfl dL_law_628 ?_
  refine v_viD hC (rest := []) m_x e_x rfl mi_X11_at ms_X11_at (x_at m_x e_x m_now e_now m_pa e_pa m_cl e_cl pcl) mx_X11_at ml_L_78 (by decide) rfl (cells1 := 85) (slots1 := 18286) (by decide) (by decide) (Nat.le_of_ble_eq_true rfl) (Nat.le_of_ble_eq_true rfl) rfl (Nat.le_of_ble_eq_true rfl) dL_law_629 (fun r_1 L_2 f_3 h_4 => ?_)
  obtain rfl : (-1 : Int32) = r_1 := h_4
  refine v_aload_n hC dL_law_632 rfl ?_
  refine v_aload_n hC dL_law_633 rfl ?_
  refine v_iload_n hC dL_law_634 rfl ?_
  refine v_iconst hC dL_law_635 (v := 1) (by decide) ?_
  refine v_iadd hC dL_law_636 (v := 1) (by decide) ?_
  refine v_sld hC hX hbl hbA (by unfold vp_in; decide) (v := xs 1) rfl dL_law_637 ?_
  refine v_aload_n hC dL_law_638 rfl ?_
  refine v_iload_n hC dL_law_639 rfl ?_
  refine v_iconst hC dL_law_640 (v := 2) (by decide) ?_
  refine v_iadd hC dL_law_641 (v := 2) (by decide) ?_
  refine v_sld hC hX hbl hbA (by unfold vp_in; decide) (v := xs 2) rfl dL_law_642 ?_
  refine v_aload_n hC dL_law_643 rfl ?_
  refine v_iload_n hC dL_law_644 rfl ?_
  refine v_iconst hC dL_law_645 (v := 3) (by decide) ?_
  refine v_iadd hC dL_law_646 (v := 3) (by decide) ?_
  refine v_sld hC hX hbl hbA (by unfold vp_in; decide) (v := xs 3) rfl dL_law_647 ?_
  refine v_vi hC (rest := [.int ((-1 : Int32))]) m_m e_m rfl mi_X12_at ms_X12_at (y_at m_m e_m m_wo e_wo) mx_X12_at ml_L_81 (by decide) rfl (cells1 := 85) (slots1 := 18286) (by decide) (by decide) (Nat.le_of_ble_eq_true rfl) (Nat.le_of_ble_eq_true rfl) rfl (Nat.le_of_ble_eq_true rfl) dL_law_648 (fun r_5 L_6 f_7 h_8 => ?_)
  obtain rfl : (-1 : Int32) = r_5 := h_8
  refine v_icmp_eq_t hC dL_law_651 (tgt := 1468) (by decide) rfl ?_
  exact hT _ _ _ _ (Nat.le_of_ble_eq_true rfl) (Nat.le_of_ble_eq_true rfl)
set_option maxRecDepth 100000 in
set_option maxHeartbeats 4000000 in
theorem lc_16 {z : Cz} {E : Ez} {b x m : Nat} {xs : Nat → Int32} (hC : Cx z E cL_law RL 4 14 600000 7302250) (hX : va_X b 6 xs (zs z) (zs z).heap) (hbl : b < (zs z).heap.size) (hbA : ¬ zA z b) (hT : ∀ (L : List Nat) (f : Nat → va_E) (c s : Nat), c ≤ 600000 → s ≤ 7302250 → V z E 4 c s L f 1468 [(3, .int 0), (2, .ref m), (1, .ref x), (0, .ref b)] []) {Lx Lm : List Nat} {f : Nat → va_E} (hFX : FX E x Lx f) (hFM : FM E m Lm f) : V z E 4 85 18286 (Lx ++ Lm) f 656 [(3, .int 0), (2, .ref m), (1, .ref x), (0, .ref b)] [] := by
  obtain ⟨t, now, im, la, sl, np, ns, nw, nwa, nl, he, wa, tr, ta, tb, lax, nps, npf, nwc, nlk, nlf, nls, gsl, ⟨m_x, e_x⟩, ⟨m_t, e_t⟩, ⟨m_tb, e_tb⟩, ⟨m_im, e_im⟩, ⟨m_la, e_la⟩, ⟨m_sl, e_sl⟩, ⟨m_np, e_np⟩, ⟨m_ns, e_ns⟩, ⟨m_nw, e_nw⟩, ⟨m_nwa, e_nwa⟩, ⟨m_nwc, e_nwc⟩, ⟨m_nl, e_nl⟩, ⟨m_nlk, e_nlk⟩, ⟨m_nlf, e_nlf⟩, ⟨m_nls, e_nls⟩, hB, psl0⟩ := hFX
  obtain ⟨pa, pas, paf, sh, wy, wt, wtc, lo, lok, lof, los, cl, gwy, gcl, ⟨m_now, e_now⟩, ⟨m_pa, e_pa⟩, ⟨m_pas, e_pas⟩, ⟨m_paf, e_paf⟩, ⟨m_sh, e_sh⟩, ⟨m_wy, e_wy⟩, ⟨m_wt, e_wt⟩, ⟨m_wtc, e_wtc⟩, ⟨m_lo, e_lo⟩, ⟨m_lok, e_lok⟩, ⟨m_lof, e_lof⟩, ⟨m_los, e_los⟩, ⟨m_cl, e_cl⟩, pwy0, pcl0⟩ := id hB
  obtain ⟨wo, img, hi, tp, fv, fr, cl0, pl, wd, rd, tr0, co, bi, wl, mn, wi, nu, mv, gmn, ⟨m_m, e_m⟩, ⟨m_wo, e_wo⟩, ⟨m_img, e_img⟩, ⟨m_hi, e_hi⟩, ⟨m_tp, e_tp⟩, ⟨m_fv, e_fv⟩, ⟨m_fr, e_fr⟩, ⟨m_mn, e_mn⟩, ⟨m_wi, e_wi⟩, ⟨m_nu, e_nu⟩, pmn⟩ := hFM
  have pcl : ∀ i : Nat, i < 4 → ∃ q s : Nat, gcl i = some q ∧ q ∈ Lx ∧ f q = ob 1 [.ref s, .int 0] := fun i hi => by
    obtain ⟨q, s, h1, ⟨h2, h3⟩, -⟩ := pcl0 i hi
    exact ⟨q, s, h1, h2, h3⟩
  have pwy : ∀ i : Nat, i < 6 → ∃ q : Nat, gwy i = some q ∧ q ∈ Lx ∧ f q = ob 10 [.int 0, .int 0, .int 1, .int 1, .int 1, .int 0, .int 0] := fun i hi => by
    obtain ⟨q, h1, h2, h3⟩ := pwy0 i hi
    exact ⟨q, h1, h2, h3⟩
  have psl : ∀ i : Nat, i < 4 → ∃ q s : Nat, gsl i = some q ∧ q ∈ Lx ∧ f q = ob 5 [.ref s, .int (-1), .int 0] ∧ s ∈ Lx ∧ f s = aJ E 60 (fun _ => 0) := fun i hi => by
    obtain ⟨q, s, h1, ⟨h2, h3⟩, h4, h5⟩ := psl0 i hi
    exact ⟨q, s, h1, h2, h3, h4, h5⟩
  refine v_aload_n hC dL_law_656 rfl ?_
  refine v_aload_n hC dL_law_657 rfl ?_
  refine v_iload_n hC dL_law_658 rfl ?_
  refine v_iconst hC dL_law_659 (v := 1) (by decide) ?_
  refine v_iadd hC dL_law_660 (v := 1) (by decide) ?_
  refine v_sld hC hX hbl hbA (by unfold vp_in; decide) (v := xs 1) rfl dL_law_661 ?_
  refine v_aload_n hC dL_law_662 rfl ?_
  refine v_iload_n hC dL_law_663 rfl ?_
  refine v_iconst hC dL_law_664 (v := 2) (by decide) ?_
  refine v_iadd hC dL_law_665 (v := 2) (by decide) ?_
  refine v_sld hC hX hbl hbA (by unfold vp_in; decide) (v := xs 2) rfl dL_law_666 ?_
  refine v_viD hC (rest := []) m_x e_x rfl mi_X11_sort ms_X11_sort (x_sort m_x e_x m_now e_now m_pa e_pa) mx_X11_sort ml_L_82 (by decide) rfl (cells1 := 85) (slots1 := 18286) (by decide) (by decide) (Nat.le_of_ble_eq_true rfl) (Nat.le_of_ble_eq_true rfl) rfl (Nat.le_of_ble_eq_true rfl) dL_law_667 (fun r_1 L_2 f_3 h_4 => ?_)
  obtain rfl : (-1 : Int32) = r_1 := h_4
  refine v_aload_n hC dL_law_670 rfl ?_
  refine v_aload_n hC dL_law_671 rfl ?_
  refine v_iload_n hC dL_law_672 rfl ?_
  refine v_iconst hC dL_law_673 (v := 1) (by decide) ?_
  refine v_iadd hC dL_law_674 (v := 1) (by decide) ?_
  refine v_sld hC hX hbl hbA (by unfold vp_in; decide) (v := xs 1) rfl dL_law_675 ?_
  refine v_aload_n hC dL_law_676 rfl ?_
  refine v_iload_n hC dL_law_677 rfl ?_
  refine v_iconst hC dL_law_678 (v := 2) (by decide) ?_
  refine v_iadd hC dL_law_679 (v := 2) (by decide) ?_
  refine v_sld hC hX hbl hbA (by unfold vp_in; decide) (v := xs 2) rfl dL_law_680 ?_
  refine v_vi hC (rest := [.int ((-1 : Int32))]) m_m e_m rfl mi_X12_sort ms_X12_sort (y_sort m_m e_m m_wo e_wo) mx_X12_sort ml_L_85 (by decide) rfl (cells1 := 85) (slots1 := 18286) (by decide) (by decide) (Nat.le_of_ble_eq_true rfl) (Nat.le_of_ble_eq_true rfl) rfl (Nat.le_of_ble_eq_true rfl) dL_law_681 (fun r_5 L_6 f_7 h_8 => ?_)
  obtain rfl : (-1 : Int32) = r_5 := h_8
  refine v_icmp_eq_t hC dL_law_684 (tgt := 1468) (by decide) rfl ?_
  exact hT _ _ _ _ (Nat.le_of_ble_eq_true rfl) (Nat.le_of_ble_eq_true rfl)
set_option maxRecDepth 100000 in
set_option maxHeartbeats 4000000 in
theorem lc_17 {z : Cz} {E : Ez} {b x m : Nat} {xs : Nat → Int32} (hC : Cx z E cL_law RL 4 14 600000 7302250) (hX : va_X b 6 xs (zs z) (zs z).heap) (hbl : b < (zs z).heap.size) (hbA : ¬ zA z b) (hT : ∀ (L : List Nat) (f : Nat → va_E) (c s : Nat), c ≤ 600000 → s ≤ 7302250 → V z E 4 c s L f 1468 [(3, .int 0), (2, .ref m), (1, .ref x), (0, .ref b)] []) {Lx Lm : List Nat} {f : Nat → va_E} (hFX : FX E x Lx f) (hFM : FM E m Lm f) : V z E 4 85 18286 (Lx ++ Lm) f 689 [(3, .int 0), (2, .ref m), (1, .ref x), (0, .ref b)] [] := by
  obtain ⟨t, now, im, la, sl, np, ns, nw, nwa, nl, he, wa, tr, ta, tb, lax, nps, npf, nwc, nlk, nlf, nls, gsl, ⟨m_x, e_x⟩, ⟨m_t, e_t⟩, ⟨m_tb, e_tb⟩, ⟨m_im, e_im⟩, ⟨m_la, e_la⟩, ⟨m_sl, e_sl⟩, ⟨m_np, e_np⟩, ⟨m_ns, e_ns⟩, ⟨m_nw, e_nw⟩, ⟨m_nwa, e_nwa⟩, ⟨m_nwc, e_nwc⟩, ⟨m_nl, e_nl⟩, ⟨m_nlk, e_nlk⟩, ⟨m_nlf, e_nlf⟩, ⟨m_nls, e_nls⟩, hB, psl0⟩ := hFX
  obtain ⟨pa, pas, paf, sh, wy, wt, wtc, lo, lok, lof, los, cl, gwy, gcl, ⟨m_now, e_now⟩, ⟨m_pa, e_pa⟩, ⟨m_pas, e_pas⟩, ⟨m_paf, e_paf⟩, ⟨m_sh, e_sh⟩, ⟨m_wy, e_wy⟩, ⟨m_wt, e_wt⟩, ⟨m_wtc, e_wtc⟩, ⟨m_lo, e_lo⟩, ⟨m_lok, e_lok⟩, ⟨m_lof, e_lof⟩, ⟨m_los, e_los⟩, ⟨m_cl, e_cl⟩, pwy0, pcl0⟩ := id hB
  obtain ⟨wo, img, hi, tp, fv, fr, cl0, pl, wd, rd, tr0, co, bi, wl, mn, wi, nu, mv, gmn, ⟨m_m, e_m⟩, ⟨m_wo, e_wo⟩, ⟨m_img, e_img⟩, ⟨m_hi, e_hi⟩, ⟨m_tp, e_tp⟩, ⟨m_fv, e_fv⟩, ⟨m_fr, e_fr⟩, ⟨m_mn, e_mn⟩, ⟨m_wi, e_wi⟩, ⟨m_nu, e_nu⟩, pmn⟩ := hFM
  have pcl : ∀ i : Nat, i < 4 → ∃ q s : Nat, gcl i = some q ∧ q ∈ Lx ∧ f q = ob 1 [.ref s, .int 0] := fun i hi => by
    obtain ⟨q, s, h1, ⟨h2, h3⟩, -⟩ := pcl0 i hi
    exact ⟨q, s, h1, h2, h3⟩
  have pwy : ∀ i : Nat, i < 6 → ∃ q : Nat, gwy i = some q ∧ q ∈ Lx ∧ f q = ob 10 [.int 0, .int 0, .int 1, .int 1, .int 1, .int 0, .int 0] := fun i hi => by
    obtain ⟨q, h1, h2, h3⟩ := pwy0 i hi
    exact ⟨q, h1, h2, h3⟩
  have psl : ∀ i : Nat, i < 4 → ∃ q s : Nat, gsl i = some q ∧ q ∈ Lx ∧ f q = ob 5 [.ref s, .int (-1), .int 0] ∧ s ∈ Lx ∧ f s = aJ E 60 (fun _ => 0) := fun i hi => by
    obtain ⟨q, s, h1, ⟨h2, h3⟩, h4, h5⟩ := psl0 i hi
    exact ⟨q, s, h1, h2, h3, h4, h5⟩
  refine v_aload_n hC dL_law_689 rfl ?_
  refine v_aload_n hC dL_law_690 rfl ?_
  refine v_iload_n hC dL_law_691 rfl ?_
  refine v_iconst hC dL_law_692 (v := 1) (by decide) ?_
  refine v_iadd hC dL_law_693 (v := 1) (by decide) ?_
  refine v_sld hC hX hbl hbA (by unfold vp_in; decide) (v := xs 1) rfl dL_law_694 ?_
  refine v_aload_n hC dL_law_695 rfl ?_
  refine v_iload_n hC dL_law_696 rfl ?_
  refine v_iconst hC dL_law_697 (v := 2) (by decide) ?_
  refine v_iadd hC dL_law_698 (v := 2) (by decide) ?_
  refine v_sld hC hX hbl hbA (by unfold vp_in; decide) (v := xs 2) rfl dL_law_699 ?_
  refine v_viD hC (rest := []) m_x e_x rfl mi_X11_place ms_X11_place (x_place m_x e_x m_now e_now m_wy e_wy pwy) mx_X11_place ml_L_86 (by decide) rfl (cells1 := 85) (slots1 := 18286) (by decide) (by decide) (Nat.le_of_ble_eq_true rfl) (Nat.le_of_ble_eq_true rfl) rfl (Nat.le_of_ble_eq_true rfl) dL_law_700 (fun r_1 L_2 f_3 h_4 => ?_)
  obtain rfl : sp_k (xs 1) = r_1 := h_4
  refine v_aload_n hC dL_law_703 rfl ?_
  refine v_aload_n hC dL_law_704 rfl ?_
  refine v_iload_n hC dL_law_705 rfl ?_
  refine v_iconst hC dL_law_706 (v := 1) (by decide) ?_
  refine v_iadd hC dL_law_707 (v := 1) (by decide) ?_
  refine v_sld hC hX hbl hbA (by unfold vp_in; decide) (v := xs 1) rfl dL_law_708 ?_
  refine v_aload_n hC dL_law_709 rfl ?_
  refine v_iload_n hC dL_law_710 rfl ?_
  refine v_iconst hC dL_law_711 (v := 2) (by decide) ?_
  refine v_iadd hC dL_law_712 (v := 2) (by decide) ?_
  refine v_sld hC hX hbl hbA (by unfold vp_in; decide) (v := xs 2) rfl dL_law_713 ?_
  refine v_vi hC (rest := [.int (sp_k (xs 1))]) m_m e_m rfl mi_X12_place ms_X12_place (y_place m_m e_m m_wo e_wo) mx_X12_place ml_L_89 (by decide) rfl (cells1 := 85) (slots1 := 18286) (by decide) (by decide) (Nat.le_of_ble_eq_true rfl) (Nat.le_of_ble_eq_true rfl) rfl (Nat.le_of_ble_eq_true rfl) dL_law_714 (fun r_5 L_6 f_7 h_8 => ?_)
  obtain rfl : sp_k (xs 1) = r_5 := h_8
  refine v_icmp_eq_t hC dL_law_717 (tgt := 1468) (by decide) rfl ?_
  exact hT _ _ _ _ (Nat.le_of_ble_eq_true rfl) (Nat.le_of_ble_eq_true rfl)
set_option maxRecDepth 100000 in
set_option maxHeartbeats 4000000 in
theorem lc_18 {z : Cz} {E : Ez} {b x m : Nat} {xs : Nat → Int32} (hC : Cx z E cL_law RL 4 14 600000 7302250) (hX : va_X b 6 xs (zs z) (zs z).heap) (hbl : b < (zs z).heap.size) (hbA : ¬ zA z b) (hT : ∀ (L : List Nat) (f : Nat → va_E) (c s : Nat), c ≤ 600000 → s ≤ 7302250 → V z E 4 c s L f 1468 [(3, .int 0), (2, .ref m), (1, .ref x), (0, .ref b)] []) {Lx Lm : List Nat} {f : Nat → va_E} (hFX : FX E x Lx f) (hFM : FM E m Lm f) : V z E 4 85 18286 (Lx ++ Lm) f 722 [(3, .int 0), (2, .ref m), (1, .ref x), (0, .ref b)] [] := by
  obtain ⟨t, now, im, la, sl, np, ns, nw, nwa, nl, he, wa, tr, ta, tb, lax, nps, npf, nwc, nlk, nlf, nls, gsl, ⟨m_x, e_x⟩, ⟨m_t, e_t⟩, ⟨m_tb, e_tb⟩, ⟨m_im, e_im⟩, ⟨m_la, e_la⟩, ⟨m_sl, e_sl⟩, ⟨m_np, e_np⟩, ⟨m_ns, e_ns⟩, ⟨m_nw, e_nw⟩, ⟨m_nwa, e_nwa⟩, ⟨m_nwc, e_nwc⟩, ⟨m_nl, e_nl⟩, ⟨m_nlk, e_nlk⟩, ⟨m_nlf, e_nlf⟩, ⟨m_nls, e_nls⟩, hB, psl0⟩ := hFX
  obtain ⟨pa, pas, paf, sh, wy, wt, wtc, lo, lok, lof, los, cl, gwy, gcl, ⟨m_now, e_now⟩, ⟨m_pa, e_pa⟩, ⟨m_pas, e_pas⟩, ⟨m_paf, e_paf⟩, ⟨m_sh, e_sh⟩, ⟨m_wy, e_wy⟩, ⟨m_wt, e_wt⟩, ⟨m_wtc, e_wtc⟩, ⟨m_lo, e_lo⟩, ⟨m_lok, e_lok⟩, ⟨m_lof, e_lof⟩, ⟨m_los, e_los⟩, ⟨m_cl, e_cl⟩, pwy0, pcl0⟩ := id hB
  obtain ⟨wo, img, hi, tp, fv, fr, cl0, pl, wd, rd, tr0, co, bi, wl, mn, wi, nu, mv, gmn, ⟨m_m, e_m⟩, ⟨m_wo, e_wo⟩, ⟨m_img, e_img⟩, ⟨m_hi, e_hi⟩, ⟨m_tp, e_tp⟩, ⟨m_fv, e_fv⟩, ⟨m_fr, e_fr⟩, ⟨m_mn, e_mn⟩, ⟨m_wi, e_wi⟩, ⟨m_nu, e_nu⟩, pmn⟩ := hFM
  have pcl : ∀ i : Nat, i < 4 → ∃ q s : Nat, gcl i = some q ∧ q ∈ Lx ∧ f q = ob 1 [.ref s, .int 0] := fun i hi => by
    obtain ⟨q, s, h1, ⟨h2, h3⟩, -⟩ := pcl0 i hi
    exact ⟨q, s, h1, h2, h3⟩
  have pwy : ∀ i : Nat, i < 6 → ∃ q : Nat, gwy i = some q ∧ q ∈ Lx ∧ f q = ob 10 [.int 0, .int 0, .int 1, .int 1, .int 1, .int 0, .int 0] := fun i hi => by
    obtain ⟨q, h1, h2, h3⟩ := pwy0 i hi
    exact ⟨q, h1, h2, h3⟩
  have psl : ∀ i : Nat, i < 4 → ∃ q s : Nat, gsl i = some q ∧ q ∈ Lx ∧ f q = ob 5 [.ref s, .int (-1), .int 0] ∧ s ∈ Lx ∧ f s = aJ E 60 (fun _ => 0) := fun i hi => by
    obtain ⟨q, s, h1, ⟨h2, h3⟩, h4, h5⟩ := psl0 i hi
    exact ⟨q, s, h1, h2, h3, h4, h5⟩
  refine v_aload_n hC dL_law_722 rfl ?_
  refine v_aload_n hC dL_law_723 rfl ?_
  refine v_iload_n hC dL_law_724 rfl ?_
  refine v_iconst hC dL_law_725 (v := 1) (by decide) ?_
  refine v_iadd hC dL_law_726 (v := 1) (by decide) ?_
  refine v_sld hC hX hbl hbA (by unfold vp_in; decide) (v := xs 1) rfl dL_law_727 ?_
  refine v_viD hC (rest := []) m_x e_x rfl mi_X11_room ms_X11_room (x_room m_x e_x m_now e_now m_wy e_wy pwy) mx_X11_room ml_L_90 (by decide) rfl (cells1 := 85) (slots1 := 18286) (by decide) (by decide) (Nat.le_of_ble_eq_true rfl) (Nat.le_of_ble_eq_true rfl) rfl (Nat.le_of_ble_eq_true rfl) dL_law_728 (fun r_1 L_2 f_3 h_4 => ?_)
  obtain rfl : sp_k (xs 1) = r_1 := h_4
  refine v_aload_n hC dL_law_731 rfl ?_
  refine v_aload_n hC dL_law_732 rfl ?_
  refine v_iload_n hC dL_law_733 rfl ?_
  refine v_iconst hC dL_law_734 (v := 1) (by decide) ?_
  refine v_iadd hC dL_law_735 (v := 1) (by decide) ?_
  refine v_sld hC hX hbl hbA (by unfold vp_in; decide) (v := xs 1) rfl dL_law_736 ?_
  refine v_vi hC (rest := [.int (sp_k (xs 1))]) m_m e_m rfl mi_X12_room ms_X12_room (y_room m_m e_m m_wo e_wo) mx_X12_room ml_L_93 (by decide) rfl (cells1 := 85) (slots1 := 18286) (by decide) (by decide) (Nat.le_of_ble_eq_true rfl) (Nat.le_of_ble_eq_true rfl) rfl (Nat.le_of_ble_eq_true rfl) dL_law_737 (fun r_5 L_6 f_7 h_8 => ?_)
  obtain rfl : sp_k (xs 1) = r_5 := h_8
  refine v_icmp_eq_t hC dL_law_740 (tgt := 1468) (by decide) rfl ?_
  exact hT _ _ _ _ (Nat.le_of_ble_eq_true rfl) (Nat.le_of_ble_eq_true rfl)
set_option maxRecDepth 100000 in
set_option maxHeartbeats 4000000 in
theorem lc_19 {z : Cz} {E : Ez} {b x m : Nat} {xs : Nat → Int32} (hC : Cx z E cL_law RL 4 14 600000 7302250) (hX : va_X b 6 xs (zs z) (zs z).heap) (hbl : b < (zs z).heap.size) (hbA : ¬ zA z b) (hT : ∀ (L : List Nat) (f : Nat → va_E) (c s : Nat), c ≤ 600000 → s ≤ 7302250 → V z E 4 c s L f 1468 [(3, .int 0), (2, .ref m), (1, .ref x), (0, .ref b)] []) {Lx Lm : List Nat} {f : Nat → va_E} (hFX : FX E x Lx f) (hFM : FM E m Lm f) : V z E 4 85 18286 (Lx ++ Lm) f 745 [(3, .int 0), (2, .ref m), (1, .ref x), (0, .ref b)] [] := by
  obtain ⟨t, now, im, la, sl, np, ns, nw, nwa, nl, he, wa, tr, ta, tb, lax, nps, npf, nwc, nlk, nlf, nls, gsl, ⟨m_x, e_x⟩, ⟨m_t, e_t⟩, ⟨m_tb, e_tb⟩, ⟨m_im, e_im⟩, ⟨m_la, e_la⟩, ⟨m_sl, e_sl⟩, ⟨m_np, e_np⟩, ⟨m_ns, e_ns⟩, ⟨m_nw, e_nw⟩, ⟨m_nwa, e_nwa⟩, ⟨m_nwc, e_nwc⟩, ⟨m_nl, e_nl⟩, ⟨m_nlk, e_nlk⟩, ⟨m_nlf, e_nlf⟩, ⟨m_nls, e_nls⟩, hB, psl0⟩ := hFX
  obtain ⟨pa, pas, paf, sh, wy, wt, wtc, lo, lok, lof, los, cl, gwy, gcl, ⟨m_now, e_now⟩, ⟨m_pa, e_pa⟩, ⟨m_pas, e_pas⟩, ⟨m_paf, e_paf⟩, ⟨m_sh, e_sh⟩, ⟨m_wy, e_wy⟩, ⟨m_wt, e_wt⟩, ⟨m_wtc, e_wtc⟩, ⟨m_lo, e_lo⟩, ⟨m_lok, e_lok⟩, ⟨m_lof, e_lof⟩, ⟨m_los, e_los⟩, ⟨m_cl, e_cl⟩, pwy0, pcl0⟩ := id hB
  obtain ⟨wo, img, hi, tp, fv, fr, cl0, pl, wd, rd, tr0, co, bi, wl, mn, wi, nu, mv, gmn, ⟨m_m, e_m⟩, ⟨m_wo, e_wo⟩, ⟨m_img, e_img⟩, ⟨m_hi, e_hi⟩, ⟨m_tp, e_tp⟩, ⟨m_fv, e_fv⟩, ⟨m_fr, e_fr⟩, ⟨m_mn, e_mn⟩, ⟨m_wi, e_wi⟩, ⟨m_nu, e_nu⟩, pmn⟩ := hFM
  have pcl : ∀ i : Nat, i < 4 → ∃ q s : Nat, gcl i = some q ∧ q ∈ Lx ∧ f q = ob 1 [.ref s, .int 0] := fun i hi => by
    obtain ⟨q, s, h1, ⟨h2, h3⟩, -⟩ := pcl0 i hi
    exact ⟨q, s, h1, h2, h3⟩
  have pwy : ∀ i : Nat, i < 6 → ∃ q : Nat, gwy i = some q ∧ q ∈ Lx ∧ f q = ob 10 [.int 0, .int 0, .int 1, .int 1, .int 1, .int 0, .int 0] := fun i hi => by
    obtain ⟨q, h1, h2, h3⟩ := pwy0 i hi
    exact ⟨q, h1, h2, h3⟩
  have psl : ∀ i : Nat, i < 4 → ∃ q s : Nat, gsl i = some q ∧ q ∈ Lx ∧ f q = ob 5 [.ref s, .int (-1), .int 0] ∧ s ∈ Lx ∧ f s = aJ E 60 (fun _ => 0) := fun i hi => by
    obtain ⟨q, s, h1, ⟨h2, h3⟩, h4, h5⟩ := psl0 i hi
    exact ⟨q, s, h1, h2, h3, h4, h5⟩
  refine v_aload_n hC dL_law_745 rfl ?_
  refine v_aload_n hC dL_law_746 rfl ?_
  refine v_iload_n hC dL_law_747 rfl ?_
  refine v_iconst hC dL_law_748 (v := 1) (by decide) ?_
  refine v_iadd hC dL_law_749 (v := 1) (by decide) ?_
  refine v_sld hC hX hbl hbA (by unfold vp_in; decide) (v := xs 1) rfl dL_law_750 ?_
  refine v_viD hC (rest := []) m_x e_x rfl mi_X11_most ms_X11_most (x_most m_x e_x m_now e_now m_wy e_wy pwy) mx_X11_most ml_L_94 (by decide) rfl (cells1 := 85) (slots1 := 18286) (by decide) (by decide) (Nat.le_of_ble_eq_true rfl) (Nat.le_of_ble_eq_true rfl) rfl (Nat.le_of_ble_eq_true rfl) dL_law_751 (fun r_1 L_2 f_3 h_4 => ?_)
  obtain rfl : sp_k (xs 1) = r_1 := h_4
  refine v_aload_n hC dL_law_754 rfl ?_
  refine v_aload_n hC dL_law_755 rfl ?_
  refine v_iload_n hC dL_law_756 rfl ?_
  refine v_iconst hC dL_law_757 (v := 1) (by decide) ?_
  refine v_iadd hC dL_law_758 (v := 1) (by decide) ?_
  refine v_sld hC hX hbl hbA (by unfold vp_in; decide) (v := xs 1) rfl dL_law_759 ?_
  refine v_vi hC (rest := [.int (sp_k (xs 1))]) m_m e_m rfl mi_X12_most ms_X12_most (y_most m_m e_m m_wo e_wo) mx_X12_most ml_L_97 (by decide) rfl (cells1 := 85) (slots1 := 18286) (by decide) (by decide) (Nat.le_of_ble_eq_true rfl) (Nat.le_of_ble_eq_true rfl) rfl (Nat.le_of_ble_eq_true rfl) dL_law_760 (fun r_5 L_6 f_7 h_8 => ?_)
  obtain rfl : sp_k (xs 1) = r_5 := h_8
  refine v_icmp_eq_t hC dL_law_763 (tgt := 1468) (by decide) rfl ?_
  exact hT _ _ _ _ (Nat.le_of_ble_eq_true rfl) (Nat.le_of_ble_eq_true rfl)
set_option maxRecDepth 100000 in
set_option maxHeartbeats 4000000 in
theorem lc_20 {z : Cz} {E : Ez} {b x m : Nat} {xs : Nat → Int32} (hC : Cx z E cL_law RL 4 14 600000 7302250) (hX : va_X b 6 xs (zs z) (zs z).heap) (hbl : b < (zs z).heap.size) (hbA : ¬ zA z b) (hT : ∀ (L : List Nat) (f : Nat → va_E) (c s : Nat), c ≤ 600000 → s ≤ 7302250 → V z E 4 c s L f 1468 [(3, .int 0), (2, .ref m), (1, .ref x), (0, .ref b)] []) {Lx Lm : List Nat} {f : Nat → va_E} (hFX : FX E x Lx f) (hFM : FM E m Lm f) : V z E 4 85 18286 (Lx ++ Lm) f 768 [(3, .int 0), (2, .ref m), (1, .ref x), (0, .ref b)] [] := by
  obtain ⟨t, now, im, la, sl, np, ns, nw, nwa, nl, he, wa, tr, ta, tb, lax, nps, npf, nwc, nlk, nlf, nls, gsl, ⟨m_x, e_x⟩, ⟨m_t, e_t⟩, ⟨m_tb, e_tb⟩, ⟨m_im, e_im⟩, ⟨m_la, e_la⟩, ⟨m_sl, e_sl⟩, ⟨m_np, e_np⟩, ⟨m_ns, e_ns⟩, ⟨m_nw, e_nw⟩, ⟨m_nwa, e_nwa⟩, ⟨m_nwc, e_nwc⟩, ⟨m_nl, e_nl⟩, ⟨m_nlk, e_nlk⟩, ⟨m_nlf, e_nlf⟩, ⟨m_nls, e_nls⟩, hB, psl0⟩ := hFX
  obtain ⟨pa, pas, paf, sh, wy, wt, wtc, lo, lok, lof, los, cl, gwy, gcl, ⟨m_now, e_now⟩, ⟨m_pa, e_pa⟩, ⟨m_pas, e_pas⟩, ⟨m_paf, e_paf⟩, ⟨m_sh, e_sh⟩, ⟨m_wy, e_wy⟩, ⟨m_wt, e_wt⟩, ⟨m_wtc, e_wtc⟩, ⟨m_lo, e_lo⟩, ⟨m_lok, e_lok⟩, ⟨m_lof, e_lof⟩, ⟨m_los, e_los⟩, ⟨m_cl, e_cl⟩, pwy0, pcl0⟩ := id hB
  obtain ⟨wo, img, hi, tp, fv, fr, cl0, pl, wd, rd, tr0, co, bi, wl, mn, wi, nu, mv, gmn, ⟨m_m, e_m⟩, ⟨m_wo, e_wo⟩, ⟨m_img, e_img⟩, ⟨m_hi, e_hi⟩, ⟨m_tp, e_tp⟩, ⟨m_fv, e_fv⟩, ⟨m_fr, e_fr⟩, ⟨m_mn, e_mn⟩, ⟨m_wi, e_wi⟩, ⟨m_nu, e_nu⟩, pmn⟩ := hFM
  have pcl : ∀ i : Nat, i < 4 → ∃ q s : Nat, gcl i = some q ∧ q ∈ Lx ∧ f q = ob 1 [.ref s, .int 0] := fun i hi => by
    obtain ⟨q, s, h1, ⟨h2, h3⟩, -⟩ := pcl0 i hi
    exact ⟨q, s, h1, h2, h3⟩
  have pwy : ∀ i : Nat, i < 6 → ∃ q : Nat, gwy i = some q ∧ q ∈ Lx ∧ f q = ob 10 [.int 0, .int 0, .int 1, .int 1, .int 1, .int 0, .int 0] := fun i hi => by
    obtain ⟨q, h1, h2, h3⟩ := pwy0 i hi
    exact ⟨q, h1, h2, h3⟩
  have psl : ∀ i : Nat, i < 4 → ∃ q s : Nat, gsl i = some q ∧ q ∈ Lx ∧ f q = ob 5 [.ref s, .int (-1), .int 0] ∧ s ∈ Lx ∧ f s = aJ E 60 (fun _ => 0) := fun i hi => by
    obtain ⟨q, s, h1, ⟨h2, h3⟩, h4, h5⟩ := psl0 i hi
    exact ⟨q, s, h1, h2, h3, h4, h5⟩
  refine v_aload_n hC dL_law_768 rfl ?_
  refine v_aload_n hC dL_law_769 rfl ?_
  refine v_iload_n hC dL_law_770 rfl ?_
  refine v_iconst hC dL_law_771 (v := 1) (by decide) ?_
  refine v_iadd hC dL_law_772 (v := 1) (by decide) ?_
  refine v_sld hC hX hbl hbA (by unfold vp_in; decide) (v := xs 1) rfl dL_law_773 ?_
  refine v_aload_n hC dL_law_774 rfl ?_
  refine v_iload_n hC dL_law_775 rfl ?_
  refine v_iconst hC dL_law_776 (v := 2) (by decide) ?_
  refine v_iadd hC dL_law_777 (v := 2) (by decide) ?_
  refine v_sld hC hX hbl hbA (by unfold vp_in; decide) (v := xs 2) rfl dL_law_778 ?_
  refine v_viD hC (rest := []) m_x e_x rfl mi_X11_counts ms_X11_counts (x_counts m_x e_x m_now e_now m_cl e_cl pcl) mx_X11_counts ml_L_98 (by decide) rfl (cells1 := 85) (slots1 := 18286) (by decide) (by decide) (Nat.le_of_ble_eq_true rfl) (Nat.le_of_ble_eq_true rfl) rfl (Nat.le_of_ble_eq_true rfl) dL_law_779 (fun r_1 L_2 f_3 h_4 => ?_)
  obtain rfl : sp_counts (xs 1) (xs 2) = r_1 := h_4
  refine v_aload_n hC dL_law_782 rfl ?_
  refine v_aload_n hC dL_law_783 rfl ?_
  refine v_iload_n hC dL_law_784 rfl ?_
  refine v_iconst hC dL_law_785 (v := 1) (by decide) ?_
  refine v_iadd hC dL_law_786 (v := 1) (by decide) ?_
  refine v_sld hC hX hbl hbA (by unfold vp_in; decide) (v := xs 1) rfl dL_law_787 ?_
  refine v_aload_n hC dL_law_788 rfl ?_
  refine v_iload_n hC dL_law_789 rfl ?_
  refine v_iconst hC dL_law_790 (v := 2) (by decide) ?_
  refine v_iadd hC dL_law_791 (v := 2) (by decide) ?_
  refine v_sld hC hX hbl hbA (by unfold vp_in; decide) (v := xs 2) rfl dL_law_792 ?_
  refine v_vi hC (rest := [.int (sp_counts (xs 1) (xs 2))]) m_m e_m rfl mi_X12_counts ms_X12_counts (y_counts m_m e_m m_wo e_wo) mx_X12_counts ml_L_101 (by decide) rfl (cells1 := 85) (slots1 := 18286) (by decide) (by decide) (Nat.le_of_ble_eq_true rfl) (Nat.le_of_ble_eq_true rfl) rfl (Nat.le_of_ble_eq_true rfl) dL_law_793 (fun r_5 L_6 f_7 h_8 => ?_)
  obtain rfl : sp_counts (xs 1) (xs 2) = r_5 := h_8
  refine v_icmp_eq_t hC dL_law_796 (tgt := 1468) (by decide) rfl ?_
  exact hT _ _ _ _ (Nat.le_of_ble_eq_true rfl) (Nat.le_of_ble_eq_true rfl)
set_option maxRecDepth 100000 in
set_option maxHeartbeats 4000000 in
theorem lc_21 {z : Cz} {E : Ez} {b x m : Nat} {xs : Nat → Int32} (hC : Cx z E cL_law RL 4 14 600000 7302250) (hX : va_X b 6 xs (zs z) (zs z).heap) (hbl : b < (zs z).heap.size) (hbA : ¬ zA z b) (hT : ∀ (L : List Nat) (f : Nat → va_E) (c s : Nat), c ≤ 600000 → s ≤ 7302250 → V z E 4 c s L f 1468 [(3, .int 0), (2, .ref m), (1, .ref x), (0, .ref b)] []) {Lx Lm : List Nat} {f : Nat → va_E} (hFX : FX E x Lx f) (hFM : FM E m Lm f) : V z E 4 85 18286 (Lx ++ Lm) f 801 [(3, .int 0), (2, .ref m), (1, .ref x), (0, .ref b)] [] := by
  obtain ⟨t, now, im, la, sl, np, ns, nw, nwa, nl, he, wa, tr, ta, tb, lax, nps, npf, nwc, nlk, nlf, nls, gsl, ⟨m_x, e_x⟩, ⟨m_t, e_t⟩, ⟨m_tb, e_tb⟩, ⟨m_im, e_im⟩, ⟨m_la, e_la⟩, ⟨m_sl, e_sl⟩, ⟨m_np, e_np⟩, ⟨m_ns, e_ns⟩, ⟨m_nw, e_nw⟩, ⟨m_nwa, e_nwa⟩, ⟨m_nwc, e_nwc⟩, ⟨m_nl, e_nl⟩, ⟨m_nlk, e_nlk⟩, ⟨m_nlf, e_nlf⟩, ⟨m_nls, e_nls⟩, hB, psl0⟩ := hFX
  obtain ⟨pa, pas, paf, sh, wy, wt, wtc, lo, lok, lof, los, cl, gwy, gcl, ⟨m_now, e_now⟩, ⟨m_pa, e_pa⟩, ⟨m_pas, e_pas⟩, ⟨m_paf, e_paf⟩, ⟨m_sh, e_sh⟩, ⟨m_wy, e_wy⟩, ⟨m_wt, e_wt⟩, ⟨m_wtc, e_wtc⟩, ⟨m_lo, e_lo⟩, ⟨m_lok, e_lok⟩, ⟨m_lof, e_lof⟩, ⟨m_los, e_los⟩, ⟨m_cl, e_cl⟩, pwy0, pcl0⟩ := id hB
  obtain ⟨wo, img, hi, tp, fv, fr, cl0, pl, wd, rd, tr0, co, bi, wl, mn, wi, nu, mv, gmn, ⟨m_m, e_m⟩, ⟨m_wo, e_wo⟩, ⟨m_img, e_img⟩, ⟨m_hi, e_hi⟩, ⟨m_tp, e_tp⟩, ⟨m_fv, e_fv⟩, ⟨m_fr, e_fr⟩, ⟨m_mn, e_mn⟩, ⟨m_wi, e_wi⟩, ⟨m_nu, e_nu⟩, pmn⟩ := hFM
  have pcl : ∀ i : Nat, i < 4 → ∃ q s : Nat, gcl i = some q ∧ q ∈ Lx ∧ f q = ob 1 [.ref s, .int 0] := fun i hi => by
    obtain ⟨q, s, h1, ⟨h2, h3⟩, -⟩ := pcl0 i hi
    exact ⟨q, s, h1, h2, h3⟩
  have pwy : ∀ i : Nat, i < 6 → ∃ q : Nat, gwy i = some q ∧ q ∈ Lx ∧ f q = ob 10 [.int 0, .int 0, .int 1, .int 1, .int 1, .int 0, .int 0] := fun i hi => by
    obtain ⟨q, h1, h2, h3⟩ := pwy0 i hi
    exact ⟨q, h1, h2, h3⟩
  have psl : ∀ i : Nat, i < 4 → ∃ q s : Nat, gsl i = some q ∧ q ∈ Lx ∧ f q = ob 5 [.ref s, .int (-1), .int 0] ∧ s ∈ Lx ∧ f s = aJ E 60 (fun _ => 0) := fun i hi => by
    obtain ⟨q, s, h1, ⟨h2, h3⟩, h4, h5⟩ := psl0 i hi
    exact ⟨q, s, h1, h2, h3, h4, h5⟩
  refine v_aload_n hC dL_law_801 rfl ?_
  refine v_aload_n hC dL_law_802 rfl ?_
  refine v_iload_n hC dL_law_803 rfl ?_
  refine v_iconst hC dL_law_804 (v := 1) (by decide) ?_
  refine v_iadd hC dL_law_805 (v := 1) (by decide) ?_
  refine v_sld hC hX hbl hbA (by unfold vp_in; decide) (v := xs 1) rfl dL_law_806 ?_
  refine v_viD hC (rest := []) m_x e_x rfl mi_X11_stops ms_X11_stops (x_stops m_x e_x m_now e_now m_cl e_cl pcl) mx_X11_stops ml_L_102 (by decide) rfl (cells1 := 85) (slots1 := 18286) (by decide) (by decide) (Nat.le_of_ble_eq_true rfl) (Nat.le_of_ble_eq_true rfl) rfl (Nat.le_of_ble_eq_true rfl) dL_law_807 (fun r_1 L_2 f_3 h_4 => ?_)
  obtain rfl : sp_c (xs 1) = r_1 := h_4
  refine v_aload_n hC dL_law_810 rfl ?_
  refine v_aload_n hC dL_law_811 rfl ?_
  refine v_iload_n hC dL_law_812 rfl ?_
  refine v_iconst hC dL_law_813 (v := 1) (by decide) ?_
  refine v_iadd hC dL_law_814 (v := 1) (by decide) ?_
  refine v_sld hC hX hbl hbA (by unfold vp_in; decide) (v := xs 1) rfl dL_law_815 ?_
  refine v_vi hC (rest := [.int (sp_c (xs 1))]) m_m e_m rfl mi_X12_stops ms_X12_stops (y_stops m_m e_m m_wo e_wo) mx_X12_stops ml_L_105 (by decide) rfl (cells1 := 85) (slots1 := 18286) (by decide) (by decide) (Nat.le_of_ble_eq_true rfl) (Nat.le_of_ble_eq_true rfl) rfl (Nat.le_of_ble_eq_true rfl) dL_law_816 (fun r_5 L_6 f_7 h_8 => ?_)
  obtain rfl : sp_c (xs 1) = r_5 := h_8
  refine v_icmp_eq_t hC dL_law_819 (tgt := 1468) (by decide) rfl ?_
  exact hT _ _ _ _ (Nat.le_of_ble_eq_true rfl) (Nat.le_of_ble_eq_true rfl)
set_option maxRecDepth 100000 in
set_option maxHeartbeats 4000000 in
theorem lc_22 {z : Cz} {E : Ez} {b x m : Nat} {xs : Nat → Int32} (hC : Cx z E cL_law RL 4 14 600000 7302250) (hX : va_X b 6 xs (zs z) (zs z).heap) (hbl : b < (zs z).heap.size) (hbA : ¬ zA z b) (hT : ∀ (L : List Nat) (f : Nat → va_E) (c s : Nat), c ≤ 600000 → s ≤ 7302250 → V z E 4 c s L f 1468 [(3, .int 0), (2, .ref m), (1, .ref x), (0, .ref b)] []) {Lx Lm : List Nat} {f : Nat → va_E} (hFX : FX E x Lx f) (hFM : FM E m Lm f) : V z E 4 85 18286 (Lx ++ Lm) f 824 [(3, .int 0), (2, .ref m), (1, .ref x), (0, .ref b)] [] := by
  obtain ⟨t, now, im, la, sl, np, ns, nw, nwa, nl, he, wa, tr, ta, tb, lax, nps, npf, nwc, nlk, nlf, nls, gsl, ⟨m_x, e_x⟩, ⟨m_t, e_t⟩, ⟨m_tb, e_tb⟩, ⟨m_im, e_im⟩, ⟨m_la, e_la⟩, ⟨m_sl, e_sl⟩, ⟨m_np, e_np⟩, ⟨m_ns, e_ns⟩, ⟨m_nw, e_nw⟩, ⟨m_nwa, e_nwa⟩, ⟨m_nwc, e_nwc⟩, ⟨m_nl, e_nl⟩, ⟨m_nlk, e_nlk⟩, ⟨m_nlf, e_nlf⟩, ⟨m_nls, e_nls⟩, hB, psl0⟩ := hFX
  obtain ⟨pa, pas, paf, sh, wy, wt, wtc, lo, lok, lof, los, cl, gwy, gcl, ⟨m_now, e_now⟩, ⟨m_pa, e_pa⟩, ⟨m_pas, e_pas⟩, ⟨m_paf, e_paf⟩, ⟨m_sh, e_sh⟩, ⟨m_wy, e_wy⟩, ⟨m_wt, e_wt⟩, ⟨m_wtc, e_wtc⟩, ⟨m_lo, e_lo⟩, ⟨m_lok, e_lok⟩, ⟨m_lof, e_lof⟩, ⟨m_los, e_los⟩, ⟨m_cl, e_cl⟩, pwy0, pcl0⟩ := id hB
  obtain ⟨wo, img, hi, tp, fv, fr, cl0, pl, wd, rd, tr0, co, bi, wl, mn, wi, nu, mv, gmn, ⟨m_m, e_m⟩, ⟨m_wo, e_wo⟩, ⟨m_img, e_img⟩, ⟨m_hi, e_hi⟩, ⟨m_tp, e_tp⟩, ⟨m_fv, e_fv⟩, ⟨m_fr, e_fr⟩, ⟨m_mn, e_mn⟩, ⟨m_wi, e_wi⟩, ⟨m_nu, e_nu⟩, pmn⟩ := hFM
  have pcl : ∀ i : Nat, i < 4 → ∃ q s : Nat, gcl i = some q ∧ q ∈ Lx ∧ f q = ob 1 [.ref s, .int 0] := fun i hi => by
    obtain ⟨q, s, h1, ⟨h2, h3⟩, -⟩ := pcl0 i hi
    exact ⟨q, s, h1, h2, h3⟩
  have pwy : ∀ i : Nat, i < 6 → ∃ q : Nat, gwy i = some q ∧ q ∈ Lx ∧ f q = ob 10 [.int 0, .int 0, .int 1, .int 1, .int 1, .int 0, .int 0] := fun i hi => by
    obtain ⟨q, h1, h2, h3⟩ := pwy0 i hi
    exact ⟨q, h1, h2, h3⟩
  have psl : ∀ i : Nat, i < 4 → ∃ q s : Nat, gsl i = some q ∧ q ∈ Lx ∧ f q = ob 5 [.ref s, .int (-1), .int 0] ∧ s ∈ Lx ∧ f s = aJ E 60 (fun _ => 0) := fun i hi => by
    obtain ⟨q, s, h1, ⟨h2, h3⟩, h4, h5⟩ := psl0 i hi
    exact ⟨q, s, h1, h2, h3, h4, h5⟩
  refine v_aload_n hC dL_law_824 rfl ?_
  refine v_aload_n hC dL_law_825 rfl ?_
  refine v_iload_n hC dL_law_826 rfl ?_
  refine v_iconst hC dL_law_827 (v := 1) (by decide) ?_
  refine v_iadd hC dL_law_828 (v := 1) (by decide) ?_
  refine v_sld hC hX hbl hbA (by unfold vp_in; decide) (v := xs 1) rfl dL_law_829 ?_
  refine v_aload_n hC dL_law_830 rfl ?_
  refine v_iload_n hC dL_law_831 rfl ?_
  refine v_iconst hC dL_law_832 (v := 2) (by decide) ?_
  refine v_iadd hC dL_law_833 (v := 2) (by decide) ?_
  refine v_sld hC hX hbl hbA (by unfold vp_in; decide) (v := xs 2) rfl dL_law_834 ?_
  refine v_viD hC (rest := []) m_x e_x rfl mi_X11_odds ms_X11_odds (x_odds m_x e_x m_now e_now m_pa e_pa) mx_X11_odds ml_L_106 (by decide) rfl (cells1 := 85) (slots1 := 18286) (by decide) (by decide) (Nat.le_of_ble_eq_true rfl) (Nat.le_of_ble_eq_true rfl) rfl (Nat.le_of_ble_eq_true rfl) dL_law_835 (fun r_1 L_2 f_3 h_4 => ?_)
  obtain rfl : sp_odds (xs 1) (xs 2) = r_1 := h_4
  refine v_aload_n hC dL_law_838 rfl ?_
  refine v_aload_n hC dL_law_839 rfl ?_
  refine v_iload_n hC dL_law_840 rfl ?_
  refine v_iconst hC dL_law_841 (v := 1) (by decide) ?_
  refine v_iadd hC dL_law_842 (v := 1) (by decide) ?_
  refine v_sld hC hX hbl hbA (by unfold vp_in; decide) (v := xs 1) rfl dL_law_843 ?_
  refine v_aload_n hC dL_law_844 rfl ?_
  refine v_iload_n hC dL_law_845 rfl ?_
  refine v_iconst hC dL_law_846 (v := 2) (by decide) ?_
  refine v_iadd hC dL_law_847 (v := 2) (by decide) ?_
  refine v_sld hC hX hbl hbA (by unfold vp_in; decide) (v := xs 2) rfl dL_law_848 ?_
  refine v_vi hC (rest := [.int (sp_odds (xs 1) (xs 2))]) m_m e_m rfl mi_X12_odds ms_X12_odds (y_odds m_m e_m m_wo e_wo) mx_X12_odds ml_L_109 (by decide) rfl (cells1 := 85) (slots1 := 18286) (by decide) (by decide) (Nat.le_of_ble_eq_true rfl) (Nat.le_of_ble_eq_true rfl) rfl (Nat.le_of_ble_eq_true rfl) dL_law_849 (fun r_5 L_6 f_7 h_8 => ?_)
  obtain rfl : sp_odds (xs 1) (xs 2) = r_5 := h_8
  refine v_icmp_eq_t hC dL_law_852 (tgt := 1468) (by decide) rfl ?_
  exact hT _ _ _ _ (Nat.le_of_ble_eq_true rfl) (Nat.le_of_ble_eq_true rfl)
set_option maxRecDepth 100000 in
set_option maxHeartbeats 4000000 in
theorem lc_23 {z : Cz} {E : Ez} {b x m : Nat} {xs : Nat → Int32} (hC : Cx z E cL_law RL 4 14 600000 7302250) (hX : va_X b 6 xs (zs z) (zs z).heap) (hbl : b < (zs z).heap.size) (hbA : ¬ zA z b) (hT : ∀ (L : List Nat) (f : Nat → va_E) (c s : Nat), c ≤ 600000 → s ≤ 7302250 → V z E 4 c s L f 1468 [(3, .int 0), (2, .ref m), (1, .ref x), (0, .ref b)] []) {Lx Lm : List Nat} {f : Nat → va_E} (hFX : FX E x Lx f) (hFM : FM E m Lm f) : V z E 4 85 18286 (Lx ++ Lm) f 857 [(3, .int 0), (2, .ref m), (1, .ref x), (0, .ref b)] [] := by
  obtain ⟨t, now, im, la, sl, np, ns, nw, nwa, nl, he, wa, tr, ta, tb, lax, nps, npf, nwc, nlk, nlf, nls, gsl, ⟨m_x, e_x⟩, ⟨m_t, e_t⟩, ⟨m_tb, e_tb⟩, ⟨m_im, e_im⟩, ⟨m_la, e_la⟩, ⟨m_sl, e_sl⟩, ⟨m_np, e_np⟩, ⟨m_ns, e_ns⟩, ⟨m_nw, e_nw⟩, ⟨m_nwa, e_nwa⟩, ⟨m_nwc, e_nwc⟩, ⟨m_nl, e_nl⟩, ⟨m_nlk, e_nlk⟩, ⟨m_nlf, e_nlf⟩, ⟨m_nls, e_nls⟩, hB, psl0⟩ := hFX
  obtain ⟨pa, pas, paf, sh, wy, wt, wtc, lo, lok, lof, los, cl, gwy, gcl, ⟨m_now, e_now⟩, ⟨m_pa, e_pa⟩, ⟨m_pas, e_pas⟩, ⟨m_paf, e_paf⟩, ⟨m_sh, e_sh⟩, ⟨m_wy, e_wy⟩, ⟨m_wt, e_wt⟩, ⟨m_wtc, e_wtc⟩, ⟨m_lo, e_lo⟩, ⟨m_lok, e_lok⟩, ⟨m_lof, e_lof⟩, ⟨m_los, e_los⟩, ⟨m_cl, e_cl⟩, pwy0, pcl0⟩ := id hB
  obtain ⟨wo, img, hi, tp, fv, fr, cl0, pl, wd, rd, tr0, co, bi, wl, mn, wi, nu, mv, gmn, ⟨m_m, e_m⟩, ⟨m_wo, e_wo⟩, ⟨m_img, e_img⟩, ⟨m_hi, e_hi⟩, ⟨m_tp, e_tp⟩, ⟨m_fv, e_fv⟩, ⟨m_fr, e_fr⟩, ⟨m_mn, e_mn⟩, ⟨m_wi, e_wi⟩, ⟨m_nu, e_nu⟩, pmn⟩ := hFM
  have pcl : ∀ i : Nat, i < 4 → ∃ q s : Nat, gcl i = some q ∧ q ∈ Lx ∧ f q = ob 1 [.ref s, .int 0] := fun i hi => by
    obtain ⟨q, s, h1, ⟨h2, h3⟩, -⟩ := pcl0 i hi
    exact ⟨q, s, h1, h2, h3⟩
  have pwy : ∀ i : Nat, i < 6 → ∃ q : Nat, gwy i = some q ∧ q ∈ Lx ∧ f q = ob 10 [.int 0, .int 0, .int 1, .int 1, .int 1, .int 0, .int 0] := fun i hi => by
    obtain ⟨q, h1, h2, h3⟩ := pwy0 i hi
    exact ⟨q, h1, h2, h3⟩
  have psl : ∀ i : Nat, i < 4 → ∃ q s : Nat, gsl i = some q ∧ q ∈ Lx ∧ f q = ob 5 [.ref s, .int (-1), .int 0] ∧ s ∈ Lx ∧ f s = aJ E 60 (fun _ => 0) := fun i hi => by
    obtain ⟨q, s, h1, ⟨h2, h3⟩, h4, h5⟩ := psl0 i hi
    exact ⟨q, s, h1, h2, h3, h4, h5⟩
  refine v_aload_n hC dL_law_857 rfl ?_
  refine v_aload_n hC dL_law_858 rfl ?_
  refine v_iload_n hC dL_law_859 rfl ?_
  refine v_iconst hC dL_law_860 (v := 1) (by decide) ?_
  refine v_iadd hC dL_law_861 (v := 1) (by decide) ?_
  refine v_sld hC hX hbl hbA (by unfold vp_in; decide) (v := xs 1) rfl dL_law_862 ?_
  refine v_aload_n hC dL_law_863 rfl ?_
  refine v_iload_n hC dL_law_864 rfl ?_
  refine v_iconst hC dL_law_865 (v := 2) (by decide) ?_
  refine v_iadd hC dL_law_866 (v := 2) (by decide) ?_
  refine v_sld hC hX hbl hbA (by unfold vp_in; decide) (v := xs 2) rfl dL_law_867 ?_
  refine v_aload_n hC dL_law_868 rfl ?_
  refine v_iload_n hC dL_law_869 rfl ?_
  refine v_iconst hC dL_law_870 (v := 3) (by decide) ?_
  refine v_iadd hC dL_law_871 (v := 3) (by decide) ?_
  refine v_sld hC hX hbl hbA (by unfold vp_in; decide) (v := xs 3) rfl dL_law_872 ?_
  refine v_viD hC (rest := []) m_x e_x rfl mi_X11_carries ms_X11_carries (x_carries m_x e_x m_now e_now m_pa e_pa) mx_X11_carries ml_L_110 (by decide) rfl (cells1 := 85) (slots1 := 18286) (by decide) (by decide) (Nat.le_of_ble_eq_true rfl) (Nat.le_of_ble_eq_true rfl) rfl (Nat.le_of_ble_eq_true rfl) dL_law_873 (fun r_1 L_2 f_3 h_4 => ?_)
  obtain rfl : sp_carries (xs 1) (xs 2) (xs 3) = r_1 := h_4
  refine v_aload_n hC dL_law_876 rfl ?_
  refine v_aload_n hC dL_law_877 rfl ?_
  refine v_iload_n hC dL_law_878 rfl ?_
  refine v_iconst hC dL_law_879 (v := 1) (by decide) ?_
  refine v_iadd hC dL_law_880 (v := 1) (by decide) ?_
  refine v_sld hC hX hbl hbA (by unfold vp_in; decide) (v := xs 1) rfl dL_law_881 ?_
  refine v_aload_n hC dL_law_882 rfl ?_
  refine v_iload_n hC dL_law_883 rfl ?_
  refine v_iconst hC dL_law_884 (v := 2) (by decide) ?_
  refine v_iadd hC dL_law_885 (v := 2) (by decide) ?_
  refine v_sld hC hX hbl hbA (by unfold vp_in; decide) (v := xs 2) rfl dL_law_886 ?_
  refine v_aload_n hC dL_law_887 rfl ?_
  refine v_iload_n hC dL_law_888 rfl ?_
  refine v_iconst hC dL_law_889 (v := 3) (by decide) ?_
  refine v_iadd hC dL_law_890 (v := 3) (by decide) ?_
  refine v_sld hC hX hbl hbA (by unfold vp_in; decide) (v := xs 3) rfl dL_law_891 ?_
  refine v_vi hC (rest := [.int (sp_carries (xs 1) (xs 2) (xs 3))]) m_m e_m rfl mi_X12_carries ms_X12_carries (y_carries m_m e_m m_wo e_wo) mx_X12_carries ml_L_113 (by decide) rfl (cells1 := 85) (slots1 := 18286) (by decide) (by decide) (Nat.le_of_ble_eq_true rfl) (Nat.le_of_ble_eq_true rfl) rfl (Nat.le_of_ble_eq_true rfl) dL_law_892 (fun r_5 L_6 f_7 h_8 => ?_)
  obtain rfl : sp_carries (xs 1) (xs 2) (xs 3) = r_5 := h_8
  refine v_icmp_eq_t hC dL_law_895 (tgt := 1468) (by decide) rfl ?_
  exact hT _ _ _ _ (Nat.le_of_ble_eq_true rfl) (Nat.le_of_ble_eq_true rfl)
set_option maxRecDepth 100000 in
set_option maxHeartbeats 4000000 in
theorem lc_24 {z : Cz} {E : Ez} {b x m : Nat} {xs : Nat → Int32} (hC : Cx z E cL_law RL 4 14 600000 7302250) (hX : va_X b 6 xs (zs z) (zs z).heap) (hbl : b < (zs z).heap.size) (hbA : ¬ zA z b) (hT : ∀ (L : List Nat) (f : Nat → va_E) (c s : Nat), c ≤ 600000 → s ≤ 7302250 → V z E 4 c s L f 1468 [(3, .int 0), (2, .ref m), (1, .ref x), (0, .ref b)] []) {Lx Lm : List Nat} {f : Nat → va_E} (hFX : FX E x Lx f) (hFM : FM E m Lm f) : V z E 4 85 18286 (Lx ++ Lm) f 900 [(3, .int 0), (2, .ref m), (1, .ref x), (0, .ref b)] [] := by
  obtain ⟨t, now, im, la, sl, np, ns, nw, nwa, nl, he, wa, tr, ta, tb, lax, nps, npf, nwc, nlk, nlf, nls, gsl, ⟨m_x, e_x⟩, ⟨m_t, e_t⟩, ⟨m_tb, e_tb⟩, ⟨m_im, e_im⟩, ⟨m_la, e_la⟩, ⟨m_sl, e_sl⟩, ⟨m_np, e_np⟩, ⟨m_ns, e_ns⟩, ⟨m_nw, e_nw⟩, ⟨m_nwa, e_nwa⟩, ⟨m_nwc, e_nwc⟩, ⟨m_nl, e_nl⟩, ⟨m_nlk, e_nlk⟩, ⟨m_nlf, e_nlf⟩, ⟨m_nls, e_nls⟩, hB, psl0⟩ := hFX
  obtain ⟨pa, pas, paf, sh, wy, wt, wtc, lo, lok, lof, los, cl, gwy, gcl, ⟨m_now, e_now⟩, ⟨m_pa, e_pa⟩, ⟨m_pas, e_pas⟩, ⟨m_paf, e_paf⟩, ⟨m_sh, e_sh⟩, ⟨m_wy, e_wy⟩, ⟨m_wt, e_wt⟩, ⟨m_wtc, e_wtc⟩, ⟨m_lo, e_lo⟩, ⟨m_lok, e_lok⟩, ⟨m_lof, e_lof⟩, ⟨m_los, e_los⟩, ⟨m_cl, e_cl⟩, pwy0, pcl0⟩ := id hB
  obtain ⟨wo, img, hi, tp, fv, fr, cl0, pl, wd, rd, tr0, co, bi, wl, mn, wi, nu, mv, gmn, ⟨m_m, e_m⟩, ⟨m_wo, e_wo⟩, ⟨m_img, e_img⟩, ⟨m_hi, e_hi⟩, ⟨m_tp, e_tp⟩, ⟨m_fv, e_fv⟩, ⟨m_fr, e_fr⟩, ⟨m_mn, e_mn⟩, ⟨m_wi, e_wi⟩, ⟨m_nu, e_nu⟩, pmn⟩ := hFM
  have pcl : ∀ i : Nat, i < 4 → ∃ q s : Nat, gcl i = some q ∧ q ∈ Lx ∧ f q = ob 1 [.ref s, .int 0] := fun i hi => by
    obtain ⟨q, s, h1, ⟨h2, h3⟩, -⟩ := pcl0 i hi
    exact ⟨q, s, h1, h2, h3⟩
  have pwy : ∀ i : Nat, i < 6 → ∃ q : Nat, gwy i = some q ∧ q ∈ Lx ∧ f q = ob 10 [.int 0, .int 0, .int 1, .int 1, .int 1, .int 0, .int 0] := fun i hi => by
    obtain ⟨q, h1, h2, h3⟩ := pwy0 i hi
    exact ⟨q, h1, h2, h3⟩
  have psl : ∀ i : Nat, i < 4 → ∃ q s : Nat, gsl i = some q ∧ q ∈ Lx ∧ f q = ob 5 [.ref s, .int (-1), .int 0] ∧ s ∈ Lx ∧ f s = aJ E 60 (fun _ => 0) := fun i hi => by
    obtain ⟨q, s, h1, ⟨h2, h3⟩, h4, h5⟩ := psl0 i hi
    exact ⟨q, s, h1, h2, h3, h4, h5⟩
  refine v_aload_n hC dL_law_900 rfl ?_
  refine v_aload_n hC dL_law_901 rfl ?_
  refine v_iload_n hC dL_law_902 rfl ?_
  refine v_iconst hC dL_law_903 (v := 1) (by decide) ?_
  refine v_iadd hC dL_law_904 (v := 1) (by decide) ?_
  refine v_sld hC hX hbl hbA (by unfold vp_in; decide) (v := xs 1) rfl dL_law_905 ?_
  refine v_viD hC (rest := []) m_x e_x rfl mi_X11_best ms_X11_best (x_best m_x e_x m_now e_now m_cl e_cl pcl) mx_X11_best ml_L_114 (by decide) rfl (cells1 := 85) (slots1 := 18286) (by decide) (by decide) (Nat.le_of_ble_eq_true rfl) (Nat.le_of_ble_eq_true rfl) rfl (Nat.le_of_ble_eq_true rfl) dL_law_906 (fun r_1 L_2 f_3 h_4 => ?_)
  obtain rfl : sp_c (xs 1) = r_1 := h_4
  refine v_aload_n hC dL_law_909 rfl ?_
  refine v_aload_n hC dL_law_910 rfl ?_
  refine v_iload_n hC dL_law_911 rfl ?_
  refine v_iconst hC dL_law_912 (v := 1) (by decide) ?_
  refine v_iadd hC dL_law_913 (v := 1) (by decide) ?_
  refine v_sld hC hX hbl hbA (by unfold vp_in; decide) (v := xs 1) rfl dL_law_914 ?_
  refine v_vi hC (rest := [.int (sp_c (xs 1))]) m_m e_m rfl mi_X12_best ms_X12_best (y_best m_m e_m m_wo e_wo) mx_X12_best ml_L_117 (by decide) rfl (cells1 := 85) (slots1 := 18286) (by decide) (by decide) (Nat.le_of_ble_eq_true rfl) (Nat.le_of_ble_eq_true rfl) rfl (Nat.le_of_ble_eq_true rfl) dL_law_915 (fun r_5 L_6 f_7 h_8 => ?_)
  obtain rfl : sp_c (xs 1) = r_5 := h_8
  refine v_icmp_eq_t hC dL_law_918 (tgt := 1468) (by decide) rfl ?_
  exact hT _ _ _ _ (Nat.le_of_ble_eq_true rfl) (Nat.le_of_ble_eq_true rfl)
set_option maxRecDepth 100000 in
set_option maxHeartbeats 4000000 in
theorem lc_25 {z : Cz} {E : Ez} {b x m : Nat} {xs : Nat → Int32} (hC : Cx z E cL_law RL 4 14 600000 7302250) (hX : va_X b 6 xs (zs z) (zs z).heap) (hbl : b < (zs z).heap.size) (hbA : ¬ zA z b) (hT : ∀ (L : List Nat) (f : Nat → va_E) (c s : Nat), c ≤ 600000 → s ≤ 7302250 → V z E 4 c s L f 1468 [(3, .int 0), (2, .ref m), (1, .ref x), (0, .ref b)] []) {Lx Lm : List Nat} {f : Nat → va_E} (hFX : FX E x Lx f) (hFM : FM E m Lm f) : V z E 4 85 18286 (Lx ++ Lm) f 923 [(3, .int 0), (2, .ref m), (1, .ref x), (0, .ref b)] [] := by
  obtain ⟨t, now, im, la, sl, np, ns, nw, nwa, nl, he, wa, tr, ta, tb, lax, nps, npf, nwc, nlk, nlf, nls, gsl, ⟨m_x, e_x⟩, ⟨m_t, e_t⟩, ⟨m_tb, e_tb⟩, ⟨m_im, e_im⟩, ⟨m_la, e_la⟩, ⟨m_sl, e_sl⟩, ⟨m_np, e_np⟩, ⟨m_ns, e_ns⟩, ⟨m_nw, e_nw⟩, ⟨m_nwa, e_nwa⟩, ⟨m_nwc, e_nwc⟩, ⟨m_nl, e_nl⟩, ⟨m_nlk, e_nlk⟩, ⟨m_nlf, e_nlf⟩, ⟨m_nls, e_nls⟩, hB, psl0⟩ := hFX
  obtain ⟨pa, pas, paf, sh, wy, wt, wtc, lo, lok, lof, los, cl, gwy, gcl, ⟨m_now, e_now⟩, ⟨m_pa, e_pa⟩, ⟨m_pas, e_pas⟩, ⟨m_paf, e_paf⟩, ⟨m_sh, e_sh⟩, ⟨m_wy, e_wy⟩, ⟨m_wt, e_wt⟩, ⟨m_wtc, e_wtc⟩, ⟨m_lo, e_lo⟩, ⟨m_lok, e_lok⟩, ⟨m_lof, e_lof⟩, ⟨m_los, e_los⟩, ⟨m_cl, e_cl⟩, pwy0, pcl0⟩ := id hB
  obtain ⟨wo, img, hi, tp, fv, fr, cl0, pl, wd, rd, tr0, co, bi, wl, mn, wi, nu, mv, gmn, ⟨m_m, e_m⟩, ⟨m_wo, e_wo⟩, ⟨m_img, e_img⟩, ⟨m_hi, e_hi⟩, ⟨m_tp, e_tp⟩, ⟨m_fv, e_fv⟩, ⟨m_fr, e_fr⟩, ⟨m_mn, e_mn⟩, ⟨m_wi, e_wi⟩, ⟨m_nu, e_nu⟩, pmn⟩ := hFM
  have pcl : ∀ i : Nat, i < 4 → ∃ q s : Nat, gcl i = some q ∧ q ∈ Lx ∧ f q = ob 1 [.ref s, .int 0] := fun i hi => by
    obtain ⟨q, s, h1, ⟨h2, h3⟩, -⟩ := pcl0 i hi
    exact ⟨q, s, h1, h2, h3⟩
  have pwy : ∀ i : Nat, i < 6 → ∃ q : Nat, gwy i = some q ∧ q ∈ Lx ∧ f q = ob 10 [.int 0, .int 0, .int 1, .int 1, .int 1, .int 0, .int 0] := fun i hi => by
    obtain ⟨q, h1, h2, h3⟩ := pwy0 i hi
    exact ⟨q, h1, h2, h3⟩
  have psl : ∀ i : Nat, i < 4 → ∃ q s : Nat, gsl i = some q ∧ q ∈ Lx ∧ f q = ob 5 [.ref s, .int (-1), .int 0] ∧ s ∈ Lx ∧ f s = aJ E 60 (fun _ => 0) := fun i hi => by
    obtain ⟨q, s, h1, ⟨h2, h3⟩, h4, h5⟩ := psl0 i hi
    exact ⟨q, s, h1, h2, h3, h4, h5⟩
  refine v_aload_n hC dL_law_923 rfl ?_
  refine v_aload_n hC dL_law_924 rfl ?_
  refine v_iload_n hC dL_law_925 rfl ?_
  refine v_iconst hC dL_law_926 (v := 1) (by decide) ?_
  refine v_iadd hC dL_law_927 (v := 1) (by decide) ?_
  refine v_sld hC hX hbl hbA (by unfold vp_in; decide) (v := xs 1) rfl dL_law_928 ?_
  refine v_viD hC (rest := []) m_x e_x rfl mi_X11_lose ms_X11_lose (x_lose m_x e_x m_now e_now m_cl e_cl pcl) mx_X11_lose ml_L_118 (by decide) rfl (cells1 := 85) (slots1 := 18286) (by decide) (by decide) (Nat.le_of_ble_eq_true rfl) (Nat.le_of_ble_eq_true rfl) rfl (Nat.le_of_ble_eq_true rfl) dL_law_929 (fun r_1 L_2 f_3 h_4 => ?_)
  obtain rfl : sp_c (xs 1) = r_1 := h_4
  refine v_aload_n hC dL_law_932 rfl ?_
  refine v_aload_n hC dL_law_933 rfl ?_
  refine v_iload_n hC dL_law_934 rfl ?_
  refine v_iconst hC dL_law_935 (v := 1) (by decide) ?_
  refine v_iadd hC dL_law_936 (v := 1) (by decide) ?_
  refine v_sld hC hX hbl hbA (by unfold vp_in; decide) (v := xs 1) rfl dL_law_937 ?_
  refine v_vi hC (rest := [.int (sp_c (xs 1))]) m_m e_m rfl mi_X12_lose ms_X12_lose (y_lose m_m e_m m_wo e_wo) mx_X12_lose ml_L_121 (by decide) rfl (cells1 := 85) (slots1 := 18286) (by decide) (by decide) (Nat.le_of_ble_eq_true rfl) (Nat.le_of_ble_eq_true rfl) rfl (Nat.le_of_ble_eq_true rfl) dL_law_938 (fun r_5 L_6 f_7 h_8 => ?_)
  obtain rfl : sp_c (xs 1) = r_5 := h_8
  refine v_icmp_eq_t hC dL_law_941 (tgt := 1468) (by decide) rfl ?_
  exact hT _ _ _ _ (Nat.le_of_ble_eq_true rfl) (Nat.le_of_ble_eq_true rfl)
set_option maxRecDepth 100000 in
set_option maxHeartbeats 4000000 in
theorem lc_26 {z : Cz} {E : Ez} {b x m : Nat} {xs : Nat → Int32} (hC : Cx z E cL_law RL 4 14 600000 7302250) (hX : va_X b 6 xs (zs z) (zs z).heap) (hbl : b < (zs z).heap.size) (hbA : ¬ zA z b) (hT : ∀ (L : List Nat) (f : Nat → va_E) (c s : Nat), c ≤ 600000 → s ≤ 7302250 → V z E 4 c s L f 1468 [(3, .int 0), (2, .ref m), (1, .ref x), (0, .ref b)] []) {Lx Lm : List Nat} {f : Nat → va_E} (hFX : FX E x Lx f) (hFM : FM E m Lm f) : V z E 4 85 18286 (Lx ++ Lm) f 946 [(3, .int 0), (2, .ref m), (1, .ref x), (0, .ref b)] [] := by
  obtain ⟨t, now, im, la, sl, np, ns, nw, nwa, nl, he, wa, tr, ta, tb, lax, nps, npf, nwc, nlk, nlf, nls, gsl, ⟨m_x, e_x⟩, ⟨m_t, e_t⟩, ⟨m_tb, e_tb⟩, ⟨m_im, e_im⟩, ⟨m_la, e_la⟩, ⟨m_sl, e_sl⟩, ⟨m_np, e_np⟩, ⟨m_ns, e_ns⟩, ⟨m_nw, e_nw⟩, ⟨m_nwa, e_nwa⟩, ⟨m_nwc, e_nwc⟩, ⟨m_nl, e_nl⟩, ⟨m_nlk, e_nlk⟩, ⟨m_nlf, e_nlf⟩, ⟨m_nls, e_nls⟩, hB, psl0⟩ := hFX
  obtain ⟨pa, pas, paf, sh, wy, wt, wtc, lo, lok, lof, los, cl, gwy, gcl, ⟨m_now, e_now⟩, ⟨m_pa, e_pa⟩, ⟨m_pas, e_pas⟩, ⟨m_paf, e_paf⟩, ⟨m_sh, e_sh⟩, ⟨m_wy, e_wy⟩, ⟨m_wt, e_wt⟩, ⟨m_wtc, e_wtc⟩, ⟨m_lo, e_lo⟩, ⟨m_lok, e_lok⟩, ⟨m_lof, e_lof⟩, ⟨m_los, e_los⟩, ⟨m_cl, e_cl⟩, pwy0, pcl0⟩ := id hB
  obtain ⟨wo, img, hi, tp, fv, fr, cl0, pl, wd, rd, tr0, co, bi, wl, mn, wi, nu, mv, gmn, ⟨m_m, e_m⟩, ⟨m_wo, e_wo⟩, ⟨m_img, e_img⟩, ⟨m_hi, e_hi⟩, ⟨m_tp, e_tp⟩, ⟨m_fv, e_fv⟩, ⟨m_fr, e_fr⟩, ⟨m_mn, e_mn⟩, ⟨m_wi, e_wi⟩, ⟨m_nu, e_nu⟩, pmn⟩ := hFM
  have pcl : ∀ i : Nat, i < 4 → ∃ q s : Nat, gcl i = some q ∧ q ∈ Lx ∧ f q = ob 1 [.ref s, .int 0] := fun i hi => by
    obtain ⟨q, s, h1, ⟨h2, h3⟩, -⟩ := pcl0 i hi
    exact ⟨q, s, h1, h2, h3⟩
  have pwy : ∀ i : Nat, i < 6 → ∃ q : Nat, gwy i = some q ∧ q ∈ Lx ∧ f q = ob 10 [.int 0, .int 0, .int 1, .int 1, .int 1, .int 0, .int 0] := fun i hi => by
    obtain ⟨q, h1, h2, h3⟩ := pwy0 i hi
    exact ⟨q, h1, h2, h3⟩
  have psl : ∀ i : Nat, i < 4 → ∃ q s : Nat, gsl i = some q ∧ q ∈ Lx ∧ f q = ob 5 [.ref s, .int (-1), .int 0] ∧ s ∈ Lx ∧ f s = aJ E 60 (fun _ => 0) := fun i hi => by
    obtain ⟨q, s, h1, ⟨h2, h3⟩, h4, h5⟩ := psl0 i hi
    exact ⟨q, s, h1, h2, h3, h4, h5⟩
  refine v_aload_n hC dL_law_946 rfl ?_
  refine v_aload_n hC dL_law_947 rfl ?_
  refine v_iload_n hC dL_law_948 rfl ?_
  refine v_iconst hC dL_law_949 (v := 1) (by decide) ?_
  refine v_iadd hC dL_law_950 (v := 1) (by decide) ?_
  refine v_sld hC hX hbl hbA (by unfold vp_in; decide) (v := xs 1) rfl dL_law_951 ?_
  refine v_aload_n hC dL_law_952 rfl ?_
  refine v_iload_n hC dL_law_953 rfl ?_
  refine v_iconst hC dL_law_954 (v := 2) (by decide) ?_
  refine v_iadd hC dL_law_955 (v := 2) (by decide) ?_
  refine v_sld hC hX hbl hbA (by unfold vp_in; decide) (v := xs 2) rfl dL_law_956 ?_
  refine v_viD hC (rest := []) m_x e_x rfl mi_X11_alike ms_X11_alike (x_alike m_x e_x m_now e_now m_cl e_cl pcl) mx_X11_alike ml_L_122 (by decide) rfl (cells1 := 85) (slots1 := 18286) (by decide) (by decide) (Nat.le_of_ble_eq_true rfl) (Nat.le_of_ble_eq_true rfl) rfl (Nat.le_of_ble_eq_true rfl) dL_law_957 (fun r_1 L_2 f_3 h_4 => ?_)
  obtain rfl : sp_cd (xs 1) (xs 2) = r_1 := h_4
  refine v_aload_n hC dL_law_960 rfl ?_
  refine v_aload_n hC dL_law_961 rfl ?_
  refine v_iload_n hC dL_law_962 rfl ?_
  refine v_iconst hC dL_law_963 (v := 1) (by decide) ?_
  refine v_iadd hC dL_law_964 (v := 1) (by decide) ?_
  refine v_sld hC hX hbl hbA (by unfold vp_in; decide) (v := xs 1) rfl dL_law_965 ?_
  refine v_aload_n hC dL_law_966 rfl ?_
  refine v_iload_n hC dL_law_967 rfl ?_
  refine v_iconst hC dL_law_968 (v := 2) (by decide) ?_
  refine v_iadd hC dL_law_969 (v := 2) (by decide) ?_
  refine v_sld hC hX hbl hbA (by unfold vp_in; decide) (v := xs 2) rfl dL_law_970 ?_
  refine v_vi hC (rest := [.int (sp_cd (xs 1) (xs 2))]) m_m e_m rfl mi_X12_alike ms_X12_alike (y_alike m_m e_m m_wo e_wo) mx_X12_alike ml_L_125 (by decide) rfl (cells1 := 85) (slots1 := 18286) (by decide) (by decide) (Nat.le_of_ble_eq_true rfl) (Nat.le_of_ble_eq_true rfl) rfl (Nat.le_of_ble_eq_true rfl) dL_law_971 (fun r_5 L_6 f_7 h_8 => ?_)
  obtain rfl : sp_cd (xs 1) (xs 2) = r_5 := h_8
  refine v_icmp_eq_t hC dL_law_974 (tgt := 1468) (by decide) rfl ?_
  exact hT _ _ _ _ (Nat.le_of_ble_eq_true rfl) (Nat.le_of_ble_eq_true rfl)
set_option maxRecDepth 100000 in
set_option maxHeartbeats 4000000 in
theorem lc_27 {z : Cz} {E : Ez} {b x m : Nat} {xs : Nat → Int32} (hC : Cx z E cL_law RL 4 14 600000 7302250) (hX : va_X b 6 xs (zs z) (zs z).heap) (hbl : b < (zs z).heap.size) (hbA : ¬ zA z b) (hT : ∀ (L : List Nat) (f : Nat → va_E) (c s : Nat), c ≤ 600000 → s ≤ 7302250 → V z E 4 c s L f 1468 [(3, .int 0), (2, .ref m), (1, .ref x), (0, .ref b)] []) {Lx Lm : List Nat} {f : Nat → va_E} (hFX : FX E x Lx f) (hFM : FM E m Lm f) : V z E 4 85 18286 (Lx ++ Lm) f 979 [(3, .int 0), (2, .ref m), (1, .ref x), (0, .ref b)] [] := by
  obtain ⟨t, now, im, la, sl, np, ns, nw, nwa, nl, he, wa, tr, ta, tb, lax, nps, npf, nwc, nlk, nlf, nls, gsl, ⟨m_x, e_x⟩, ⟨m_t, e_t⟩, ⟨m_tb, e_tb⟩, ⟨m_im, e_im⟩, ⟨m_la, e_la⟩, ⟨m_sl, e_sl⟩, ⟨m_np, e_np⟩, ⟨m_ns, e_ns⟩, ⟨m_nw, e_nw⟩, ⟨m_nwa, e_nwa⟩, ⟨m_nwc, e_nwc⟩, ⟨m_nl, e_nl⟩, ⟨m_nlk, e_nlk⟩, ⟨m_nlf, e_nlf⟩, ⟨m_nls, e_nls⟩, hB, psl0⟩ := hFX
  obtain ⟨pa, pas, paf, sh, wy, wt, wtc, lo, lok, lof, los, cl, gwy, gcl, ⟨m_now, e_now⟩, ⟨m_pa, e_pa⟩, ⟨m_pas, e_pas⟩, ⟨m_paf, e_paf⟩, ⟨m_sh, e_sh⟩, ⟨m_wy, e_wy⟩, ⟨m_wt, e_wt⟩, ⟨m_wtc, e_wtc⟩, ⟨m_lo, e_lo⟩, ⟨m_lok, e_lok⟩, ⟨m_lof, e_lof⟩, ⟨m_los, e_los⟩, ⟨m_cl, e_cl⟩, pwy0, pcl0⟩ := id hB
  obtain ⟨wo, img, hi, tp, fv, fr, cl0, pl, wd, rd, tr0, co, bi, wl, mn, wi, nu, mv, gmn, ⟨m_m, e_m⟩, ⟨m_wo, e_wo⟩, ⟨m_img, e_img⟩, ⟨m_hi, e_hi⟩, ⟨m_tp, e_tp⟩, ⟨m_fv, e_fv⟩, ⟨m_fr, e_fr⟩, ⟨m_mn, e_mn⟩, ⟨m_wi, e_wi⟩, ⟨m_nu, e_nu⟩, pmn⟩ := hFM
  have pcl : ∀ i : Nat, i < 4 → ∃ q s : Nat, gcl i = some q ∧ q ∈ Lx ∧ f q = ob 1 [.ref s, .int 0] := fun i hi => by
    obtain ⟨q, s, h1, ⟨h2, h3⟩, -⟩ := pcl0 i hi
    exact ⟨q, s, h1, h2, h3⟩
  have pwy : ∀ i : Nat, i < 6 → ∃ q : Nat, gwy i = some q ∧ q ∈ Lx ∧ f q = ob 10 [.int 0, .int 0, .int 1, .int 1, .int 1, .int 0, .int 0] := fun i hi => by
    obtain ⟨q, h1, h2, h3⟩ := pwy0 i hi
    exact ⟨q, h1, h2, h3⟩
  have psl : ∀ i : Nat, i < 4 → ∃ q s : Nat, gsl i = some q ∧ q ∈ Lx ∧ f q = ob 5 [.ref s, .int (-1), .int 0] ∧ s ∈ Lx ∧ f s = aJ E 60 (fun _ => 0) := fun i hi => by
    obtain ⟨q, s, h1, ⟨h2, h3⟩, h4, h5⟩ := psl0 i hi
    exact ⟨q, s, h1, h2, h3, h4, h5⟩
  refine v_aload_n hC dL_law_979 rfl ?_
  refine v_aload_n hC dL_law_980 rfl ?_
  refine v_iload_n hC dL_law_981 rfl ?_
  refine v_iconst hC dL_law_982 (v := 1) (by decide) ?_
  refine v_iadd hC dL_law_983 (v := 1) (by decide) ?_
  refine v_sld hC hX hbl hbA (by unfold vp_in; decide) (v := xs 1) rfl dL_law_984 ?_
  refine v_aload_n hC dL_law_985 rfl ?_
  refine v_iload_n hC dL_law_986 rfl ?_
  refine v_iconst hC dL_law_987 (v := 2) (by decide) ?_
  refine v_iadd hC dL_law_988 (v := 2) (by decide) ?_
  refine v_sld hC hX hbl hbA (by unfold vp_in; decide) (v := xs 2) rfl dL_law_989 ?_
  refine v_aload_n hC dL_law_990 rfl ?_
  refine v_iload_n hC dL_law_991 rfl ?_
  refine v_iconst hC dL_law_992 (v := 3) (by decide) ?_
  refine v_iadd hC dL_law_993 (v := 3) (by decide) ?_
  refine v_sld hC hX hbl hbA (by unfold vp_in; decide) (v := xs 3) rfl dL_law_994 ?_
  refine v_viD hC (rest := []) m_x e_x rfl mi_X11_same ms_X11_same (x_same m_x e_x m_now e_now m_cl e_cl pcl) mx_X11_same ml_L_126 (by decide) rfl (cells1 := 85) (slots1 := 18286) (by decide) (by decide) (Nat.le_of_ble_eq_true rfl) (Nat.le_of_ble_eq_true rfl) rfl (Nat.le_of_ble_eq_true rfl) dL_law_995 (fun r_1 L_2 f_3 h_4 => ?_)
  obtain rfl : sp_same (xs 1) (xs 2) (xs 3) = r_1 := h_4
  refine v_aload_n hC dL_law_998 rfl ?_
  refine v_aload_n hC dL_law_999 rfl ?_
  refine v_iload_n hC dL_law_1000 rfl ?_
  refine v_iconst hC dL_law_1001 (v := 1) (by decide) ?_
  refine v_iadd hC dL_law_1002 (v := 1) (by decide) ?_
  refine v_sld hC hX hbl hbA (by unfold vp_in; decide) (v := xs 1) rfl dL_law_1003 ?_
  refine v_aload_n hC dL_law_1004 rfl ?_
  refine v_iload_n hC dL_law_1005 rfl ?_
  refine v_iconst hC dL_law_1006 (v := 2) (by decide) ?_
  refine v_iadd hC dL_law_1007 (v := 2) (by decide) ?_
  refine v_sld hC hX hbl hbA (by unfold vp_in; decide) (v := xs 2) rfl dL_law_1008 ?_
  refine v_aload_n hC dL_law_1009 rfl ?_
  refine v_iload_n hC dL_law_1010 rfl ?_
  refine v_iconst hC dL_law_1011 (v := 3) (by decide) ?_
  refine v_iadd hC dL_law_1012 (v := 3) (by decide) ?_
  refine v_sld hC hX hbl hbA (by unfold vp_in; decide) (v := xs 3) rfl dL_law_1013 ?_
  refine v_vi hC (rest := [.int (sp_same (xs 1) (xs 2) (xs 3))]) m_m e_m rfl mi_X12_same ms_X12_same (y_same m_m e_m m_wo e_wo) mx_X12_same ml_L_129 (by decide) rfl (cells1 := 85) (slots1 := 18286) (by decide) (by decide) (Nat.le_of_ble_eq_true rfl) (Nat.le_of_ble_eq_true rfl) rfl (Nat.le_of_ble_eq_true rfl) dL_law_1014 (fun r_5 L_6 f_7 h_8 => ?_)
  obtain rfl : sp_same (xs 1) (xs 2) (xs 3) = r_5 := h_8
  refine v_icmp_eq_t hC dL_law_1017 (tgt := 1468) (by decide) rfl ?_
  exact hT _ _ _ _ (Nat.le_of_ble_eq_true rfl) (Nat.le_of_ble_eq_true rfl)
