set_option maxRecDepth 100000 in
set_option maxHeartbeats 4000000 in
theorem lc_0 {z : Cz} {E : Ez} {b x m : Nat} {xs : Nat → Int32} (hC : Cx z E cL_law RL 4 14 600000 7302250) (hX : va_X b 6 xs (zs z) (zs z).heap) (hbl : b < (zs z).heap.size) (hbA : ¬ zA z b) (hT : ∀ (L : List Nat) (f : Nat → va_E) (c s : Nat), c ≤ 600000 → s ≤ 7302250 → V z E 4 c s L f 1468 [(3, .int 0), (2, .ref m), (1, .ref x), (0, .ref b)] []) {Lx Lm : List Nat} {f : Nat → va_E} (hFX : FX E x Lx f) (hFM : FM E m Lm f) : V z E 4 85 18286 (Lx ++ Lm) f 208 [(3, .int 0), (2, .ref m), (1, .ref x), (0, .ref b)] [] := by
  obtain ⟨t, now, im, la, sl, np, ns, nw, nwa, nl, he, wa, tr, ta, tb, lax, nps, npf, nwc, nlk, nlf, nls, gsl, ⟨m_x, e_x⟩, ⟨m_t, e_t⟩, ⟨m_tb, e_tb⟩, ⟨m_im, e_im⟩, ⟨m_la, e_la⟩, ⟨m_sl, e_sl⟩, ⟨m_np, e_np⟩, ⟨m_ns, e_ns⟩, ⟨m_nw, e_nw⟩, ⟨m_nwa, e_nwa⟩, ⟨m_nwc, e_nwc⟩, ⟨m_nl, e_nl⟩, ⟨m_nlk, e_nlk⟩, ⟨m_nlf, e_nlf⟩, ⟨m_nls, e_nls⟩, hB, psl0⟩ := hFX
  obtain ⟨pa, pas, paf, sh, wy, wt, wtc, lo, lok, lof, los, cl, gwy, gcl, ⟨m_now, e_now⟩, ⟨m_pa, e_pa⟩, ⟨m_pas, e_pas⟩, ⟨m_paf, e_paf⟩, ⟨m_sh, e_sh⟩, ⟨m_wy, e_wy⟩, ⟨m_wt, e_wt⟩, ⟨m_wtc, e_wtc⟩, ⟨m_lo, e_lo⟩, ⟨m_lok, e_lok⟩, ⟨m_lof, e_lof⟩, ⟨m_los, e_los⟩, ⟨m_cl, e_cl⟩, pwy0, pcl0⟩ := id hB
  obtain ⟨wo, img, hi, tp, fv, fr, cl0, pl, wd, rd, tr0, co, bi, wl, mn, wi, nu, mv, gmn, ⟨m_m, e_m⟩, ⟨m_wo, e_wo⟩, ⟨m_img, e_img⟩, ⟨m_hi, e_hi⟩, ⟨m_tp, e_tp⟩, ⟨m_fv, e_fv⟩, ⟨m_fr, e_fr⟩, ⟨m_mn, e_mn⟩, ⟨m_wi, e_wi⟩, ⟨m_nu, e_nu⟩, pmn⟩ := hFM
  have pcl : ∀ i : Nat, i < 4 → ∃ q s : Nat, gcl i = some q ∧ q ∈ Lx ∧ f q = ob 1 [.ref s, .int 0] := fun i hi => by
    obtain ⟨q, s, h1, ⟨h2, h3⟩, -⟩ := pcl0 i hi
    exact ⟨q, s, h1, h2, h3⟩
  have pwy : ∀ i : Nat, i < 6 → ∃ q : Nat, gwy i = some q ∧ q ∈ Lx ∧ f q = ob 10 [.int 0, .int 0, .int 1, .int 1, .int 1, .int 0, .int 0] := fun i hi => by
    obtain ⟨q, h1, h2, h3⟩ := pwy0 i hi
    exact ⟨q, h1, h2, h3⟩
  have psl : ∀ i : Nat, i < 4 → ∃ q s : Nat, gsl i = some q ∧ q ∈ Lx ∧ f q = ob 5 [.ref s, .int (-1), .int 0] ∧ s ∈ Lx ∧ f s = aJ E 60 (fun _ => 0) := fun i hi => by
    obtain ⟨q, s, h1, ⟨h2, h3⟩, h4, h5⟩ := psl0 i hi
    exact ⟨q, s, h1, h2, h3, h4, h5⟩
  refine v_aload_n hC dL_law_208 rfl ?_
  refine v_aload_n hC dL_law_209 rfl ?_
  refine v_iload_n hC dL_law_210 rfl ?_
  refine v_iconst hC dL_law_211 (v := 1) (by decide) ?_
  refine v_iadd hC dL_law_212 (v := 1) (by decide) ?_
  refine v_sld hC hX hbl hbA (by unfold vp_in; decide) (v := xs 1) rfl dL_law_213 ?_
  refine v_aload_n hC dL_law_214 rfl ?_
  refine v_iload_n hC dL_law_215 rfl ?_
  refine v_iconst hC dL_law_216 (v := 2) (by decide) ?_
  refine v_iadd hC dL_law_217 (v := 2) (by decide) ?_
  refine v_sld hC hX hbl hbA (by unfold vp_in; decide) (v := xs 2) rfl dL_law_218 ?_
  refine v_aload_n hC dL_law_219 rfl ?_
  refine v_iload_n hC dL_law_220 rfl ?_
  refine v_iconst hC dL_law_221 (v := 3) (by decide) ?_
  refine v_iadd hC dL_law_222 (v := 3) (by decide) ?_
  refine v_sld hC hX hbl hbA (by unfold vp_in; decide) (v := xs 3) rfl dL_law_223 ?_
  refine v_aload_n hC dL_law_224 rfl ?_
  refine v_iload_n hC dL_law_225 rfl ?_
  refine v_iconst hC dL_law_226 (v := 4) (by decide) ?_
  refine v_iadd hC dL_law_227 (v := 4) (by decide) ?_
  refine v_sld hC hX hbl hbA (by unfold vp_in; decide) (v := xs 4) rfl dL_law_228 ?_
  refine v_aload_n hC dL_law_229 rfl ?_
  refine v_iload_n hC dL_law_230 rfl ?_
  refine v_iconst hC dL_law_231 (v := 5) (by decide) ?_
  refine v_iadd hC dL_law_232 (v := 5) (by decide) ?_
  refine v_sld hC hX hbl hbA (by unfold vp_in; decide) (v := xs 5) rfl dL_law_233 ?_
  refine v_viD hC (rest := []) m_x e_x rfl mi_X11_feed ms_X11_feed (x_feed m_x e_x m_t e_t m_tb e_tb) mx_X11_feed ml_L_13 (by decide) rfl (cells1 := 85) (slots1 := 18286) (by decide) (by decide) (Nat.le_of_ble_eq_true rfl) (Nat.le_of_ble_eq_true rfl) rfl (Nat.le_of_ble_eq_true rfl) dL_law_234 (fun r_1 L_2 f_3 h_4 => ?_)
  obtain rfl : (20 : Int32) = r_1 := h_4
  refine v_aload_n hC dL_law_237 rfl ?_
  refine v_aload_n hC dL_law_238 rfl ?_
  refine v_iload_n hC dL_law_239 rfl ?_
  refine v_iconst hC dL_law_240 (v := 1) (by decide) ?_
  refine v_iadd hC dL_law_241 (v := 1) (by decide) ?_
  refine v_sld hC hX hbl hbA (by unfold vp_in; decide) (v := xs 1) rfl dL_law_242 ?_
  refine v_aload_n hC dL_law_243 rfl ?_
  refine v_iload_n hC dL_law_244 rfl ?_
  refine v_iconst hC dL_law_245 (v := 2) (by decide) ?_
  refine v_iadd hC dL_law_246 (v := 2) (by decide) ?_
  refine v_sld hC hX hbl hbA (by unfold vp_in; decide) (v := xs 2) rfl dL_law_247 ?_
  refine v_aload_n hC dL_law_248 rfl ?_
  refine v_iload_n hC dL_law_249 rfl ?_
  refine v_iconst hC dL_law_250 (v := 3) (by decide) ?_
  refine v_iadd hC dL_law_251 (v := 3) (by decide) ?_
  refine v_sld hC hX hbl hbA (by unfold vp_in; decide) (v := xs 3) rfl dL_law_252 ?_
  refine v_aload_n hC dL_law_253 rfl ?_
  refine v_iload_n hC dL_law_254 rfl ?_
  refine v_iconst hC dL_law_255 (v := 4) (by decide) ?_
  refine v_iadd hC dL_law_256 (v := 4) (by decide) ?_
  refine v_sld hC hX hbl hbA (by unfold vp_in; decide) (v := xs 4) rfl dL_law_257 ?_
  refine v_aload_n hC dL_law_258 rfl ?_
  refine v_iload_n hC dL_law_259 rfl ?_
  refine v_iconst hC dL_law_260 (v := 5) (by decide) ?_
  refine v_iadd hC dL_law_261 (v := 5) (by decide) ?_
  refine v_sld hC hX hbl hbA (by unfold vp_in; decide) (v := xs 5) rfl dL_law_262 ?_
  refine v_vi hC (rest := [.int ((20 : Int32))]) m_m e_m rfl mi_X12_feed ms_X12_feed (y_feed m_m e_m m_tp e_tp m_fv e_fv) mx_X12_feed ml_L_17 (by decide) rfl (cells1 := 85) (slots1 := 18286) (by decide) (by decide) (Nat.le_of_ble_eq_true rfl) (Nat.le_of_ble_eq_true rfl) rfl (Nat.le_of_ble_eq_true rfl) dL_law_263 (fun r_5 L_6 f_7 h_8 => ?_)
  obtain rfl : (20 : Int32) = r_5 := h_8
  refine v_icmp_eq_t hC dL_law_266 (tgt := 1468) (by decide) rfl ?_
  exact hT _ _ _ _ (Nat.le_of_ble_eq_true rfl) (Nat.le_of_ble_eq_true rfl)
set_option maxRecDepth 100000 in
set_option maxHeartbeats 4000000 in
theorem lc_1 {z : Cz} {E : Ez} {b x m : Nat} {xs : Nat → Int32} (hC : Cx z E cL_law RL 4 14 600000 7302250) (hX : va_X b 6 xs (zs z) (zs z).heap) (hbl : b < (zs z).heap.size) (hbA : ¬ zA z b) (hT : ∀ (L : List Nat) (f : Nat → va_E) (c s : Nat), c ≤ 600000 → s ≤ 7302250 → V z E 4 c s L f 1468 [(3, .int 0), (2, .ref m), (1, .ref x), (0, .ref b)] []) {Lx Lm : List Nat} {f : Nat → va_E} (hFX : FX E x Lx f) (hFM : FM E m Lm f) : V z E 4 85 18286 (Lx ++ Lm) f 271 [(3, .int 0), (2, .ref m), (1, .ref x), (0, .ref b)] [] := by
  obtain ⟨t, now, im, la, sl, np, ns, nw, nwa, nl, he, wa, tr, ta, tb, lax, nps, npf, nwc, nlk, nlf, nls, gsl, ⟨m_x, e_x⟩, ⟨m_t, e_t⟩, ⟨m_tb, e_tb⟩, ⟨m_im, e_im⟩, ⟨m_la, e_la⟩, ⟨m_sl, e_sl⟩, ⟨m_np, e_np⟩, ⟨m_ns, e_ns⟩, ⟨m_nw, e_nw⟩, ⟨m_nwa, e_nwa⟩, ⟨m_nwc, e_nwc⟩, ⟨m_nl, e_nl⟩, ⟨m_nlk, e_nlk⟩, ⟨m_nlf, e_nlf⟩, ⟨m_nls, e_nls⟩, hB, psl0⟩ := hFX
  obtain ⟨pa, pas, paf, sh, wy, wt, wtc, lo, lok, lof, los, cl, gwy, gcl, ⟨m_now, e_now⟩, ⟨m_pa, e_pa⟩, ⟨m_pas, e_pas⟩, ⟨m_paf, e_paf⟩, ⟨m_sh, e_sh⟩, ⟨m_wy, e_wy⟩, ⟨m_wt, e_wt⟩, ⟨m_wtc, e_wtc⟩, ⟨m_lo, e_lo⟩, ⟨m_lok, e_lok⟩, ⟨m_lof, e_lof⟩, ⟨m_los, e_los⟩, ⟨m_cl, e_cl⟩, pwy0, pcl0⟩ := id hB
  obtain ⟨wo, img, hi, tp, fv, fr, cl0, pl, wd, rd, tr0, co, bi, wl, mn, wi, nu, mv, gmn, ⟨m_m, e_m⟩, ⟨m_wo, e_wo⟩, ⟨m_img, e_img⟩, ⟨m_hi, e_hi⟩, ⟨m_tp, e_tp⟩, ⟨m_fv, e_fv⟩, ⟨m_fr, e_fr⟩, ⟨m_mn, e_mn⟩, ⟨m_wi, e_wi⟩, ⟨m_nu, e_nu⟩, pmn⟩ := hFM
  have pcl : ∀ i : Nat, i < 4 → ∃ q s : Nat, gcl i = some q ∧ q ∈ Lx ∧ f q = ob 1 [.ref s, .int 0] := fun i hi => by
    obtain ⟨q, s, h1, ⟨h2, h3⟩, -⟩ := pcl0 i hi
    exact ⟨q, s, h1, h2, h3⟩
  have pwy : ∀ i : Nat, i < 6 → ∃ q : Nat, gwy i = some q ∧ q ∈ Lx ∧ f q = ob 10 [.int 0, .int 0, .int 1, .int 1, .int 1, .int 0, .int 0] := fun i hi => by
    obtain ⟨q, h1, h2, h3⟩ := pwy0 i hi
    exact ⟨q, h1, h2, h3⟩
  have psl : ∀ i : Nat, i < 4 → ∃ q s : Nat, gsl i = some q ∧ q ∈ Lx ∧ f q = ob 5 [.ref s, .int (-1), .int 0] ∧ s ∈ Lx ∧ f s = aJ E 60 (fun _ => 0) := fun i hi => by
    obtain ⟨q, s, h1, ⟨h2, h3⟩, h4, h5⟩ := psl0 i hi
    exact ⟨q, s, h1, h2, h3, h4, h5⟩
  refine v_aload_n hC dL_law_271 rfl ?_
  refine v_aload_n hC dL_law_272 rfl ?_
  refine v_iload_n hC dL_law_273 rfl ?_
  refine v_iconst hC dL_law_274 (v := 1) (by decide) ?_
  refine v_iadd hC dL_law_275 (v := 1) (by decide) ?_
  refine v_sld hC hX hbl hbA (by unfold vp_in; decide) (v := xs 1) rfl dL_law_276 ?_
  refine v_viD hC (rest := []) m_x e_x rfl mi_X11_end ms_X11_end (x_end m_x e_x m_t e_t) mx_X11_end ml_L_18 (by decide) rfl (cells1 := 85) (slots1 := 18286) (by decide) (by decide) (Nat.le_of_ble_eq_true rfl) (Nat.le_of_ble_eq_true rfl) rfl (Nat.le_of_ble_eq_true rfl) dL_law_277 (fun r_1 L_2 f_3 h_4 => ?_)
  obtain rfl : sp_end (xs 1) = r_1 := h_4
  refine v_aload_n hC dL_law_280 rfl ?_
  refine v_aload_n hC dL_law_281 rfl ?_
  refine v_iload_n hC dL_law_282 rfl ?_
  refine v_iconst hC dL_law_283 (v := 1) (by decide) ?_
  refine v_iadd hC dL_law_284 (v := 1) (by decide) ?_
  refine v_sld hC hX hbl hbA (by unfold vp_in; decide) (v := xs 1) rfl dL_law_285 ?_
  refine v_vi hC (rest := [.int (sp_end (xs 1))]) m_m e_m rfl mi_X12_end ms_X12_end (y_end m_m e_m) mx_X12_end ml_L_22 (by decide) rfl (cells1 := 85) (slots1 := 18286) (by decide) (by decide) (Nat.le_of_ble_eq_true rfl) (Nat.le_of_ble_eq_true rfl) rfl (Nat.le_of_ble_eq_true rfl) dL_law_286 (fun r_5 L_6 f_7 h_8 => ?_)
  obtain rfl : sp_end (xs 1) = r_5 := h_8
  refine v_icmp_eq_t hC dL_law_289 (tgt := 1468) (by decide) rfl ?_
  exact hT _ _ _ _ (Nat.le_of_ble_eq_true rfl) (Nat.le_of_ble_eq_true rfl)
set_option maxRecDepth 100000 in
set_option maxHeartbeats 4000000 in
theorem lc_2 {z : Cz} {E : Ez} {b x m : Nat} {xs : Nat → Int32} (hC : Cx z E cL_law RL 4 14 600000 7302250) (hX : va_X b 6 xs (zs z) (zs z).heap) (hbl : b < (zs z).heap.size) (hbA : ¬ zA z b) (hT : ∀ (L : List Nat) (f : Nat → va_E) (c s : Nat), c ≤ 600000 → s ≤ 7302250 → V z E 4 c s L f 1468 [(3, .int 0), (2, .ref m), (1, .ref x), (0, .ref b)] []) {Lx Lm : List Nat} {f : Nat → va_E} (hFX : FX E x Lx f) (hFM : FM E m Lm f) : V z E 4 85 18286 (Lx ++ Lm) f 294 [(3, .int 0), (2, .ref m), (1, .ref x), (0, .ref b)] [] := by
  obtain ⟨t, now, im, la, sl, np, ns, nw, nwa, nl, he, wa, tr, ta, tb, lax, nps, npf, nwc, nlk, nlf, nls, gsl, ⟨m_x, e_x⟩, ⟨m_t, e_t⟩, ⟨m_tb, e_tb⟩, ⟨m_im, e_im⟩, ⟨m_la, e_la⟩, ⟨m_sl, e_sl⟩, ⟨m_np, e_np⟩, ⟨m_ns, e_ns⟩, ⟨m_nw, e_nw⟩, ⟨m_nwa, e_nwa⟩, ⟨m_nwc, e_nwc⟩, ⟨m_nl, e_nl⟩, ⟨m_nlk, e_nlk⟩, ⟨m_nlf, e_nlf⟩, ⟨m_nls, e_nls⟩, hB, psl0⟩ := hFX
  obtain ⟨pa, pas, paf, sh, wy, wt, wtc, lo, lok, lof, los, cl, gwy, gcl, ⟨m_now, e_now⟩, ⟨m_pa, e_pa⟩, ⟨m_pas, e_pas⟩, ⟨m_paf, e_paf⟩, ⟨m_sh, e_sh⟩, ⟨m_wy, e_wy⟩, ⟨m_wt, e_wt⟩, ⟨m_wtc, e_wtc⟩, ⟨m_lo, e_lo⟩, ⟨m_lok, e_lok⟩, ⟨m_lof, e_lof⟩, ⟨m_los, e_los⟩, ⟨m_cl, e_cl⟩, pwy0, pcl0⟩ := id hB
  obtain ⟨wo, img, hi, tp, fv, fr, cl0, pl, wd, rd, tr0, co, bi, wl, mn, wi, nu, mv, gmn, ⟨m_m, e_m⟩, ⟨m_wo, e_wo⟩, ⟨m_img, e_img⟩, ⟨m_hi, e_hi⟩, ⟨m_tp, e_tp⟩, ⟨m_fv, e_fv⟩, ⟨m_fr, e_fr⟩, ⟨m_mn, e_mn⟩, ⟨m_wi, e_wi⟩, ⟨m_nu, e_nu⟩, pmn⟩ := hFM
  have pcl : ∀ i : Nat, i < 4 → ∃ q s : Nat, gcl i = some q ∧ q ∈ Lx ∧ f q = ob 1 [.ref s, .int 0] := fun i hi => by
    obtain ⟨q, s, h1, ⟨h2, h3⟩, -⟩ := pcl0 i hi
    exact ⟨q, s, h1, h2, h3⟩
  have pwy : ∀ i : Nat, i < 6 → ∃ q : Nat, gwy i = some q ∧ q ∈ Lx ∧ f q = ob 10 [.int 0, .int 0, .int 1, .int 1, .int 1, .int 0, .int 0] := fun i hi => by
    obtain ⟨q, h1, h2, h3⟩ := pwy0 i hi
    exact ⟨q, h1, h2, h3⟩
  have psl : ∀ i : Nat, i < 4 → ∃ q s : Nat, gsl i = some q ∧ q ∈ Lx ∧ f q = ob 5 [.ref s, .int (-1), .int 0] ∧ s ∈ Lx ∧ f s = aJ E 60 (fun _ => 0) := fun i hi => by
    obtain ⟨q, s, h1, ⟨h2, h3⟩, h4, h5⟩ := psl0 i hi
    exact ⟨q, s, h1, h2, h3, h4, h5⟩
  refine v_aload_n hC dL_law_294 rfl ?_
  refine v_viD hC (rest := []) m_x e_x rfl mi_X11_pattern ms_X11_pattern (x_pattern m_x e_x m_t e_t m_np e_np) mx_X11_pattern ml_L_23 (by decide) rfl (cells1 := 85) (slots1 := 18286) (by decide) (by decide) (Nat.le_of_ble_eq_true rfl) (Nat.le_of_ble_eq_true rfl) rfl (Nat.le_of_ble_eq_true rfl) dL_law_295 (fun r_1 L_2 f_3 h_4 => ?_)
  obtain rfl : (-4 : Int32) = r_1 := h_4
  refine v_aload_n hC dL_law_298 rfl ?_
  refine v_vi hC (rest := [.int ((-4 : Int32))]) m_m e_m rfl mi_X12_pattern ms_X12_pattern (y_pattern m_m e_m m_fr e_fr) mx_X12_pattern ml_L_27 (by decide) rfl (cells1 := 85) (slots1 := 18286) (by decide) (by decide) (Nat.le_of_ble_eq_true rfl) (Nat.le_of_ble_eq_true rfl) rfl (Nat.le_of_ble_eq_true rfl) dL_law_299 (fun r_5 L_6 f_7 h_8 => ?_)
  obtain rfl : (-4 : Int32) = r_5 := h_8
  refine v_icmp_eq_t hC dL_law_302 (tgt := 1468) (by decide) rfl ?_
  exact hT _ _ _ _ (Nat.le_of_ble_eq_true rfl) (Nat.le_of_ble_eq_true rfl)
set_option maxRecDepth 100000 in
set_option maxHeartbeats 4000000 in
theorem lc_3 {z : Cz} {E : Ez} {b x m : Nat} {xs : Nat → Int32} (hC : Cx z E cL_law RL 4 14 600000 7302250) (hX : va_X b 6 xs (zs z) (zs z).heap) (hbl : b < (zs z).heap.size) (hbA : ¬ zA z b) (hT : ∀ (L : List Nat) (f : Nat → va_E) (c s : Nat), c ≤ 600000 → s ≤ 7302250 → V z E 4 c s L f 1468 [(3, .int 0), (2, .ref m), (1, .ref x), (0, .ref b)] []) {Lx Lm : List Nat} {f : Nat → va_E} (hFX : FX E x Lx f) (hFM : FM E m Lm f) : V z E 4 85 18286 (Lx ++ Lm) f 307 [(3, .int 0), (2, .ref m), (1, .ref x), (0, .ref b)] [] := by
  obtain ⟨t, now, im, la, sl, np, ns, nw, nwa, nl, he, wa, tr, ta, tb, lax, nps, npf, nwc, nlk, nlf, nls, gsl, ⟨m_x, e_x⟩, ⟨m_t, e_t⟩, ⟨m_tb, e_tb⟩, ⟨m_im, e_im⟩, ⟨m_la, e_la⟩, ⟨m_sl, e_sl⟩, ⟨m_np, e_np⟩, ⟨m_ns, e_ns⟩, ⟨m_nw, e_nw⟩, ⟨m_nwa, e_nwa⟩, ⟨m_nwc, e_nwc⟩, ⟨m_nl, e_nl⟩, ⟨m_nlk, e_nlk⟩, ⟨m_nlf, e_nlf⟩, ⟨m_nls, e_nls⟩, hB, psl0⟩ := hFX
  obtain ⟨pa, pas, paf, sh, wy, wt, wtc, lo, lok, lof, los, cl, gwy, gcl, ⟨m_now, e_now⟩, ⟨m_pa, e_pa⟩, ⟨m_pas, e_pas⟩, ⟨m_paf, e_paf⟩, ⟨m_sh, e_sh⟩, ⟨m_wy, e_wy⟩, ⟨m_wt, e_wt⟩, ⟨m_wtc, e_wtc⟩, ⟨m_lo, e_lo⟩, ⟨m_lok, e_lok⟩, ⟨m_lof, e_lof⟩, ⟨m_los, e_los⟩, ⟨m_cl, e_cl⟩, pwy0, pcl0⟩ := id hB
  obtain ⟨wo, img, hi, tp, fv, fr, cl0, pl, wd, rd, tr0, co, bi, wl, mn, wi, nu, mv, gmn, ⟨m_m, e_m⟩, ⟨m_wo, e_wo⟩, ⟨m_img, e_img⟩, ⟨m_hi, e_hi⟩, ⟨m_tp, e_tp⟩, ⟨m_fv, e_fv⟩, ⟨m_fr, e_fr⟩, ⟨m_mn, e_mn⟩, ⟨m_wi, e_wi⟩, ⟨m_nu, e_nu⟩, pmn⟩ := hFM
  have pcl : ∀ i : Nat, i < 4 → ∃ q s : Nat, gcl i = some q ∧ q ∈ Lx ∧ f q = ob 1 [.ref s, .int 0] := fun i hi => by
    obtain ⟨q, s, h1, ⟨h2, h3⟩, -⟩ := pcl0 i hi
    exact ⟨q, s, h1, h2, h3⟩
  have pwy : ∀ i : Nat, i < 6 → ∃ q : Nat, gwy i = some q ∧ q ∈ Lx ∧ f q = ob 10 [.int 0, .int 0, .int 1, .int 1, .int 1, .int 0, .int 0] := fun i hi => by
    obtain ⟨q, h1, h2, h3⟩ := pwy0 i hi
    exact ⟨q, h1, h2, h3⟩
  have psl : ∀ i : Nat, i < 4 → ∃ q s : Nat, gsl i = some q ∧ q ∈ Lx ∧ f q = ob 5 [.ref s, .int (-1), .int 0] ∧ s ∈ Lx ∧ f s = aJ E 60 (fun _ => 0) := fun i hi => by
    obtain ⟨q, s, h1, ⟨h2, h3⟩, h4, h5⟩ := psl0 i hi
    exact ⟨q, s, h1, h2, h3, h4, h5⟩
  refine v_aload_n hC dL_law_307 rfl ?_
  refine v_viD hC (rest := []) m_x e_x rfl mi_X11_hand ms_X11_hand (x_hand m_x e_x m_t e_t m_ns e_ns) mx_X11_hand ml_L_28 (by decide) rfl (cells1 := 85) (slots1 := 18286) (by decide) (by decide) (Nat.le_of_ble_eq_true rfl) (Nat.le_of_ble_eq_true rfl) rfl (Nat.le_of_ble_eq_true rfl) dL_law_308 (fun r_1 L_2 f_3 h_4 => ?_)
  obtain rfl : (-4 : Int32) = r_1 := h_4
  refine v_aload_n hC dL_law_311 rfl ?_
  refine v_vi hC (rest := [.int ((-4 : Int32))]) m_m e_m rfl mi_X12_hand ms_X12_hand (y_hand m_m e_m m_fr e_fr) mx_X12_hand ml_L_31 (by decide) rfl (cells1 := 85) (slots1 := 18286) (by decide) (by decide) (Nat.le_of_ble_eq_true rfl) (Nat.le_of_ble_eq_true rfl) rfl (Nat.le_of_ble_eq_true rfl) dL_law_312 (fun r_5 L_6 f_7 h_8 => ?_)
  obtain rfl : (-4 : Int32) = r_5 := h_8
  refine v_icmp_eq_t hC dL_law_315 (tgt := 1468) (by decide) rfl ?_
  exact hT _ _ _ _ (Nat.le_of_ble_eq_true rfl) (Nat.le_of_ble_eq_true rfl)
set_option maxRecDepth 100000 in
set_option maxHeartbeats 4000000 in
theorem lc_4 {z : Cz} {E : Ez} {b x m : Nat} {xs : Nat → Int32} (hC : Cx z E cL_law RL 4 14 600000 7302250) (hX : va_X b 6 xs (zs z) (zs z).heap) (hbl : b < (zs z).heap.size) (hbA : ¬ zA z b) (hT : ∀ (L : List Nat) (f : Nat → va_E) (c s : Nat), c ≤ 600000 → s ≤ 7302250 → V z E 4 c s L f 1468 [(3, .int 0), (2, .ref m), (1, .ref x), (0, .ref b)] []) {Lx Lm : List Nat} {f : Nat → va_E} (hFX : FX E x Lx f) (hFM : FM E m Lm f) : V z E 4 85 18286 (Lx ++ Lm) f 320 [(3, .int 0), (2, .ref m), (1, .ref x), (0, .ref b)] [] := by
  obtain ⟨t, now, im, la, sl, np, ns, nw, nwa, nl, he, wa, tr, ta, tb, lax, nps, npf, nwc, nlk, nlf, nls, gsl, ⟨m_x, e_x⟩, ⟨m_t, e_t⟩, ⟨m_tb, e_tb⟩, ⟨m_im, e_im⟩, ⟨m_la, e_la⟩, ⟨m_sl, e_sl⟩, ⟨m_np, e_np⟩, ⟨m_ns, e_ns⟩, ⟨m_nw, e_nw⟩, ⟨m_nwa, e_nwa⟩, ⟨m_nwc, e_nwc⟩, ⟨m_nl, e_nl⟩, ⟨m_nlk, e_nlk⟩, ⟨m_nlf, e_nlf⟩, ⟨m_nls, e_nls⟩, hB, psl0⟩ := hFX
  obtain ⟨pa, pas, paf, sh, wy, wt, wtc, lo, lok, lof, los, cl, gwy, gcl, ⟨m_now, e_now⟩, ⟨m_pa, e_pa⟩, ⟨m_pas, e_pas⟩, ⟨m_paf, e_paf⟩, ⟨m_sh, e_sh⟩, ⟨m_wy, e_wy⟩, ⟨m_wt, e_wt⟩, ⟨m_wtc, e_wtc⟩, ⟨m_lo, e_lo⟩, ⟨m_lok, e_lok⟩, ⟨m_lof, e_lof⟩, ⟨m_los, e_los⟩, ⟨m_cl, e_cl⟩, pwy0, pcl0⟩ := id hB
  obtain ⟨wo, img, hi, tp, fv, fr, cl0, pl, wd, rd, tr0, co, bi, wl, mn, wi, nu, mv, gmn, ⟨m_m, e_m⟩, ⟨m_wo, e_wo⟩, ⟨m_img, e_img⟩, ⟨m_hi, e_hi⟩, ⟨m_tp, e_tp⟩, ⟨m_fv, e_fv⟩, ⟨m_fr, e_fr⟩, ⟨m_mn, e_mn⟩, ⟨m_wi, e_wi⟩, ⟨m_nu, e_nu⟩, pmn⟩ := hFM
  have pcl : ∀ i : Nat, i < 4 → ∃ q s : Nat, gcl i = some q ∧ q ∈ Lx ∧ f q = ob 1 [.ref s, .int 0] := fun i hi => by
    obtain ⟨q, s, h1, ⟨h2, h3⟩, -⟩ := pcl0 i hi
    exact ⟨q, s, h1, h2, h3⟩
  have pwy : ∀ i : Nat, i < 6 → ∃ q : Nat, gwy i = some q ∧ q ∈ Lx ∧ f q = ob 10 [.int 0, .int 0, .int 1, .int 1, .int 1, .int 0, .int 0] := fun i hi => by
    obtain ⟨q, h1, h2, h3⟩ := pwy0 i hi
    exact ⟨q, h1, h2, h3⟩
  have psl : ∀ i : Nat, i < 4 → ∃ q s : Nat, gsl i = some q ∧ q ∈ Lx ∧ f q = ob 5 [.ref s, .int (-1), .int 0] ∧ s ∈ Lx ∧ f s = aJ E 60 (fun _ => 0) := fun i hi => by
    obtain ⟨q, s, h1, ⟨h2, h3⟩, h4, h5⟩ := psl0 i hi
    exact ⟨q, s, h1, h2, h3, h4, h5⟩
  refine v_aload_n hC dL_law_320 rfl ?_
  refine v_aload_n hC dL_law_321 rfl ?_
  refine v_iload_n hC dL_law_322 rfl ?_
  refine v_iconst hC dL_law_323 (v := 1) (by decide) ?_
  refine v_iadd hC dL_law_324 (v := 1) (by decide) ?_
  refine v_sld hC hX hbl hbA (by unfold vp_in; decide) (v := xs 1) rfl dL_law_325 ?_
  refine v_viD hC (rest := []) m_x e_x rfl mi_X11_way ms_X11_way (x_way m_x e_x m_t e_t m_nw e_nw) mx_X11_way ml_L_32 (by decide) rfl (cells1 := 85) (slots1 := 18286) (by decide) (by decide) (Nat.le_of_ble_eq_true rfl) (Nat.le_of_ble_eq_true rfl) rfl (Nat.le_of_ble_eq_true rfl) dL_law_326 (fun r_1 L_2 f_3 h_4 => ?_)
  obtain rfl : sp_way (xs 1) = r_1 := h_4
  refine v_aload_n hC dL_law_329 rfl ?_
  refine v_aload_n hC dL_law_330 rfl ?_
  refine v_iload_n hC dL_law_331 rfl ?_
  refine v_iconst hC dL_law_332 (v := 1) (by decide) ?_
  refine v_iadd hC dL_law_333 (v := 1) (by decide) ?_
  refine v_sld hC hX hbl hbA (by unfold vp_in; decide) (v := xs 1) rfl dL_law_334 ?_
  refine v_vi hC (rest := [.int (sp_way (xs 1))]) m_m e_m rfl mi_X12_way ms_X12_way (y_way m_m e_m m_fr e_fr) mx_X12_way ml_L_35 (by decide) rfl (cells1 := 85) (slots1 := 18286) (by decide) (by decide) (Nat.le_of_ble_eq_true rfl) (Nat.le_of_ble_eq_true rfl) rfl (Nat.le_of_ble_eq_true rfl) dL_law_335 (fun r_5 L_6 f_7 h_8 => ?_)
  obtain rfl : sp_way (xs 1) = r_5 := h_8
  refine v_icmp_eq_t hC dL_law_338 (tgt := 1468) (by decide) rfl ?_
  exact hT _ _ _ _ (Nat.le_of_ble_eq_true rfl) (Nat.le_of_ble_eq_true rfl)
set_option maxRecDepth 100000 in
set_option maxHeartbeats 4000000 in
theorem lc_5 {z : Cz} {E : Ez} {b x m : Nat} {xs : Nat → Int32} (hC : Cx z E cL_law RL 4 14 600000 7302250) (hX : va_X b 6 xs (zs z) (zs z).heap) (hbl : b < (zs z).heap.size) (hbA : ¬ zA z b) (hT : ∀ (L : List Nat) (f : Nat → va_E) (c s : Nat), c ≤ 600000 → s ≤ 7302250 → V z E 4 c s L f 1468 [(3, .int 0), (2, .ref m), (1, .ref x), (0, .ref b)] []) {Lx Lm : List Nat} {f : Nat → va_E} (hFX : FX E x Lx f) (hFM : FM E m Lm f) : V z E 4 85 18286 (Lx ++ Lm) f 343 [(3, .int 0), (2, .ref m), (1, .ref x), (0, .ref b)] [] := by
  obtain ⟨t, now, im, la, sl, np, ns, nw, nwa, nl, he, wa, tr, ta, tb, lax, nps, npf, nwc, nlk, nlf, nls, gsl, ⟨m_x, e_x⟩, ⟨m_t, e_t⟩, ⟨m_tb, e_tb⟩, ⟨m_im, e_im⟩, ⟨m_la, e_la⟩, ⟨m_sl, e_sl⟩, ⟨m_np, e_np⟩, ⟨m_ns, e_ns⟩, ⟨m_nw, e_nw⟩, ⟨m_nwa, e_nwa⟩, ⟨m_nwc, e_nwc⟩, ⟨m_nl, e_nl⟩, ⟨m_nlk, e_nlk⟩, ⟨m_nlf, e_nlf⟩, ⟨m_nls, e_nls⟩, hB, psl0⟩ := hFX
  obtain ⟨pa, pas, paf, sh, wy, wt, wtc, lo, lok, lof, los, cl, gwy, gcl, ⟨m_now, e_now⟩, ⟨m_pa, e_pa⟩, ⟨m_pas, e_pas⟩, ⟨m_paf, e_paf⟩, ⟨m_sh, e_sh⟩, ⟨m_wy, e_wy⟩, ⟨m_wt, e_wt⟩, ⟨m_wtc, e_wtc⟩, ⟨m_lo, e_lo⟩, ⟨m_lok, e_lok⟩, ⟨m_lof, e_lof⟩, ⟨m_los, e_los⟩, ⟨m_cl, e_cl⟩, pwy0, pcl0⟩ := id hB
  obtain ⟨wo, img, hi, tp, fv, fr, cl0, pl, wd, rd, tr0, co, bi, wl, mn, wi, nu, mv, gmn, ⟨m_m, e_m⟩, ⟨m_wo, e_wo⟩, ⟨m_img, e_img⟩, ⟨m_hi, e_hi⟩, ⟨m_tp, e_tp⟩, ⟨m_fv, e_fv⟩, ⟨m_fr, e_fr⟩, ⟨m_mn, e_mn⟩, ⟨m_wi, e_wi⟩, ⟨m_nu, e_nu⟩, pmn⟩ := hFM
  have pcl : ∀ i : Nat, i < 4 → ∃ q s : Nat, gcl i = some q ∧ q ∈ Lx ∧ f q = ob 1 [.ref s, .int 0] := fun i hi => by
    obtain ⟨q, s, h1, ⟨h2, h3⟩, -⟩ := pcl0 i hi
    exact ⟨q, s, h1, h2, h3⟩
  have pwy : ∀ i : Nat, i < 6 → ∃ q : Nat, gwy i = some q ∧ q ∈ Lx ∧ f q = ob 10 [.int 0, .int 0, .int 1, .int 1, .int 1, .int 0, .int 0] := fun i hi => by
    obtain ⟨q, h1, h2, h3⟩ := pwy0 i hi
    exact ⟨q, h1, h2, h3⟩
  have psl : ∀ i : Nat, i < 4 → ∃ q s : Nat, gsl i = some q ∧ q ∈ Lx ∧ f q = ob 5 [.ref s, .int (-1), .int 0] ∧ s ∈ Lx ∧ f s = aJ E 60 (fun _ => 0) := fun i hi => by
    obtain ⟨q, s, h1, ⟨h2, h3⟩, h4, h5⟩ := psl0 i hi
    exact ⟨q, s, h1, h2, h3, h4, h5⟩
  refine v_aload_n hC dL_law_343 rfl ?_
  refine v_viD hC (rest := []) m_x e_x rfl mi_X11_watcher ms_X11_watcher (x_watcher m_x e_x m_now e_now m_t e_t m_wt e_wt m_nwa e_nwa m_wtc e_wtc m_nwc e_nwc) mx_X11_watcher ml_L_36 (by decide) rfl (cells1 := 85) (slots1 := 18286) (by decide) (by decide) (Nat.le_of_ble_eq_true rfl) (Nat.le_of_ble_eq_true rfl) rfl (Nat.le_of_ble_eq_true rfl) dL_law_344 (fun r_1 L_2 f_3 h_4 => ?_)
  obtain rfl : (0 : Int32) = r_1 := h_4
  refine v_aload_n hC dL_law_347 rfl ?_
  refine v_vi hC (rest := [.int ((0 : Int32))]) m_m e_m rfl mi_X12_watcher ms_X12_watcher (y_watcher m_m e_m m_wo e_wo m_fr e_fr) mx_X12_watcher ml_L_39 (by decide) rfl (cells1 := 85) (slots1 := 18286) (by decide) (by decide) (Nat.le_of_ble_eq_true rfl) (Nat.le_of_ble_eq_true rfl) rfl (Nat.le_of_ble_eq_true rfl) dL_law_348 (fun r_5 L_6 f_7 h_8 => ?_)
  obtain rfl : (0 : Int32) = r_5 := h_8
  refine v_icmp_eq_t hC dL_law_351 (tgt := 1468) (by decide) rfl ?_
  exact hT _ _ _ _ (Nat.le_of_ble_eq_true rfl) (Nat.le_of_ble_eq_true rfl)
set_option maxRecDepth 100000 in
set_option maxHeartbeats 4000000 in
theorem lc_6 {z : Cz} {E : Ez} {b x m : Nat} {xs : Nat → Int32} (hC : Cx z E cL_law RL 4 14 600000 7302250) (hX : va_X b 6 xs (zs z) (zs z).heap) (hbl : b < (zs z).heap.size) (hbA : ¬ zA z b) (hT : ∀ (L : List Nat) (f : Nat → va_E) (c s : Nat), c ≤ 600000 → s ≤ 7302250 → V z E 4 c s L f 1468 [(3, .int 0), (2, .ref m), (1, .ref x), (0, .ref b)] []) {Lx Lm : List Nat} {f : Nat → va_E} (hFX : FX E x Lx f) (hFM : FM E m Lm f) : V z E 4 85 18286 (Lx ++ Lm) f 356 [(3, .int 0), (2, .ref m), (1, .ref x), (0, .ref b)] [] := by
  obtain ⟨t, now, im, la, sl, np, ns, nw, nwa, nl, he, wa, tr, ta, tb, lax, nps, npf, nwc, nlk, nlf, nls, gsl, ⟨m_x, e_x⟩, ⟨m_t, e_t⟩, ⟨m_tb, e_tb⟩, ⟨m_im, e_im⟩, ⟨m_la, e_la⟩, ⟨m_sl, e_sl⟩, ⟨m_np, e_np⟩, ⟨m_ns, e_ns⟩, ⟨m_nw, e_nw⟩, ⟨m_nwa, e_nwa⟩, ⟨m_nwc, e_nwc⟩, ⟨m_nl, e_nl⟩, ⟨m_nlk, e_nlk⟩, ⟨m_nlf, e_nlf⟩, ⟨m_nls, e_nls⟩, hB, psl0⟩ := hFX
  obtain ⟨pa, pas, paf, sh, wy, wt, wtc, lo, lok, lof, los, cl, gwy, gcl, ⟨m_now, e_now⟩, ⟨m_pa, e_pa⟩, ⟨m_pas, e_pas⟩, ⟨m_paf, e_paf⟩, ⟨m_sh, e_sh⟩, ⟨m_wy, e_wy⟩, ⟨m_wt, e_wt⟩, ⟨m_wtc, e_wtc⟩, ⟨m_lo, e_lo⟩, ⟨m_lok, e_lok⟩, ⟨m_lof, e_lof⟩, ⟨m_los, e_los⟩, ⟨m_cl, e_cl⟩, pwy0, pcl0⟩ := id hB
  obtain ⟨wo, img, hi, tp, fv, fr, cl0, pl, wd, rd, tr0, co, bi, wl, mn, wi, nu, mv, gmn, ⟨m_m, e_m⟩, ⟨m_wo, e_wo⟩, ⟨m_img, e_img⟩, ⟨m_hi, e_hi⟩, ⟨m_tp, e_tp⟩, ⟨m_fv, e_fv⟩, ⟨m_fr, e_fr⟩, ⟨m_mn, e_mn⟩, ⟨m_wi, e_wi⟩, ⟨m_nu, e_nu⟩, pmn⟩ := hFM
  have pcl : ∀ i : Nat, i < 4 → ∃ q s : Nat, gcl i = some q ∧ q ∈ Lx ∧ f q = ob 1 [.ref s, .int 0] := fun i hi => by
    obtain ⟨q, s, h1, ⟨h2, h3⟩, -⟩ := pcl0 i hi
    exact ⟨q, s, h1, h2, h3⟩
  have pwy : ∀ i : Nat, i < 6 → ∃ q : Nat, gwy i = some q ∧ q ∈ Lx ∧ f q = ob 10 [.int 0, .int 0, .int 1, .int 1, .int 1, .int 0, .int 0] := fun i hi => by
    obtain ⟨q, h1, h2, h3⟩ := pwy0 i hi
    exact ⟨q, h1, h2, h3⟩
  have psl : ∀ i : Nat, i < 4 → ∃ q s : Nat, gsl i = some q ∧ q ∈ Lx ∧ f q = ob 5 [.ref s, .int (-1), .int 0] ∧ s ∈ Lx ∧ f s = aJ E 60 (fun _ => 0) := fun i hi => by
    obtain ⟨q, s, h1, ⟨h2, h3⟩, h4, h5⟩ := psl0 i hi
    exact ⟨q, s, h1, h2, h3, h4, h5⟩
  refine v_aload_n hC dL_law_356 rfl ?_
  refine v_viD hC (rest := []) m_x e_x rfl mi_X11_losses ms_X11_losses (x_losses m_x e_x m_now e_now m_t e_t m_lo e_lo m_nl e_nl m_lok e_lok m_lof e_lof m_los e_los m_nlk e_nlk m_nlf e_nlf m_nls e_nls) mx_X11_losses ml_L_40 (by decide) rfl (cells1 := 85) (slots1 := 18286) (by decide) (by decide) (Nat.le_of_ble_eq_true rfl) (Nat.le_of_ble_eq_true rfl) rfl (Nat.le_of_ble_eq_true rfl) dL_law_357 (fun r_1 L_2 f_3 h_4 => ?_)
  obtain rfl : (0 : Int32) = r_1 := h_4
  refine v_aload_n hC dL_law_360 rfl ?_
  refine v_vi hC (rest := [.int ((0 : Int32))]) m_m e_m rfl mi_X12_losses ms_X12_losses (y_losses m_m e_m m_wo e_wo m_fr e_fr) mx_X12_losses ml_L_43 (by decide) rfl (cells1 := 85) (slots1 := 18286) (by decide) (by decide) (Nat.le_of_ble_eq_true rfl) (Nat.le_of_ble_eq_true rfl) rfl (Nat.le_of_ble_eq_true rfl) dL_law_361 (fun r_5 L_6 f_7 h_8 => ?_)
  obtain rfl : (0 : Int32) = r_5 := h_8
  refine v_icmp_eq_t hC dL_law_364 (tgt := 1468) (by decide) rfl ?_
  exact hT _ _ _ _ (Nat.le_of_ble_eq_true rfl) (Nat.le_of_ble_eq_true rfl)
set_option maxRecDepth 100000 in
set_option maxHeartbeats 4000000 in
theorem lc_7 {z : Cz} {E : Ez} {b x m : Nat} {xs : Nat → Int32} (hC : Cx z E cL_law RL 4 14 600000 7302250) (hX : va_X b 6 xs (zs z) (zs z).heap) (hbl : b < (zs z).heap.size) (hbA : ¬ zA z b) (hT : ∀ (L : List Nat) (f : Nat → va_E) (c s : Nat), c ≤ 600000 → s ≤ 7302250 → V z E 4 c s L f 1468 [(3, .int 0), (2, .ref m), (1, .ref x), (0, .ref b)] []) {Lx Lm : List Nat} {f : Nat → va_E} (hFX : FX E x Lx f) (hFM : FM E m Lm f) : V z E 4 85 18286 (Lx ++ Lm) f 369 [(3, .int 0), (2, .ref m), (1, .ref x), (0, .ref b)] [] := by
  obtain ⟨t, now, im, la, sl, np, ns, nw, nwa, nl, he, wa, tr, ta, tb, lax, nps, npf, nwc, nlk, nlf, nls, gsl, ⟨m_x, e_x⟩, ⟨m_t, e_t⟩, ⟨m_tb, e_tb⟩, ⟨m_im, e_im⟩, ⟨m_la, e_la⟩, ⟨m_sl, e_sl⟩, ⟨m_np, e_np⟩, ⟨m_ns, e_ns⟩, ⟨m_nw, e_nw⟩, ⟨m_nwa, e_nwa⟩, ⟨m_nwc, e_nwc⟩, ⟨m_nl, e_nl⟩, ⟨m_nlk, e_nlk⟩, ⟨m_nlf, e_nlf⟩, ⟨m_nls, e_nls⟩, hB, psl0⟩ := hFX
  obtain ⟨pa, pas, paf, sh, wy, wt, wtc, lo, lok, lof, los, cl, gwy, gcl, ⟨m_now, e_now⟩, ⟨m_pa, e_pa⟩, ⟨m_pas, e_pas⟩, ⟨m_paf, e_paf⟩, ⟨m_sh, e_sh⟩, ⟨m_wy, e_wy⟩, ⟨m_wt, e_wt⟩, ⟨m_wtc, e_wtc⟩, ⟨m_lo, e_lo⟩, ⟨m_lok, e_lok⟩, ⟨m_lof, e_lof⟩, ⟨m_los, e_los⟩, ⟨m_cl, e_cl⟩, pwy0, pcl0⟩ := id hB
  obtain ⟨wo, img, hi, tp, fv, fr, cl0, pl, wd, rd, tr0, co, bi, wl, mn, wi, nu, mv, gmn, ⟨m_m, e_m⟩, ⟨m_wo, e_wo⟩, ⟨m_img, e_img⟩, ⟨m_hi, e_hi⟩, ⟨m_tp, e_tp⟩, ⟨m_fv, e_fv⟩, ⟨m_fr, e_fr⟩, ⟨m_mn, e_mn⟩, ⟨m_wi, e_wi⟩, ⟨m_nu, e_nu⟩, pmn⟩ := hFM
  have pcl : ∀ i : Nat, i < 4 → ∃ q s : Nat, gcl i = some q ∧ q ∈ Lx ∧ f q = ob 1 [.ref s, .int 0] := fun i hi => by
    obtain ⟨q, s, h1, ⟨h2, h3⟩, -⟩ := pcl0 i hi
    exact ⟨q, s, h1, h2, h3⟩
  have pwy : ∀ i : Nat, i < 6 → ∃ q : Nat, gwy i = some q ∧ q ∈ Lx ∧ f q = ob 10 [.int 0, .int 0, .int 1, .int 1, .int 1, .int 0, .int 0] := fun i hi => by
    obtain ⟨q, h1, h2, h3⟩ := pwy0 i hi
    exact ⟨q, h1, h2, h3⟩
  have psl : ∀ i : Nat, i < 4 → ∃ q s : Nat, gsl i = some q ∧ q ∈ Lx ∧ f q = ob 5 [.ref s, .int (-1), .int 0] ∧ s ∈ Lx ∧ f s = aJ E 60 (fun _ => 0) := fun i hi => by
    obtain ⟨q, s, h1, ⟨h2, h3⟩, h4, h5⟩ := psl0 i hi
    exact ⟨q, s, h1, h2, h3, h4, h5⟩
  refine v_aload_n hC dL_law_369 rfl ?_
  refine v_aload_n hC dL_law_370 rfl ?_
  refine v_iload_n hC dL_law_371 rfl ?_
  refine v_iconst hC dL_law_372 (v := 1) (by decide) ?_
  refine v_iadd hC dL_law_373 (v := 1) (by decide) ?_
  refine v_sld hC hX hbl hbA (by unfold vp_in; decide) (v := xs 1) rfl dL_law_374 ?_
  refine v_viD hC (rest := []) m_x e_x rfl mi_X11_fault ms_X11_fault (x_fault m_x e_x m_t e_t) mx_X11_fault ml_L_44 (by decide) rfl (cells1 := 85) (slots1 := 18286) (by decide) (by decide) (Nat.le_of_ble_eq_true rfl) (Nat.le_of_ble_eq_true rfl) rfl (Nat.le_of_ble_eq_true rfl) dL_law_375 (fun r_1 L_2 f_3 h_4 => ?_)
  obtain rfl : sp_fault (xs 1) = r_1 := h_4
  refine v_aload_n hC dL_law_378 rfl ?_
  refine v_aload_n hC dL_law_379 rfl ?_
  refine v_iload_n hC dL_law_380 rfl ?_
  refine v_iconst hC dL_law_381 (v := 1) (by decide) ?_
  refine v_iadd hC dL_law_382 (v := 1) (by decide) ?_
  refine v_sld hC hX hbl hbA (by unfold vp_in; decide) (v := xs 1) rfl dL_law_383 ?_
  refine v_vi hC (rest := [.int (sp_fault (xs 1))]) m_m e_m rfl mi_X12_fault ms_X12_fault (y_fault m_m e_m) mx_X12_fault ml_L_47 (by decide) rfl (cells1 := 85) (slots1 := 18286) (by decide) (by decide) (Nat.le_of_ble_eq_true rfl) (Nat.le_of_ble_eq_true rfl) rfl (Nat.le_of_ble_eq_true rfl) dL_law_384 (fun r_5 L_6 f_7 h_8 => ?_)
  obtain rfl : sp_fault (xs 1) = r_5 := h_8
  refine v_icmp_eq_t hC dL_law_387 (tgt := 1468) (by decide) rfl ?_
  exact hT _ _ _ _ (Nat.le_of_ble_eq_true rfl) (Nat.le_of_ble_eq_true rfl)
set_option maxRecDepth 100000 in
set_option maxHeartbeats 4000000 in
theorem lc_8 {z : Cz} {E : Ez} {b x m : Nat} {xs : Nat → Int32} (hC : Cx z E cL_law RL 4 14 600000 7302250) (hX : va_X b 6 xs (zs z) (zs z).heap) (hbl : b < (zs z).heap.size) (hbA : ¬ zA z b) (hT : ∀ (L : List Nat) (f : Nat → va_E) (c s : Nat), c ≤ 600000 → s ≤ 7302250 → V z E 4 c s L f 1468 [(3, .int 0), (2, .ref m), (1, .ref x), (0, .ref b)] []) {Lx Lm : List Nat} {f : Nat → va_E} (hFX : FX E x Lx f) (hFM : FM E m Lm f) : V z E 4 85 18286 (Lx ++ Lm) f 392 [(3, .int 0), (2, .ref m), (1, .ref x), (0, .ref b)] [] := by
  obtain ⟨t, now, im, la, sl, np, ns, nw, nwa, nl, he, wa, tr, ta, tb, lax, nps, npf, nwc, nlk, nlf, nls, gsl, ⟨m_x, e_x⟩, ⟨m_t, e_t⟩, ⟨m_tb, e_tb⟩, ⟨m_im, e_im⟩, ⟨m_la, e_la⟩, ⟨m_sl, e_sl⟩, ⟨m_np, e_np⟩, ⟨m_ns, e_ns⟩, ⟨m_nw, e_nw⟩, ⟨m_nwa, e_nwa⟩, ⟨m_nwc, e_nwc⟩, ⟨m_nl, e_nl⟩, ⟨m_nlk, e_nlk⟩, ⟨m_nlf, e_nlf⟩, ⟨m_nls, e_nls⟩, hB, psl0⟩ := hFX
  obtain ⟨pa, pas, paf, sh, wy, wt, wtc, lo, lok, lof, los, cl, gwy, gcl, ⟨m_now, e_now⟩, ⟨m_pa, e_pa⟩, ⟨m_pas, e_pas⟩, ⟨m_paf, e_paf⟩, ⟨m_sh, e_sh⟩, ⟨m_wy, e_wy⟩, ⟨m_wt, e_wt⟩, ⟨m_wtc, e_wtc⟩, ⟨m_lo, e_lo⟩, ⟨m_lok, e_lok⟩, ⟨m_lof, e_lof⟩, ⟨m_los, e_los⟩, ⟨m_cl, e_cl⟩, pwy0, pcl0⟩ := id hB
  obtain ⟨wo, img, hi, tp, fv, fr, cl0, pl, wd, rd, tr0, co, bi, wl, mn, wi, nu, mv, gmn, ⟨m_m, e_m⟩, ⟨m_wo, e_wo⟩, ⟨m_img, e_img⟩, ⟨m_hi, e_hi⟩, ⟨m_tp, e_tp⟩, ⟨m_fv, e_fv⟩, ⟨m_fr, e_fr⟩, ⟨m_mn, e_mn⟩, ⟨m_wi, e_wi⟩, ⟨m_nu, e_nu⟩, pmn⟩ := hFM
  have pcl : ∀ i : Nat, i < 4 → ∃ q s : Nat, gcl i = some q ∧ q ∈ Lx ∧ f q = ob 1 [.ref s, .int 0] := fun i hi => by
    obtain ⟨q, s, h1, ⟨h2, h3⟩, -⟩ := pcl0 i hi
    exact ⟨q, s, h1, h2, h3⟩
  have pwy : ∀ i : Nat, i < 6 → ∃ q : Nat, gwy i = some q ∧ q ∈ Lx ∧ f q = ob 10 [.int 0, .int 0, .int 1, .int 1, .int 1, .int 0, .int 0] := fun i hi => by
    obtain ⟨q, h1, h2, h3⟩ := pwy0 i hi
    exact ⟨q, h1, h2, h3⟩
  have psl : ∀ i : Nat, i < 4 → ∃ q s : Nat, gsl i = some q ∧ q ∈ Lx ∧ f q = ob 5 [.ref s, .int (-1), .int 0] ∧ s ∈ Lx ∧ f s = aJ E 60 (fun _ => 0) := fun i hi => by
    obtain ⟨q, s, h1, ⟨h2, h3⟩, h4, h5⟩ := psl0 i hi
    exact ⟨q, s, h1, h2, h3, h4, h5⟩
  refine v_aload_n hC dL_law_392 rfl ?_
  refine v_aload_n hC dL_law_393 rfl ?_
  refine v_iload_n hC dL_law_394 rfl ?_
  refine v_iconst hC dL_law_395 (v := 1) (by decide) ?_
  refine v_iadd hC dL_law_396 (v := 1) (by decide) ?_
  refine v_sld hC hX hbl hbA (by unfold vp_in; decide) (v := xs 1) rfl dL_law_397 ?_
  refine v_aload_n hC dL_law_398 rfl ?_
  refine v_iload_n hC dL_law_399 rfl ?_
  refine v_iconst hC dL_law_400 (v := 2) (by decide) ?_
  refine v_iadd hC dL_law_401 (v := 2) (by decide) ?_
  refine v_sld hC hX hbl hbA (by unfold vp_in; decide) (v := xs 2) rfl dL_law_402 ?_
  refine v_viD hC (rest := []) m_x e_x rfl mi_X11_knit ms_X11_knit (x_knit m_x e_x m_now e_now m_pa e_pa) mx_X11_knit ml_L_48 (by decide) rfl (cells1 := 85) (slots1 := 18286) (by decide) (by decide) (Nat.le_of_ble_eq_true rfl) (Nat.le_of_ble_eq_true rfl) rfl (Nat.le_of_ble_eq_true rfl) dL_law_403 (fun r_1 L_2 f_3 h_4 => ?_)
  obtain rfl : sp_knit (xs 1) (xs 2) = r_1 := h_4
  refine v_aload_n hC dL_law_406 rfl ?_
  refine v_aload_n hC dL_law_407 rfl ?_
  refine v_iload_n hC dL_law_408 rfl ?_
  refine v_iconst hC dL_law_409 (v := 1) (by decide) ?_
  refine v_iadd hC dL_law_410 (v := 1) (by decide) ?_
  refine v_sld hC hX hbl hbA (by unfold vp_in; decide) (v := xs 1) rfl dL_law_411 ?_
  refine v_aload_n hC dL_law_412 rfl ?_
  refine v_iload_n hC dL_law_413 rfl ?_
  refine v_iconst hC dL_law_414 (v := 2) (by decide) ?_
  refine v_iadd hC dL_law_415 (v := 2) (by decide) ?_
  refine v_sld hC hX hbl hbA (by unfold vp_in; decide) (v := xs 2) rfl dL_law_416 ?_
  refine v_vi hC (rest := [.int (sp_knit (xs 1) (xs 2))]) m_m e_m rfl mi_X12_knit ms_X12_knit (y_knit m_m e_m m_wo e_wo) mx_X12_knit ml_L_52 (by decide) rfl (cells1 := 85) (slots1 := 18286) (by decide) (by decide) (Nat.le_of_ble_eq_true rfl) (Nat.le_of_ble_eq_true rfl) rfl (Nat.le_of_ble_eq_true rfl) dL_law_417 (fun r_5 L_6 f_7 h_8 => ?_)
  obtain rfl : sp_knit (xs 1) (xs 2) = r_5 := h_8
  refine v_icmp_eq_t hC dL_law_420 (tgt := 1468) (by decide) rfl ?_
  exact hT _ _ _ _ (Nat.le_of_ble_eq_true rfl) (Nat.le_of_ble_eq_true rfl)
set_option maxRecDepth 100000 in
set_option maxHeartbeats 4000000 in
theorem lc_9 {z : Cz} {E : Ez} {b x m : Nat} {xs : Nat → Int32} (hC : Cx z E cL_law RL 4 14 600000 7302250) (hX : va_X b 6 xs (zs z) (zs z).heap) (hbl : b < (zs z).heap.size) (hbA : ¬ zA z b) (hT : ∀ (L : List Nat) (f : Nat → va_E) (c s : Nat), c ≤ 600000 → s ≤ 7302250 → V z E 4 c s L f 1468 [(3, .int 0), (2, .ref m), (1, .ref x), (0, .ref b)] []) {Lx Lm : List Nat} {f : Nat → va_E} (hFX : FX E x Lx f) (hFM : FM E m Lm f) : V z E 4 85 18286 (Lx ++ Lm) f 425 [(3, .int 0), (2, .ref m), (1, .ref x), (0, .ref b)] [] := by
  obtain ⟨t, now, im, la, sl, np, ns, nw, nwa, nl, he, wa, tr, ta, tb, lax, nps, npf, nwc, nlk, nlf, nls, gsl, ⟨m_x, e_x⟩, ⟨m_t, e_t⟩, ⟨m_tb, e_tb⟩, ⟨m_im, e_im⟩, ⟨m_la, e_la⟩, ⟨m_sl, e_sl⟩, ⟨m_np, e_np⟩, ⟨m_ns, e_ns⟩, ⟨m_nw, e_nw⟩, ⟨m_nwa, e_nwa⟩, ⟨m_nwc, e_nwc⟩, ⟨m_nl, e_nl⟩, ⟨m_nlk, e_nlk⟩, ⟨m_nlf, e_nlf⟩, ⟨m_nls, e_nls⟩, hB, psl0⟩ := hFX
  obtain ⟨pa, pas, paf, sh, wy, wt, wtc, lo, lok, lof, los, cl, gwy, gcl, ⟨m_now, e_now⟩, ⟨m_pa, e_pa⟩, ⟨m_pas, e_pas⟩, ⟨m_paf, e_paf⟩, ⟨m_sh, e_sh⟩, ⟨m_wy, e_wy⟩, ⟨m_wt, e_wt⟩, ⟨m_wtc, e_wtc⟩, ⟨m_lo, e_lo⟩, ⟨m_lok, e_lok⟩, ⟨m_lof, e_lof⟩, ⟨m_los, e_los⟩, ⟨m_cl, e_cl⟩, pwy0, pcl0⟩ := id hB
  obtain ⟨wo, img, hi, tp, fv, fr, cl0, pl, wd, rd, tr0, co, bi, wl, mn, wi, nu, mv, gmn, ⟨m_m, e_m⟩, ⟨m_wo, e_wo⟩, ⟨m_img, e_img⟩, ⟨m_hi, e_hi⟩, ⟨m_tp, e_tp⟩, ⟨m_fv, e_fv⟩, ⟨m_fr, e_fr⟩, ⟨m_mn, e_mn⟩, ⟨m_wi, e_wi⟩, ⟨m_nu, e_nu⟩, pmn⟩ := hFM
  have pcl : ∀ i : Nat, i < 4 → ∃ q s : Nat, gcl i = some q ∧ q ∈ Lx ∧ f q = ob 1 [.ref s, .int 0] := fun i hi => by
    obtain ⟨q, s, h1, ⟨h2, h3⟩, -⟩ := pcl0 i hi
    exact ⟨q, s, h1, h2, h3⟩
  have pwy : ∀ i : Nat, i < 6 → ∃ q : Nat, gwy i = some q ∧ q ∈ Lx ∧ f q = ob 10 [.int 0, .int 0, .int 1, .int 1, .int 1, .int 0, .int 0] := fun i hi => by
    obtain ⟨q, h1, h2, h3⟩ := pwy0 i hi
    exact ⟨q, h1, h2, h3⟩
  have psl : ∀ i : Nat, i < 4 → ∃ q s : Nat, gsl i = some q ∧ q ∈ Lx ∧ f q = ob 5 [.ref s, .int (-1), .int 0] ∧ s ∈ Lx ∧ f s = aJ E 60 (fun _ => 0) := fun i hi => by
    obtain ⟨q, s, h1, ⟨h2, h3⟩, h4, h5⟩ := psl0 i hi
    exact ⟨q, s, h1, h2, h3, h4, h5⟩
  refine v_aload_n hC dL_law_425 rfl ?_
  refine v_aload_n hC dL_law_426 rfl ?_
  refine v_iload_n hC dL_law_427 rfl ?_
  refine v_iconst hC dL_law_428 (v := 1) (by decide) ?_
  refine v_iadd hC dL_law_429 (v := 1) (by decide) ?_
  refine v_sld hC hX hbl hbA (by unfold vp_in; decide) (v := xs 1) rfl dL_law_430 ?_
  refine v_aload_n hC dL_law_431 rfl ?_
  refine v_iload_n hC dL_law_432 rfl ?_
  refine v_iconst hC dL_law_433 (v := 2) (by decide) ?_
  refine v_iadd hC dL_law_434 (v := 2) (by decide) ?_
  refine v_sld hC hX hbl hbA (by unfold vp_in; decide) (v := xs 2) rfl dL_law_435 ?_
  refine v_viD hC (rest := []) m_x e_x rfl mi_X11_put ms_X11_put (x_put m_x e_x m_now e_now m_cl e_cl pcl m_wy e_wy pwy) mx_X11_put ml_L_53 (by decide) rfl (cells1 := 85) (slots1 := 18286) (by decide) (by decide) (Nat.le_of_ble_eq_true rfl) (Nat.le_of_ble_eq_true rfl) rfl (Nat.le_of_ble_eq_true rfl) dL_law_436 (fun r_1 L_2 f_3 h_4 => ?_)
  obtain rfl : sp_ck (xs 1) (xs 2) = r_1 := h_4
  refine v_aload_n hC dL_law_439 rfl ?_
  refine v_aload_n hC dL_law_440 rfl ?_
  refine v_iload_n hC dL_law_441 rfl ?_
  refine v_iconst hC dL_law_442 (v := 1) (by decide) ?_
  refine v_iadd hC dL_law_443 (v := 1) (by decide) ?_
  refine v_sld hC hX hbl hbA (by unfold vp_in; decide) (v := xs 1) rfl dL_law_444 ?_
  refine v_aload_n hC dL_law_445 rfl ?_
  refine v_iload_n hC dL_law_446 rfl ?_
  refine v_iconst hC dL_law_447 (v := 2) (by decide) ?_
  refine v_iadd hC dL_law_448 (v := 2) (by decide) ?_
  refine v_sld hC hX hbl hbA (by unfold vp_in; decide) (v := xs 2) rfl dL_law_449 ?_
  refine v_vi hC (rest := [.int (sp_ck (xs 1) (xs 2))]) m_m e_m rfl mi_X12_put ms_X12_put (y_put m_m e_m m_wo e_wo) mx_X12_put ml_L_56 (by decide) rfl (cells1 := 85) (slots1 := 18286) (by decide) (by decide) (Nat.le_of_ble_eq_true rfl) (Nat.le_of_ble_eq_true rfl) rfl (Nat.le_of_ble_eq_true rfl) dL_law_450 (fun r_5 L_6 f_7 h_8 => ?_)
  obtain rfl : sp_ck (xs 1) (xs 2) = r_5 := h_8
  refine v_icmp_eq_t hC dL_law_453 (tgt := 1468) (by decide) rfl ?_
  exact hT _ _ _ _ (Nat.le_of_ble_eq_true rfl) (Nat.le_of_ble_eq_true rfl)
set_option maxRecDepth 100000 in
set_option maxHeartbeats 4000000 in
theorem lc_10 {z : Cz} {E : Ez} {b x m : Nat} {xs : Nat → Int32} (hC : Cx z E cL_law RL 4 14 600000 7302250) (hX : va_X b 6 xs (zs z) (zs z).heap) (hbl : b < (zs z).heap.size) (hbA : ¬ zA z b) (hT : ∀ (L : List Nat) (f : Nat → va_E) (c s : Nat), c ≤ 600000 → s ≤ 7302250 → V z E 4 c s L f 1468 [(3, .int 0), (2, .ref m), (1, .ref x), (0, .ref b)] []) {Lx Lm : List Nat} {f : Nat → va_E} (hFX : FX E x Lx f) (hFM : FM E m Lm f) : V z E 4 85 18286 (Lx ++ Lm) f 458 [(3, .int 0), (2, .ref m), (1, .ref x), (0, .ref b)] [] := by
  obtain ⟨t, now, im, la, sl, np, ns, nw, nwa, nl, he, wa, tr, ta, tb, lax, nps, npf, nwc, nlk, nlf, nls, gsl, ⟨m_x, e_x⟩, ⟨m_t, e_t⟩, ⟨m_tb, e_tb⟩, ⟨m_im, e_im⟩, ⟨m_la, e_la⟩, ⟨m_sl, e_sl⟩, ⟨m_np, e_np⟩, ⟨m_ns, e_ns⟩, ⟨m_nw, e_nw⟩, ⟨m_nwa, e_nwa⟩, ⟨m_nwc, e_nwc⟩, ⟨m_nl, e_nl⟩, ⟨m_nlk, e_nlk⟩, ⟨m_nlf, e_nlf⟩, ⟨m_nls, e_nls⟩, hB, psl0⟩ := hFX
  obtain ⟨pa, pas, paf, sh, wy, wt, wtc, lo, lok, lof, los, cl, gwy, gcl, ⟨m_now, e_now⟩, ⟨m_pa, e_pa⟩, ⟨m_pas, e_pas⟩, ⟨m_paf, e_paf⟩, ⟨m_sh, e_sh⟩, ⟨m_wy, e_wy⟩, ⟨m_wt, e_wt⟩, ⟨m_wtc, e_wtc⟩, ⟨m_lo, e_lo⟩, ⟨m_lok, e_lok⟩, ⟨m_lof, e_lof⟩, ⟨m_los, e_los⟩, ⟨m_cl, e_cl⟩, pwy0, pcl0⟩ := id hB
  obtain ⟨wo, img, hi, tp, fv, fr, cl0, pl, wd, rd, tr0, co, bi, wl, mn, wi, nu, mv, gmn, ⟨m_m, e_m⟩, ⟨m_wo, e_wo⟩, ⟨m_img, e_img⟩, ⟨m_hi, e_hi⟩, ⟨m_tp, e_tp⟩, ⟨m_fv, e_fv⟩, ⟨m_fr, e_fr⟩, ⟨m_mn, e_mn⟩, ⟨m_wi, e_wi⟩, ⟨m_nu, e_nu⟩, pmn⟩ := hFM
  have pcl : ∀ i : Nat, i < 4 → ∃ q s : Nat, gcl i = some q ∧ q ∈ Lx ∧ f q = ob 1 [.ref s, .int 0] := fun i hi => by
    obtain ⟨q, s, h1, ⟨h2, h3⟩, -⟩ := pcl0 i hi
    exact ⟨q, s, h1, h2, h3⟩
  have pwy : ∀ i : Nat, i < 6 → ∃ q : Nat, gwy i = some q ∧ q ∈ Lx ∧ f q = ob 10 [.int 0, .int 0, .int 1, .int 1, .int 1, .int 0, .int 0] := fun i hi => by
    obtain ⟨q, h1, h2, h3⟩ := pwy0 i hi
    exact ⟨q, h1, h2, h3⟩
  have psl : ∀ i : Nat, i < 4 → ∃ q s : Nat, gsl i = some q ∧ q ∈ Lx ∧ f q = ob 5 [.ref s, .int (-1), .int 0] ∧ s ∈ Lx ∧ f s = aJ E 60 (fun _ => 0) := fun i hi => by
    obtain ⟨q, s, h1, ⟨h2, h3⟩, h4, h5⟩ := psl0 i hi
    exact ⟨q, s, h1, h2, h3, h4, h5⟩
  refine v_aload_n hC dL_law_458 rfl ?_
  refine v_aload_n hC dL_law_459 rfl ?_
  refine v_iload_n hC dL_law_460 rfl ?_
  refine v_iconst hC dL_law_461 (v := 1) (by decide) ?_
  refine v_iadd hC dL_law_462 (v := 1) (by decide) ?_
  refine v_sld hC hX hbl hbA (by unfold vp_in; decide) (v := xs 1) rfl dL_law_463 ?_
  refine v_aload_n hC dL_law_464 rfl ?_
  refine v_iload_n hC dL_law_465 rfl ?_
  refine v_iconst hC dL_law_466 (v := 2) (by decide) ?_
  refine v_iadd hC dL_law_467 (v := 2) (by decide) ?_
  refine v_sld hC hX hbl hbA (by unfold vp_in; decide) (v := xs 2) rfl dL_law_468 ?_
  refine v_viD hC (rest := []) m_x e_x rfl mi_X11_read ms_X11_read (x_read m_x e_x m_now e_now m_cl e_cl pcl m_wy e_wy pwy) mx_X11_read ml_L_57 (by decide) rfl (cells1 := 85) (slots1 := 18286) (by decide) (by decide) (Nat.le_of_ble_eq_true rfl) (Nat.le_of_ble_eq_true rfl) rfl (Nat.le_of_ble_eq_true rfl) dL_law_469 (fun r_1 L_2 f_3 h_4 => ?_)
  obtain rfl : sp_ck (xs 1) (xs 2) = r_1 := h_4
  refine v_aload_n hC dL_law_472 rfl ?_
  refine v_aload_n hC dL_law_473 rfl ?_
  refine v_iload_n hC dL_law_474 rfl ?_
  refine v_iconst hC dL_law_475 (v := 1) (by decide) ?_
  refine v_iadd hC dL_law_476 (v := 1) (by decide) ?_
  refine v_sld hC hX hbl hbA (by unfold vp_in; decide) (v := xs 1) rfl dL_law_477 ?_
  refine v_aload_n hC dL_law_478 rfl ?_
  refine v_iload_n hC dL_law_479 rfl ?_
  refine v_iconst hC dL_law_480 (v := 2) (by decide) ?_
  refine v_iadd hC dL_law_481 (v := 2) (by decide) ?_
  refine v_sld hC hX hbl hbA (by unfold vp_in; decide) (v := xs 2) rfl dL_law_482 ?_
  refine v_vi hC (rest := [.int (sp_ck (xs 1) (xs 2))]) m_m e_m rfl mi_X12_read ms_X12_read (y_read m_m e_m m_wo e_wo) mx_X12_read ml_L_60 (by decide) rfl (cells1 := 85) (slots1 := 18286) (by decide) (by decide) (Nat.le_of_ble_eq_true rfl) (Nat.le_of_ble_eq_true rfl) rfl (Nat.le_of_ble_eq_true rfl) dL_law_483 (fun r_5 L_6 f_7 h_8 => ?_)
  obtain rfl : sp_ck (xs 1) (xs 2) = r_5 := h_8
  refine v_icmp_eq_t hC dL_law_486 (tgt := 1468) (by decide) rfl ?_
  exact hT _ _ _ _ (Nat.le_of_ble_eq_true rfl) (Nat.le_of_ble_eq_true rfl)
set_option maxRecDepth 100000 in
set_option maxHeartbeats 4000000 in
theorem lc_11 {z : Cz} {E : Ez} {b x m : Nat} {xs : Nat → Int32} (hC : Cx z E cL_law RL 4 14 600000 7302250) (hX : va_X b 6 xs (zs z) (zs z).heap) (hbl : b < (zs z).heap.size) (hbA : ¬ zA z b) (hT : ∀ (L : List Nat) (f : Nat → va_E) (c s : Nat), c ≤ 600000 → s ≤ 7302250 → V z E 4 c s L f 1468 [(3, .int 0), (2, .ref m), (1, .ref x), (0, .ref b)] []) {Lx Lm : List Nat} {f : Nat → va_E} (hFX : FX E x Lx f) (hFM : FM E m Lm f) : V z E 4 85 18286 (Lx ++ Lm) f 491 [(3, .int 0), (2, .ref m), (1, .ref x), (0, .ref b)] [] := by
  obtain ⟨t, now, im, la, sl, np, ns, nw, nwa, nl, he, wa, tr, ta, tb, lax, nps, npf, nwc, nlk, nlf, nls, gsl, ⟨m_x, e_x⟩, ⟨m_t, e_t⟩, ⟨m_tb, e_tb⟩, ⟨m_im, e_im⟩, ⟨m_la, e_la⟩, ⟨m_sl, e_sl⟩, ⟨m_np, e_np⟩, ⟨m_ns, e_ns⟩, ⟨m_nw, e_nw⟩, ⟨m_nwa, e_nwa⟩, ⟨m_nwc, e_nwc⟩, ⟨m_nl, e_nl⟩, ⟨m_nlk, e_nlk⟩, ⟨m_nlf, e_nlf⟩, ⟨m_nls, e_nls⟩, hB, psl0⟩ := hFX
  obtain ⟨pa, pas, paf, sh, wy, wt, wtc, lo, lok, lof, los, cl, gwy, gcl, ⟨m_now, e_now⟩, ⟨m_pa, e_pa⟩, ⟨m_pas, e_pas⟩, ⟨m_paf, e_paf⟩, ⟨m_sh, e_sh⟩, ⟨m_wy, e_wy⟩, ⟨m_wt, e_wt⟩, ⟨m_wtc, e_wtc⟩, ⟨m_lo, e_lo⟩, ⟨m_lok, e_lok⟩, ⟨m_lof, e_lof⟩, ⟨m_los, e_los⟩, ⟨m_cl, e_cl⟩, pwy0, pcl0⟩ := id hB
  obtain ⟨wo, img, hi, tp, fv, fr, cl0, pl, wd, rd, tr0, co, bi, wl, mn, wi, nu, mv, gmn, ⟨m_m, e_m⟩, ⟨m_wo, e_wo⟩, ⟨m_img, e_img⟩, ⟨m_hi, e_hi⟩, ⟨m_tp, e_tp⟩, ⟨m_fv, e_fv⟩, ⟨m_fr, e_fr⟩, ⟨m_mn, e_mn⟩, ⟨m_wi, e_wi⟩, ⟨m_nu, e_nu⟩, pmn⟩ := hFM
  have pcl : ∀ i : Nat, i < 4 → ∃ q s : Nat, gcl i = some q ∧ q ∈ Lx ∧ f q = ob 1 [.ref s, .int 0] := fun i hi => by
    obtain ⟨q, s, h1, ⟨h2, h3⟩, -⟩ := pcl0 i hi
    exact ⟨q, s, h1, h2, h3⟩
  have pwy : ∀ i : Nat, i < 6 → ∃ q : Nat, gwy i = some q ∧ q ∈ Lx ∧ f q = ob 10 [.int 0, .int 0, .int 1, .int 1, .int 1, .int 0, .int 0] := fun i hi => by
    obtain ⟨q, h1, h2, h3⟩ := pwy0 i hi
    exact ⟨q, h1, h2, h3⟩
  have psl : ∀ i : Nat, i < 4 → ∃ q s : Nat, gsl i = some q ∧ q ∈ Lx ∧ f q = ob 5 [.ref s, .int (-1), .int 0] ∧ s ∈ Lx ∧ f s = aJ E 60 (fun _ => 0) := fun i hi => by
    obtain ⟨q, s, h1, ⟨h2, h3⟩, h4, h5⟩ := psl0 i hi
    exact ⟨q, s, h1, h2, h3, h4, h5⟩
  refine v_aload_n hC dL_law_491 rfl ?_
  refine v_aload_n hC dL_law_492 rfl ?_
  refine v_iload_n hC dL_law_493 rfl ?_
  refine v_iconst hC dL_law_494 (v := 1) (by decide) ?_
  refine v_iadd hC dL_law_495 (v := 1) (by decide) ?_
  refine v_sld hC hX hbl hbA (by unfold vp_in; decide) (v := xs 1) rfl dL_law_496 ?_
  refine v_viD hC (rest := []) m_x e_x rfl mi_X11_letter ms_X11_letter (x_letter m_x e_x m_la e_la) mx_X11_letter ml_L_61 (by decide) rfl (cells1 := 85) (slots1 := 18286) (by decide) (by decide) (Nat.le_of_ble_eq_true rfl) (Nat.le_of_ble_eq_true rfl) rfl (Nat.le_of_ble_eq_true rfl) dL_law_497 (fun r_1 L_2 f_3 h_4 => ?_)
  obtain rfl : (-1 : Int32) = r_1 := h_4
  refine v_aload_n hC dL_law_500 rfl ?_
  refine v_aload_n hC dL_law_501 rfl ?_
  refine v_iload_n hC dL_law_502 rfl ?_
  refine v_iconst hC dL_law_503 (v := 1) (by decide) ?_
  refine v_iadd hC dL_law_504 (v := 1) (by decide) ?_
  refine v_sld hC hX hbl hbA (by unfold vp_in; decide) (v := xs 1) rfl dL_law_505 ?_
  refine v_vi hC (rest := [.int ((-1 : Int32))]) m_m e_m rfl mi_X12_letter ms_X12_letter (y_letter m_m e_m) mx_X12_letter ml_L_64 (by decide) rfl (cells1 := 85) (slots1 := 18286) (by decide) (by decide) (Nat.le_of_ble_eq_true rfl) (Nat.le_of_ble_eq_true rfl) rfl (Nat.le_of_ble_eq_true rfl) dL_law_506 (fun r_5 L_6 f_7 h_8 => ?_)
  obtain rfl : (-1 : Int32) = r_5 := h_8
  refine v_icmp_eq_t hC dL_law_509 (tgt := 1468) (by decide) rfl ?_
  exact hT _ _ _ _ (Nat.le_of_ble_eq_true rfl) (Nat.le_of_ble_eq_true rfl)
set_option maxRecDepth 100000 in
set_option maxHeartbeats 4000000 in
theorem lc_12 {z : Cz} {E : Ez} {b x m : Nat} {xs : Nat → Int32} (hC : Cx z E cL_law RL 4 14 600000 7302250) (hX : va_X b 6 xs (zs z) (zs z).heap) (hbl : b < (zs z).heap.size) (hbA : ¬ zA z b) (hT : ∀ (L : List Nat) (f : Nat → va_E) (c s : Nat), c ≤ 600000 → s ≤ 7302250 → V z E 4 c s L f 1468 [(3, .int 0), (2, .ref m), (1, .ref x), (0, .ref b)] []) {Lx Lm : List Nat} {f : Nat → va_E} (hFX : FX E x Lx f) (hFM : FM E m Lm f) : V z E 4 85 18286 (Lx ++ Lm) f 514 [(3, .int 0), (2, .ref m), (1, .ref x), (0, .ref b)] [] := by
  obtain ⟨t, now, im, la, sl, np, ns, nw, nwa, nl, he, wa, tr, ta, tb, lax, nps, npf, nwc, nlk, nlf, nls, gsl, ⟨m_x, e_x⟩, ⟨m_t, e_t⟩, ⟨m_tb, e_tb⟩, ⟨m_im, e_im⟩, ⟨m_la, e_la⟩, ⟨m_sl, e_sl⟩, ⟨m_np, e_np⟩, ⟨m_ns, e_ns⟩, ⟨m_nw, e_nw⟩, ⟨m_nwa, e_nwa⟩, ⟨m_nwc, e_nwc⟩, ⟨m_nl, e_nl⟩, ⟨m_nlk, e_nlk⟩, ⟨m_nlf, e_nlf⟩, ⟨m_nls, e_nls⟩, hB, psl0⟩ := hFX
  obtain ⟨pa, pas, paf, sh, wy, wt, wtc, lo, lok, lof, los, cl, gwy, gcl, ⟨m_now, e_now⟩, ⟨m_pa, e_pa⟩, ⟨m_pas, e_pas⟩, ⟨m_paf, e_paf⟩, ⟨m_sh, e_sh⟩, ⟨m_wy, e_wy⟩, ⟨m_wt, e_wt⟩, ⟨m_wtc, e_wtc⟩, ⟨m_lo, e_lo⟩, ⟨m_lok, e_lok⟩, ⟨m_lof, e_lof⟩, ⟨m_los, e_los⟩, ⟨m_cl, e_cl⟩, pwy0, pcl0⟩ := id hB
  obtain ⟨wo, img, hi, tp, fv, fr, cl0, pl, wd, rd, tr0, co, bi, wl, mn, wi, nu, mv, gmn, ⟨m_m, e_m⟩, ⟨m_wo, e_wo⟩, ⟨m_img, e_img⟩, ⟨m_hi, e_hi⟩, ⟨m_tp, e_tp⟩, ⟨m_fv, e_fv⟩, ⟨m_fr, e_fr⟩, ⟨m_mn, e_mn⟩, ⟨m_wi, e_wi⟩, ⟨m_nu, e_nu⟩, pmn⟩ := hFM
  have pcl : ∀ i : Nat, i < 4 → ∃ q s : Nat, gcl i = some q ∧ q ∈ Lx ∧ f q = ob 1 [.ref s, .int 0] := fun i hi => by
    obtain ⟨q, s, h1, ⟨h2, h3⟩, -⟩ := pcl0 i hi
    exact ⟨q, s, h1, h2, h3⟩
  have pwy : ∀ i : Nat, i < 6 → ∃ q : Nat, gwy i = some q ∧ q ∈ Lx ∧ f q = ob 10 [.int 0, .int 0, .int 1, .int 1, .int 1, .int 0, .int 0] := fun i hi => by
    obtain ⟨q, h1, h2, h3⟩ := pwy0 i hi
    exact ⟨q, h1, h2, h3⟩
  have psl : ∀ i : Nat, i < 4 → ∃ q s : Nat, gsl i = some q ∧ q ∈ Lx ∧ f q = ob 5 [.ref s, .int (-1), .int 0] ∧ s ∈ Lx ∧ f s = aJ E 60 (fun _ => 0) := fun i hi => by
    obtain ⟨q, s, h1, ⟨h2, h3⟩, h4, h5⟩ := psl0 i hi
    exact ⟨q, s, h1, h2, h3, h4, h5⟩
  refine v_aload_n hC dL_law_514 rfl ?_
  refine v_aload_n hC dL_law_515 rfl ?_
  refine v_iload_n hC dL_law_516 rfl ?_
  refine v_iconst hC dL_law_517 (v := 1) (by decide) ?_
  refine v_iadd hC dL_law_518 (v := 1) (by decide) ?_
  refine v_sld hC hX hbl hbA (by unfold vp_in; decide) (v := xs 1) rfl dL_law_519 ?_
  refine v_aload_n hC dL_law_520 rfl ?_
  refine v_iload_n hC dL_law_521 rfl ?_
  refine v_iconst hC dL_law_522 (v := 2) (by decide) ?_
  refine v_iadd hC dL_law_523 (v := 2) (by decide) ?_
  refine v_sld hC hX hbl hbA (by unfold vp_in; decide) (v := xs 2) rfl dL_law_524 ?_
  refine v_aload_n hC dL_law_525 rfl ?_
  refine v_iload_n hC dL_law_526 rfl ?_
  refine v_iconst hC dL_law_527 (v := 3) (by decide) ?_
  refine v_iadd hC dL_law_528 (v := 3) (by decide) ?_
  refine v_sld hC hX hbl hbA (by unfold vp_in; decide) (v := xs 3) rfl dL_law_529 ?_
  refine v_viD hC (rest := []) m_x e_x rfl mi_X11_bit ms_X11_bit (x_bit m_x e_x m_now e_now m_cl e_cl pcl m_wy e_wy pwy) mx_X11_bit ml_L_65 (by decide) rfl (cells1 := 85) (slots1 := 18286) (by decide) (by decide) (Nat.le_of_ble_eq_true rfl) (Nat.le_of_ble_eq_true rfl) rfl (Nat.le_of_ble_eq_true rfl) dL_law_530 (fun r_1 L_2 f_3 h_4 => ?_)
  obtain rfl : sp_ck (xs 1) (xs 2) = r_1 := h_4
  refine v_aload_n hC dL_law_533 rfl ?_
  refine v_aload_n hC dL_law_534 rfl ?_
  refine v_iload_n hC dL_law_535 rfl ?_
  refine v_iconst hC dL_law_536 (v := 1) (by decide) ?_
  refine v_iadd hC dL_law_537 (v := 1) (by decide) ?_
  refine v_sld hC hX hbl hbA (by unfold vp_in; decide) (v := xs 1) rfl dL_law_538 ?_
  refine v_aload_n hC dL_law_539 rfl ?_
  refine v_iload_n hC dL_law_540 rfl ?_
  refine v_iconst hC dL_law_541 (v := 2) (by decide) ?_
  refine v_iadd hC dL_law_542 (v := 2) (by decide) ?_
  refine v_sld hC hX hbl hbA (by unfold vp_in; decide) (v := xs 2) rfl dL_law_543 ?_
  refine v_aload_n hC dL_law_544 rfl ?_
  refine v_iload_n hC dL_law_545 rfl ?_
  refine v_iconst hC dL_law_546 (v := 3) (by decide) ?_
  refine v_iadd hC dL_law_547 (v := 3) (by decide) ?_
  refine v_sld hC hX hbl hbA (by unfold vp_in; decide) (v := xs 3) rfl dL_law_548 ?_
  refine v_vi hC (rest := [.int (sp_ck (xs 1) (xs 2))]) m_m e_m rfl mi_X12_bit ms_X12_bit (y_bit m_m e_m m_wo e_wo) mx_X12_bit ml_L_69 (by decide) rfl (cells1 := 85) (slots1 := 18286) (by decide) (by decide) (Nat.le_of_ble_eq_true rfl) (Nat.le_of_ble_eq_true rfl) rfl (Nat.le_of_ble_eq_true rfl) dL_law_549 (fun r_5 L_6 f_7 h_8 => ?_)
  obtain rfl : sp_ck (xs 1) (xs 2) = r_5 := h_8
  refine v_icmp_eq_t hC dL_law_552 (tgt := 1468) (by decide) rfl ?_
  exact hT _ _ _ _ (Nat.le_of_ble_eq_true rfl) (Nat.le_of_ble_eq_true rfl)
set_option maxRecDepth 100000 in
set_option maxHeartbeats 4000000 in
theorem lc_13 {z : Cz} {E : Ez} {b x m : Nat} {xs : Nat → Int32} (hC : Cx z E cL_law RL 4 14 600000 7302250) (hX : va_X b 6 xs (zs z) (zs z).heap) (hbl : b < (zs z).heap.size) (hbA : ¬ zA z b) (hT : ∀ (L : List Nat) (f : Nat → va_E) (c s : Nat), c ≤ 600000 → s ≤ 7302250 → V z E 4 c s L f 1468 [(3, .int 0), (2, .ref m), (1, .ref x), (0, .ref b)] []) {Lx Lm : List Nat} {f : Nat → va_E} (hFX : FX E x Lx f) (hFM : FM E m Lm f) : V z E 4 85 18286 (Lx ++ Lm) f 557 [(3, .int 0), (2, .ref m), (1, .ref x), (0, .ref b)] [] := by
  obtain ⟨t, now, im, la, sl, np, ns, nw, nwa, nl, he, wa, tr, ta, tb, lax, nps, npf, nwc, nlk, nlf, nls, gsl, ⟨m_x, e_x⟩, ⟨m_t, e_t⟩, ⟨m_tb, e_tb⟩, ⟨m_im, e_im⟩, ⟨m_la, e_la⟩, ⟨m_sl, e_sl⟩, ⟨m_np, e_np⟩, ⟨m_ns, e_ns⟩, ⟨m_nw, e_nw⟩, ⟨m_nwa, e_nwa⟩, ⟨m_nwc, e_nwc⟩, ⟨m_nl, e_nl⟩, ⟨m_nlk, e_nlk⟩, ⟨m_nlf, e_nlf⟩, ⟨m_nls, e_nls⟩, hB, psl0⟩ := hFX
  obtain ⟨pa, pas, paf, sh, wy, wt, wtc, lo, lok, lof, los, cl, gwy, gcl, ⟨m_now, e_now⟩, ⟨m_pa, e_pa⟩, ⟨m_pas, e_pas⟩, ⟨m_paf, e_paf⟩, ⟨m_sh, e_sh⟩, ⟨m_wy, e_wy⟩, ⟨m_wt, e_wt⟩, ⟨m_wtc, e_wtc⟩, ⟨m_lo, e_lo⟩, ⟨m_lok, e_lok⟩, ⟨m_lof, e_lof⟩, ⟨m_los, e_los⟩, ⟨m_cl, e_cl⟩, pwy0, pcl0⟩ := id hB
  obtain ⟨wo, img, hi, tp, fv, fr, cl0, pl, wd, rd, tr0, co, bi, wl, mn, wi, nu, mv, gmn, ⟨m_m, e_m⟩, ⟨m_wo, e_wo⟩, ⟨m_img, e_img⟩, ⟨m_hi, e_hi⟩, ⟨m_tp, e_tp⟩, ⟨m_fv, e_fv⟩, ⟨m_fr, e_fr⟩, ⟨m_mn, e_mn⟩, ⟨m_wi, e_wi⟩, ⟨m_nu, e_nu⟩, pmn⟩ := hFM
  have pcl : ∀ i : Nat, i < 4 → ∃ q s : Nat, gcl i = some q ∧ q ∈ Lx ∧ f q = ob 1 [.ref s, .int 0] := fun i hi => by
    obtain ⟨q, s, h1, ⟨h2, h3⟩, -⟩ := pcl0 i hi
    exact ⟨q, s, h1, h2, h3⟩
  have pwy : ∀ i : Nat, i < 6 → ∃ q : Nat, gwy i = some q ∧ q ∈ Lx ∧ f q = ob 10 [.int 0, .int 0, .int 1, .int 1, .int 1, .int 0, .int 0] := fun i hi => by
    obtain ⟨q, h1, h2, h3⟩ := pwy0 i hi
    exact ⟨q, h1, h2, h3⟩
  have psl : ∀ i : Nat, i < 4 → ∃ q s : Nat, gsl i = some q ∧ q ∈ Lx ∧ f q = ob 5 [.ref s, .int (-1), .int 0] ∧ s ∈ Lx ∧ f s = aJ E 60 (fun _ => 0) := fun i hi => by
    obtain ⟨q, s, h1, ⟨h2, h3⟩, h4, h5⟩ := psl0 i hi
    exact ⟨q, s, h1, h2, h3, h4, h5⟩
  refine v_aload_n hC dL_law_557 rfl ?_
  refine v_aload_n hC dL_law_558 rfl ?_
  refine v_iload_n hC dL_law_559 rfl ?_
  refine v_iconst hC dL_law_560 (v := 1) (by decide) ?_
  refine v_iadd hC dL_law_561 (v := 1) (by decide) ?_
  refine v_sld hC hX hbl hbA (by unfold vp_in; decide) (v := xs 1) rfl dL_law_562 ?_
  refine v_aload_n hC dL_law_563 rfl ?_
  refine v_iload_n hC dL_law_564 rfl ?_
  refine v_iconst hC dL_law_565 (v := 2) (by decide) ?_
  refine v_iadd hC dL_law_566 (v := 2) (by decide) ?_
  refine v_sld hC hX hbl hbA (by unfold vp_in; decide) (v := xs 2) rfl dL_law_567 ?_
  refine v_viD hC (rest := []) m_x e_x rfl mi_X11_dim ms_X11_dim (x_dim m_x e_x m_now e_now m_cl e_cl pcl m_wy e_wy pwy) mx_X11_dim ml_L_70 (by decide) rfl (cells1 := 85) (slots1 := 18286) (by decide) (by decide) (Nat.le_of_ble_eq_true rfl) (Nat.le_of_ble_eq_true rfl) rfl (Nat.le_of_ble_eq_true rfl) dL_law_568 (fun r_1 L_2 f_3 h_4 => ?_)
  obtain rfl : sp_ck (xs 1) (xs 2) = r_1 := h_4
  refine v_aload_n hC dL_law_571 rfl ?_
  refine v_aload_n hC dL_law_572 rfl ?_
  refine v_iload_n hC dL_law_573 rfl ?_
  refine v_iconst hC dL_law_574 (v := 1) (by decide) ?_
  refine v_iadd hC dL_law_575 (v := 1) (by decide) ?_
  refine v_sld hC hX hbl hbA (by unfold vp_in; decide) (v := xs 1) rfl dL_law_576 ?_
  refine v_aload_n hC dL_law_577 rfl ?_
  refine v_iload_n hC dL_law_578 rfl ?_
  refine v_iconst hC dL_law_579 (v := 2) (by decide) ?_
  refine v_iadd hC dL_law_580 (v := 2) (by decide) ?_
  refine v_sld hC hX hbl hbA (by unfold vp_in; decide) (v := xs 2) rfl dL_law_581 ?_
  refine v_vi hC (rest := [.int (sp_ck (xs 1) (xs 2))]) m_m e_m rfl mi_X12_dim ms_X12_dim (y_dim m_m e_m m_wo e_wo) mx_X12_dim ml_L_73 (by decide) rfl (cells1 := 85) (slots1 := 18286) (by decide) (by decide) (Nat.le_of_ble_eq_true rfl) (Nat.le_of_ble_eq_true rfl) rfl (Nat.le_of_ble_eq_true rfl) dL_law_582 (fun r_5 L_6 f_7 h_8 => ?_)
  obtain rfl : sp_ck (xs 1) (xs 2) = r_5 := h_8
  refine v_icmp_eq_t hC dL_law_585 (tgt := 1468) (by decide) rfl ?_
  exact hT _ _ _ _ (Nat.le_of_ble_eq_true rfl) (Nat.le_of_ble_eq_true rfl)
