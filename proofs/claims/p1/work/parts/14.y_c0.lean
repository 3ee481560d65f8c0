def sp_row (a : Int32) (b : Int32) (n : Int32) : Int32 := if (0 ≤ a ∧ a < 4) ∧ (0 ≤ b ∧ b < 4) ∧ n ≤ 60 then (if n < 0 then -3 else 0) else -2
set_option maxRecDepth 100000 in
set_option maxHeartbeats 4000000 in
theorem c_fillJ {l : Launch} {E : Ez} {L : List Nat} {f : Nat → va_E} {a : Nat} {g : Nat → Int64} {v : Int64} (m_a : a ∈ L) (e_a : f a = aJ E 60 g) : CV l yJ7_fill_d0a16 cJ7_fill_d0a16 5 0 0 0 E [.ref a, .long v] L f (fun L1 f1 => L = L1 ∧ (∃ g1, f1 a = aJ E 60 g1) ∧ ∀ b, b ≠ a → f1 b = f b) := by
  refine cv_of (by decide) (Nat.le_of_ble_eq_true rfl) (fun z hz hnm hC hR => ?_)
  have hC : Cx z E cJ7_fill_d0a16 RJ7 5 0 0 0 := hC
  subst hz
  show V z E 5 0 0 L f 0 [(0, .ref a), (1, .long v)] []
  refine v_iconst hC dJ7_fill_d0a16_0 (v := 0) (by decide) ?_
  refine v_istore_n hC dJ7_fill_d0a16_1 (by decide) (lv' := [(3, .int 0), (0, .ref a), (1, .long v)]) rfl ?_
  refine v_aload_n hC dJ7_fill_d0a16_2 rfl ?_
  refine v_alen hC m_a e_a (t := 2) rfl (v := 60) rfl dJ7_fill_d0a16_3 ?_
  refine v_istore hC dJ7_fill_d0a16_4 (by decide) (lv' := [(4, .int 60), (3, .int 0), (0, .ref a), (1, .long v)]) rfl ?_
  have loop : ∀ (n i : Nat) (f1 : Nat → va_E) (g1 : Nat → Int64), i + n = 60 → f1 a = aJ E 60 g1 → (∀ b, b ≠ a → f1 b = f b) → V z E 5 0 0 L f1 6 [(3, .int (nI i)), (4, .int 60), (0, .ref a), (1, .long v)] [] := by
    intro n
    induction n with
    | zero =>
      intro i f1 g1 hi hf1 hfr
      refine v_iload_n hC dJ7_fill_d0a16_6 rfl ?_
      refine v_iload hC dJ7_fill_d0a16_7 rfl ?_
      refine v_icmp_ge_t hC dJ7_fill_d0a16_9 (tgt := 22) (by decide) (by rw [show i = 60 by omega]; decide) ?_
      exact hR _ _ _ _ _ _ dJ7_fill_d0a16_22 (Nat.le_of_ble_eq_true rfl) (Nat.le_of_ble_eq_true rfl) ⟨rfl, ⟨_, hf1⟩, fun b hb => (hfr b hb)⟩
    | succ n ih =>
      intro i f1 g1 hi hf1 hfr
      refine v_iload_n hC dJ7_fill_d0a16_6 rfl ?_
      refine v_iload hC dJ7_fill_d0a16_7 rfl ?_
      refine v_icmp_ge_f hC dJ7_fill_d0a16_9 (tgt := 22) (by decide) (nI_ge (a := i) (b := 60) (by omega) (by decide)) ?_
      refine v_aload_n hC dJ7_fill_d0a16_12 rfl ?_
      refine v_iload_n hC dJ7_fill_d0a16_13 rfl ?_
      refine v_lload_n hC dJ7_fill_d0a16_14 rfl ?_
      refine v_last hC m_a hf1 (vp_in_nI (by omega) (by decide)) dJ7_fill_d0a16_15 (fun f_1 hf_2 hk_3 => ?_)
      obtain ⟨g_4, hf_2⟩ : ∃ g9, f_1 a = aJ E 60 g9 := ⟨_, hf_2⟩
      refine v_iinc hC dJ7_fill_d0a16_16 (k := 0) rfl (v := (nI (i + 1))) (nI_inc i) (by decide) (lv' := [(3, .int (nI (i + 1))), (4, .int 60), (0, .ref a), (1, .long v)]) rfl ?_
      refine v_goto hC dJ7_fill_d0a16_19 (tgt := 6) (by decide) ?_
      refine v_pick [0, 1, 2, 3] rfl ?_
      exact ih (i + 1) f_1 _ (by omega) hf_2 (fun b hb => ((hk_3 b hb).trans (hfr b hb)))
  refine v_pick [1, 0, 2, 3] rfl ?_
  exact loop 60 0 f _ (by omega) e_a (fun _ _ => rfl)
set_option maxRecDepth 100000 in
set_option maxHeartbeats 4000000 in
theorem a154_X5_begin {l : Launch} {E : Ez} {L : List Nat} {f : Nat → va_E} {aa_0 aa_1 : Nat} {xx_0 : Int32} {xx_1 : Int32} {gg_0 : Nat → Int64} (m_aa_0 : aa_0 ∈ L) (e_aa_0 : f aa_0 = ob 5 [.ref aa_1, .int (-1), .int 0]) (m_aa_1 : aa_1 ∈ L) (e_aa_1 : f aa_1 = aJ E 60 gg_0) : CV l yX5_begin cX5_begin 3 1 0 0 E [.ref aa_0, .int xx_0, .int xx_1] L f (fun L1 f1 => L = L1 ∧ f1 aa_0 = ob 5 [.ref aa_1, .int xx_0, .int xx_1] ∧ (∃ g9, f1 aa_1 = aJ E 60 g9) ∧ ∀ b, b ≠ aa_0 → b ≠ aa_1 → f1 b = f b) := by
  refine cv_of (by decide) (Nat.le_of_ble_eq_true rfl) (fun z hz hnm hC hR => ?_)
  have hC : Cx z E cX5_begin RX5 3 1 0 0 := hC
  subst hz
  show V z E 3 0 0 L f 0 [(0, .ref aa_0), (1, .int xx_0), (2, .int xx_1)] []
  refine v_aload_n hC dX5_begin_0 rfl ?_
  refine v_iload_n hC dX5_begin_1 rfl ?_
  refine v_put hC fl_X5_15 m_aa_0 e_aa_0 rfl rfl (Nat.le_of_ble_eq_true rfl) (fs' := [.ref aa_1, .int xx_0, .int 0]) rfl dX5_begin_2 (fun f_1 hf_2 hk_3 => ?_)
  have hf_4 := (hk_3 aa_1 (ne_kd e_aa_1 e_aa_0 rfl)).trans e_aa_1
  refine v_aload_n hC dX5_begin_5 rfl ?_
  refine v_iload_n hC dX5_begin_6 rfl ?_
  refine v_put hC fl_X5_19 m_aa_0 hf_2 rfl rfl (Nat.le_of_ble_eq_true rfl) (fs' := [.ref aa_1, .int xx_0, .int xx_1]) rfl dX5_begin_7 (fun f_5 hf_6 hk_7 => ?_)
  have hf_8 := (hk_7 aa_1 (ne_kd hf_4 hf_2 rfl)).trans hf_4
  refine v_aload_n hC dX5_begin_10 rfl ?_
  refine v_get hC fl_X5_9 m_aa_0 hf_6 rfl dX5_begin_11 ?_
  refine v_lconst hC dX5_begin_14 (v := 0) (by decide) ?_
  refine v_sv hC (rest := []) mt_J7_fill_d0a16 (c_fillJ m_aa_1 hf_8) mx_J7_fill_d0a16 ml_X5_22 (by decide) rfl (cells1 := 0) (slots1 := 0) (by decide) (by decide) (Nat.le_of_ble_eq_true rfl) (Nat.le_of_ble_eq_true rfl) rfl (Nat.le_of_ble_eq_true rfl) dX5_begin_15 (fun L_10 f_11 h_12 => ?_)
  obtain ⟨rfl, ⟨g_13, hf_14⟩, hk_15⟩ := h_12
  have hf_16 := (hk_15 aa_0 (ne_kd hf_6 hf_8 rfl)).trans hf_6
  exact hR _ _ _ _ _ _ dX5_begin_18 (Nat.le_of_ble_eq_true rfl) (Nat.le_of_ble_eq_true rfl) ⟨rfl, hf_16, ⟨_, hf_14⟩, fun b nn_0 nn_1 => ((hk_15 b nn_1).trans ((hk_7 b nn_0).trans (hk_3 b nn_0)))⟩
set_option maxRecDepth 100000 in
set_option maxHeartbeats 4000000 in
theorem x_row {l : Launch} {E : Ez} {L : List Nat} {f : Nat → va_E} {he im la nl now np ns nw nwa sl t ta tr wa x : Nat} {gsl : Nat → Option Nat} {a : Int32} {b : Int32} {n : Int32} (m_x : x ∈ L) (e_x : f x = ob 11 [.ref t, .ref now, .ref im, .ref la, .ref sl, .ref np, .ref ns, .ref nw, .ref nwa, .ref nl, .ref he, .ref wa, .ref tr, .ref ta]) (m_sl : sl ∈ L) (e_sl : f sl = aR E 6 4 gsl) (psl : ∀ i : Nat, i < 4 → ∃ q s : Nat, gsl i = some q ∧ q ∈ L ∧ f q = ob 5 [.ref s, .int (-1), .int 0] ∧ s ∈ L ∧ f s = aJ E 60 (fun _ => 0)) : CI l yX11_row cX11_row 4 .int 2 0 0 E [.ref x, .int a, .int b, .int n] L f (fun r L1 f1 => sp_row a b n = r) := by
  refine ci_of (by decide) (Nat.le_of_ble_eq_true rfl) (fun z hz hnm hC hR => ?_)
  have hC : Cx z E cX11_row RX11 4 2 0 0 := hC
  subst hz
  show V z E 4 0 0 L f 0 [(0, .ref x), (1, .int a), (2, .int b), (3, .int n)] []
  refine v_iload_n hC dX11_row_0 rfl ?_
  refine v_si hC (rest := []) mt_X11_isSlot (c_isSlot) mx_X11_isSlot ml_X11_353 (by decide) rfl (cells1 := 0) (slots1 := 0) (by decide) (by decide) (Nat.le_of_ble_eq_true rfl) (Nat.le_of_ble_eq_true rfl) rfl (Nat.le_of_ble_eq_true rfl) dX11_row_1 (fun r_1 L_2 f_3 h_4 => ?_)
  obtain ⟨rfl, rfl, rfl⟩ := h_4
  refine v_if_eq hC dX11_row_4 (tgt := 22) (by decide) (fun h_5 => ?_) (fun h_5 => ?_)
  · have h_6 := bI_0 h_5
    refine v_bipush hC dX11_row_22 (v := (-2)) (by decide) ?_
    exact hR _ _ _ _ _ _ _ dX11_row_24 rfl (Nat.le_of_ble_eq_true rfl) (Nat.le_of_ble_eq_true rfl) (by unfold sp_row; simp only [Int32.lt_iff_toInt_lt, Int32.le_iff_toInt_le, Int32.reduceToInt, ← Int32.toInt_inj] at h_6 ⊢; split <;> (try split) <;> first | rfl | (exfalso; omega))
  · have h_7 := bI_1 h_5
    refine v_iload_n hC dX11_row_7 rfl ?_
    refine v_if_lt hC dX11_row_8 (tgt := 22) (by decide) (fun h_8 => ?_) (fun h_8 => ?_)
    · refine v_bipush hC dX11_row_22 (v := (-2)) (by decide) ?_
      exact hR _ _ _ _ _ _ _ dX11_row_24 rfl (Nat.le_of_ble_eq_true rfl) (Nat.le_of_ble_eq_true rfl) (by unfold sp_row; simp only [Int32.lt_iff_toInt_lt, Int32.le_iff_toInt_le, Int32.reduceToInt, ← Int32.toInt_inj] at h_7 h_8 ⊢; split <;> (try split) <;> first | rfl | (exfalso; omega))
    · refine v_iload_n hC dX11_row_11 rfl ?_
      refine v_iconst hC dX11_row_12 (v := 4) (by decide) ?_
      refine v_icmp_ge hC dX11_row_13 (tgt := 22) (by decide) (fun h_9 => ?_) (fun h_9 => ?_)
      · refine v_bipush hC dX11_row_22 (v := (-2)) (by decide) ?_
        exact hR _ _ _ _ _ _ _ dX11_row_24 rfl (Nat.le_of_ble_eq_true rfl) (Nat.le_of_ble_eq_true rfl) (by unfold sp_row; simp only [Int32.lt_iff_toInt_lt, Int32.le_iff_toInt_le, Int32.reduceToInt, ← Int32.toInt_inj] at h_7 h_8 h_9 ⊢; split <;> (try split) <;> first | rfl | (exfalso; omega))
      · refine v_iload_n hC dX11_row_16 rfl ?_
        refine v_bipush hC dX11_row_17 (v := 60) (by decide) ?_
        refine v_icmp_le hC dX11_row_19 (tgt := 25) (by decide) (fun h_10 => ?_) (fun h_10 => ?_)
        · refine v_iload_n hC dX11_row_25 rfl ?_
          refine v_if_ge hC dX11_row_26 (tgt := 32) (by decide) (fun h_11 => ?_) (fun h_11 => ?_)
          · refine v_aload_n hC dX11_row_32 rfl ?_
            refine v_get hC fl_X11_36 m_x e_x rfl dX11_row_33 ?_
            refine v_iload_n hC dX11_row_36 rfl ?_
            have hin_16 : vp_in a 4 := vp_in_iff.mpr (by simp only [Int32.lt_iff_toInt_lt, Int32.le_iff_toInt_le, Int32.reduceToInt, ← Int32.toInt_inj] at h_7 h_8 h_9 h_10 h_11 ⊢; first | omega | (split <;> first | rfl | (exfalso; omega)))
            obtain ⟨j_12, hj_13, ej_14⟩ := vp_in_of hin_16 (by decide)
            obtain ⟨q_15, s_20, eg_17, m_18, e_19, m_21, e_22⟩ := psl j_12 hj_13
            refine v_aald hC m_sl e_sl (t := 6) (Cn := "StitchSays$Slot") rfl hin_16 (v := .ref q_15) (by rw [ej_14, nI_clamp (by omega), eg_17]; rfl) dX11_row_37 ?_
            refine v_iload_n hC dX11_row_38 rfl ?_
            refine v_iload_n hC dX11_row_39 rfl ?_
            refine v_vv hC (rest := []) m_18 e_19 rfl mi_X5_begin ms_X5_begin (a154_X5_begin m_18 e_19 m_21 e_22) mx_X5_begin ml_X11_356 (by decide) rfl (cells1 := 0) (slots1 := 0) (by decide) (by decide) (Nat.le_of_ble_eq_true rfl) (Nat.le_of_ble_eq_true rfl) rfl (Nat.le_of_ble_eq_true rfl) dX11_row_40 (fun L_24 f_25 h_26 => ?_)
            obtain ⟨rfl, hf_27, ⟨g_30, hf_28⟩, hk_29⟩ := h_26
            have hf_31 := (hk_29 x (ne_kd e_x e_19 rfl) (ne_kd e_x e_22 rfl)).trans e_x
            have hf_32 := (hk_29 sl (ne_kd e_sl e_19 rfl) (ne_kd e_sl e_22 rfl)).trans e_sl
            refine v_iconst hC dX11_row_43 (v := 0) (by decide) ?_
            exact hR _ _ _ _ _ _ _ dX11_row_44 rfl (Nat.le_of_ble_eq_true rfl) (Nat.le_of_ble_eq_true rfl) (by unfold sp_row; simp only [Int32.lt_iff_toInt_lt, Int32.le_iff_toInt_le, Int32.reduceToInt, ← Int32.toInt_inj] at h_7 h_8 h_9 h_10 h_11 ⊢; split <;> (try split) <;> first | rfl | (exfalso; omega))
          · refine v_bipush hC dX11_row_29 (v := (-3)) (by decide) ?_
            exact hR _ _ _ _ _ _ _ dX11_row_31 rfl (Nat.le_of_ble_eq_true rfl) (Nat.le_of_ble_eq_true rfl) (by unfold sp_row; simp only [Int32.lt_iff_toInt_lt, Int32.le_iff_toInt_le, Int32.reduceToInt, ← Int32.toInt_inj] at h_7 h_8 h_9 h_10 h_11 ⊢; split <;> (try split) <;> first | rfl | (exfalso; omega))
        · refine v_bipush hC dX11_row_22 (v := (-2)) (by decide) ?_
          exact hR _ _ _ _ _ _ _ dX11_row_24 rfl (Nat.le_of_ble_eq_true rfl) (Nat.le_of_ble_eq_true rfl) (by unfold sp_row; simp only [Int32.lt_iff_toInt_lt, Int32.le_iff_toInt_le, Int32.reduceToInt, ← Int32.toInt_inj] at h_7 h_8 h_9 h_10 ⊢; split <;> (try split) <;> first | rfl | (exfalso; omega))
