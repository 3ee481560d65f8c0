set_option maxRecDepth 100000 in
set_option maxHeartbeats 4000000 in
theorem d_clears {l : Launch} {E : Ez} {L : List Nat} {f : Nat → va_E} {m wo img hi tp fv fr cl0 pl wd rd tr0 co bi wl mn wi nu mv : Nat} {n0 n5 n7 n8 n9 n10 n11 n12 n13 n17 n20 : Int32} (b e : Nat) (m_m : m ∈ L) (e_m : f m = ob 12 [.int n0, .ref wo, .ref img, .ref hi, .ref tp, .int n5, .ref fv, .int n7, .int n8, .int n9, .int n10, .int n11, .int n12, .int n13, .ref fr, .ref cl0, .ref pl, .int n17, .ref wd, .ref rd, .int n20, .ref tr0, .ref co, .ref bi, .ref wl, .ref mn, .ref wi, .ref nu, .ref mv]) (m_fr : fr ∈ L) (e_fr : f fr = aI E 2076 (fun _ => 0)) (hb : b ≤ e) (he : e ≤ 2076) : CV l yX12_clears cX12_clears 4 0 0 0 E [.ref m, .int (nI b), .int (nI e)] L f (fun L1 f1 => L = L1 ∧ f = f1) := by
  refine cv_of (by decide) (Nat.le_of_ble_eq_true rfl) (fun z hz hnm hC hR => ?_)
  have hC : Cx z E cX12_clears RX12 4 0 0 0 := hC
  subst hz
  show V z E 4 0 0 L f 0 [(0, .ref m), (1, .int (nI b)), (2, .int (nI e))] []
  refine v_iload_n hC dX12_clears_0 rfl ?_
  refine v_istore_n hC dX12_clears_1 (by decide) (lv' := [(3, .int (nI b)), (0, .ref m), (1, .int (nI b)), (2, .int (nI e))]) rfl ?_
  have loop : ∀ (n9 i9 : Nat), i9 + n9 = e → V z E 4 0 0 L f 2 [(3, .int (nI i9)), (0, .ref m), (1, .int (nI b)), (2, .int (nI e))] [] := by
    intro n9
    induction n9 with
    | zero =>
      intro i9 hi9
      refine v_iload_n hC dX12_clears_2 rfl ?_
      refine v_iload_n hC dX12_clears_3 rfl ?_
      refine v_icmp_ge_t hC dX12_clears_4 (tgt := 20) (by decide) (by rw [show i9 = e by omega]; exact Int32.le_refl _) ?_
      exact hR _ _ _ _ _ _ dX12_clears_20 (Nat.le_of_ble_eq_true rfl) (Nat.le_of_ble_eq_true rfl) ⟨rfl, rfl⟩
    | succ n9 ih =>
      intro i9 hi9
      refine v_iload_n hC dX12_clears_2 rfl ?_
      refine v_iload_n hC dX12_clears_3 rfl ?_
      refine v_icmp_ge_f hC dX12_clears_4 (tgt := 20) (by decide) (nI_ge (a := i9) (b := e) (by omega) (by omega)) ?_
      refine v_aload_n hC dX12_clears_7 rfl ?_
      refine v_get hC fl_X12_34 m_m e_m rfl dX12_clears_8 ?_
      refine v_iload_n hC dX12_clears_11 rfl ?_
      refine v_iconst hC dX12_clears_12 (v := 0) (by decide) ?_
      refine v_iast hC m_fr e_fr (vp_in_nI (by omega) (by decide)) dX12_clears_13 (fun f_1 hf_2 hk_3 => ?_)
      rw [upd_zero] at hf_2
      obtain rfl : f = f_1 := (funext (noop e_fr hf_2 hk_3)).symm
      refine v_iinc hC dX12_clears_14 (k := 0) rfl (v := (nI (i9 + 1))) (nI_inc i9) (by decide) (lv' := [(3, .int (nI (i9 + 1))), (0, .ref m), (1, .int (nI b)), (2, .int (nI e))]) rfl ?_
      refine v_goto hC dX12_clears_17 (tgt := 2) (by decide) ?_
      refine v_pick [0, 1, 2, 3] rfl ?_
      exact ih (i9 + 1) (by omega)
  refine v_pick [0, 1, 2, 3] rfl ?_
  exact loop (e - b) b (by omega)
set_option maxRecDepth 100000 in
set_option maxHeartbeats 4000000 in
theorem d_keeps {l : Launch} {E : Ez} {L : List Nat} {f : Nat → va_E} {m wo img hi tp fv fr cl0 pl wd rd tr0 co bi wl mn wi nu mv : Nat} {n0 n5 n7 n8 n9 n10 n11 n12 n13 n17 n20 : Int32} (b e : Nat) (m_m : m ∈ L) (e_m : f m = ob 12 [.int n0, .ref wo, .ref img, .ref hi, .ref tp, .int n5, .ref fv, .int n7, .int n8, .int n9, .int n10, .int n11, .int n12, .int n13, .ref fr, .ref cl0, .ref pl, .int n17, .ref wd, .ref rd, .int n20, .ref tr0, .ref co, .ref bi, .ref wl, .ref mn, .ref wi, .ref nu, .ref mv]) (m_wo : wo ∈ L) (e_wo : f wo = aI E 2076 (fun _ => 0)) (m_fr : fr ∈ L) (e_fr : f fr = aI E 2076 (fun _ => 0)) (hb : b ≤ e) (he : e ≤ 2076) : CV l yX12_keeps cX12_keeps 4 0 0 0 E [.ref m, .int (nI b), .int (nI e)] L f (fun L1 f1 => L = L1 ∧ f = f1) := by
  refine cv_of (by decide) (Nat.le_of_ble_eq_true rfl) (fun z hz hnm hC hR => ?_)
  have hC : Cx z E cX12_keeps RX12 4 0 0 0 := hC
  subst hz
  show V z E 4 0 0 L f 0 [(0, .ref m), (1, .int (nI b)), (2, .int (nI e))] []
  refine v_iload_n hC dX12_keeps_0 rfl ?_
  refine v_istore_n hC dX12_keeps_1 (by decide) (lv' := [(3, .int (nI b)), (0, .ref m), (1, .int (nI b)), (2, .int (nI e))]) rfl ?_
  have loop : ∀ (n9 i9 : Nat), i9 + n9 = e → V z E 4 0 0 L f 2 [(3, .int (nI i9)), (0, .ref m), (1, .int (nI b)), (2, .int (nI e))] [] := by
    intro n9
    induction n9 with
    | zero =>
      intro i9 hi9
      refine v_iload_n hC dX12_keeps_2 rfl ?_
      refine v_iload_n hC dX12_keeps_3 rfl ?_
      refine v_icmp_ge_t hC dX12_keeps_4 (tgt := 25) (by decide) (by rw [show i9 = e by omega]; exact Int32.le_refl _) ?_
      exact hR _ _ _ _ _ _ dX12_keeps_25 (Nat.le_of_ble_eq_true rfl) (Nat.le_of_ble_eq_true rfl) ⟨rfl, rfl⟩
    | succ n9 ih =>
      intro i9 hi9
      refine v_iload_n hC dX12_keeps_2 rfl ?_
      refine v_iload_n hC dX12_keeps_3 rfl ?_
      refine v_icmp_ge_f hC dX12_keeps_4 (tgt := 25) (by decide) (nI_ge (a := i9) (b := e) (by omega) (by omega)) ?_
      refine v_aload_n hC dX12_keeps_7 rfl ?_
      refine v_get hC fl_X12_13 m_m e_m rfl dX12_keeps_8 ?_
      refine v_iload_n hC dX12_keeps_11 rfl ?_
      refine v_aload_n hC dX12_keeps_12 rfl ?_
      refine v_get hC fl_X12_34 m_m e_m rfl dX12_keeps_13 ?_
      refine v_iload_n hC dX12_keeps_16 rfl ?_
      refine v_iald hC m_fr e_fr (vp_in_nI (by omega) (by decide)) (v := 0) rfl dX12_keeps_17 ?_
      refine v_iast hC m_wo e_wo (vp_in_nI (by omega) (by decide)) dX12_keeps_18 (fun f_1 hf_2 hk_3 => ?_)
      rw [upd_zero] at hf_2
      obtain rfl : f = f_1 := (funext (noop e_wo hf_2 hk_3)).symm
      refine v_iinc hC dX12_keeps_19 (k := 0) rfl (v := (nI (i9 + 1))) (nI_inc i9) (by decide) (lv' := [(3, .int (nI (i9 + 1))), (0, .ref m), (1, .int (nI b)), (2, .int (nI e))]) rfl ?_
      refine v_goto hC dX12_keeps_22 (tgt := 2) (by decide) ?_
      refine v_pick [0, 1, 2, 3] rfl ?_
      exact ih (i9 + 1) (by omega)
  refine v_pick [0, 1, 2, 3] rfl ?_
  exact loop (e - b) b (by omega)
set_option maxRecDepth 100000 in
set_option maxHeartbeats 4000000 in
theorem y_fault {l : Launch} {E : Ez} {L : List Nat} {f : Nat → va_E} {m wo img hi tp fv fr cl0 pl wd rd tr0 co bi wl mn wi nu mv : Nat} {w : Int32} (m_m : m ∈ L) (e_m : f m = ob 12 [.int 0, .ref wo, .ref img, .ref hi, .ref tp, .int 0, .ref fv, .int 0, .int 0, .int 0, .int 0, .int 0, .int 0, .int (-1), .ref fr, .ref cl0, .ref pl, .int 0, .ref wd, .ref rd, .int (-1), .ref tr0, .ref co, .ref bi, .ref wl, .ref mn, .ref wi, .ref nu, .ref mv]) : CI l yX12_fault cX12_fault 2 .int 0 0 0 E [.ref m, .int w] L f (fun r L1 f1 => sp_fault w = r) := by
  refine ci_of (by decide) (Nat.le_of_ble_eq_true rfl) (fun z hz hnm hC hR => ?_)
  have hC : Cx z E cX12_fault RX12 2 0 0 0 := hC
  subst hz
  show V z E 2 0 0 L f 0 [(0, .ref m), (1, .int w)] []
  refine v_iload_n hC dX12_fault_0 rfl ?_
  refine v_if_ne hC dX12_fault_1 (tgt := 11) (by decide) (fun h_1 => ?_) (fun h_1 => ?_)
  · refine v_iload_n hC dX12_fault_11 rfl ?_
    refine v_iconst hC dX12_fault_12 (v := 1) (by decide) ?_
    refine v_icmp_ne hC dX12_fault_13 (tgt := 23) (by decide) (fun h_2 => ?_) (fun h_2 => ?_)
    · refine v_iconst hC dX12_fault_23 (v := (-1)) (by decide) ?_
      exact hR _ _ _ _ _ _ _ dX12_fault_24 rfl (Nat.le_of_ble_eq_true rfl) (Nat.le_of_ble_eq_true rfl) (by unfold sp_fault; simp only [Int32.lt_iff_toInt_lt, Int32.le_iff_toInt_le, Int32.reduceToInt, ← Int32.toInt_inj] at h_1 h_2 ⊢; first | omega | (split <;> first | rfl | (exfalso; omega)))
    · refine v_aload_n hC dX12_fault_16 rfl ?_
      refine v_get hC fl_X12_31 m_m e_m rfl dX12_fault_17 ?_
      refine v_goto hC dX12_fault_20 (tgt := 24) (by decide) ?_
      exact hR _ _ _ _ _ _ _ dX12_fault_24 rfl (Nat.le_of_ble_eq_true rfl) (Nat.le_of_ble_eq_true rfl) (by unfold sp_fault; simp only [Int32.lt_iff_toInt_lt, Int32.le_iff_toInt_le, Int32.reduceToInt, ← Int32.toInt_inj] at h_1 h_2 ⊢; first | omega | (split <;> first | rfl | (exfalso; omega)))
  · refine v_aload_n hC dX12_fault_4 rfl ?_
    refine v_get hC fl_X12_111 m_m e_m rfl dX12_fault_5 ?_
    refine v_goto hC dX12_fault_8 (tgt := 24) (by decide) ?_
    exact hR _ _ _ _ _ _ _ dX12_fault_24 rfl (Nat.le_of_ble_eq_true rfl) (Nat.le_of_ble_eq_true rfl) (by unfold sp_fault; simp only [Int32.lt_iff_toInt_lt, Int32.le_iff_toInt_le, Int32.reduceToInt, ← Int32.toInt_inj] at h_1 ⊢; first | omega | (split <;> first | rfl | (exfalso; omega)))
set_option maxRecDepth 100000 in
set_option maxHeartbeats 4000000 in
theorem y_end {l : Launch} {E : Ez} {L : List Nat} {f : Nat → va_E} {m wo img hi tp fv fr cl0 pl wd rd tr0 co bi wl mn wi nu mv : Nat} {n : Int32} (m_m : m ∈ L) (e_m : f m = ob 12 [.int 0, .ref wo, .ref img, .ref hi, .ref tp, .int 0, .ref fv, .int 0, .int 0, .int 0, .int 0, .int 0, .int 0, .int (-1), .ref fr, .ref cl0, .ref pl, .int 0, .ref wd, .ref rd, .int (-1), .ref tr0, .ref co, .ref bi, .ref wl, .ref mn, .ref wi, .ref nu, .ref mv]) : CI l yX12_end cX12_end 2 .int 1 0 0 E [.ref m, .int n] L f (fun r L1 f1 => sp_end n = r) := by
  refine ci_of (by decide) (Nat.le_of_ble_eq_true rfl) (fun z hz hnm hC hR => ?_)
  have hC : Cx z E cX12_end RX12 2 1 0 0 := hC
  subst hz
  show V z E 2 0 0 L f 0 [(0, .ref m), (1, .int n)] []
  refine v_iload_n hC dX12_end_0 rfl ?_
  refine v_i2l hC dX12_end_1 rfl ?_
  refine v_lconst hC dX12_end_2 (v := 0) (by decide) ?_
  refine v_aload_n hC dX12_end_3 rfl ?_
  refine v_get hC fl_X12_102 m_m e_m rfl dX12_end_4 ?_
  refine v_i2l hC dX12_end_7 (v := 0) (by decide) ?_
  refine v_si hC (rest := []) mt_X12_in c_in mx_X12_in ml_X12_79 (by decide) rfl (cells1 := 0) (slots1 := 0) (by decide) (by decide) (Nat.le_of_ble_eq_true rfl) (Nat.le_of_ble_eq_true rfl) rfl (Nat.le_of_ble_eq_true rfl) dX12_end_8 (fun r_1 L_2 f_3 h_4 => ?_)
  obtain ⟨r_19, rfl, rfl⟩ := h_4
  obtain rfl : bI (0 ≤ n ∧ n ≤ 0) = r_1 := (bI_iff (by simp only [Int64.le_iff_toInt_le, Int32.le_iff_toInt_le, Int32.toInt_toInt64, Int64.reduceToInt, Int32.reduceToInt])).trans r_19
  refine v_if_ne hC dX12_end_11 (tgt := 16) (by decide) (fun h_5 => ?_) (fun h_5 => ?_)
  · have h_6 := bI_1 h_5
    refine v_aload_n hC dX12_end_16 rfl ?_
    refine v_iload_n hC dX12_end_17 rfl ?_
    refine v_put hC fl_X12_102 m_m e_m rfl rfl (Nat.le_of_ble_eq_true rfl) (fs' := [.int 0, .ref wo, .ref img, .ref hi, .ref tp, .int n, .ref fv, .int 0, .int 0, .int 0, .int 0, .int 0, .int 0, .int (-1), .ref fr, .ref cl0, .ref pl, .int 0, .ref wd, .ref rd, .int (-1), .ref tr0, .ref co, .ref bi, .ref wl, .ref mn, .ref wi, .ref nu, .ref mv]) rfl dX12_end_18 (fun f_7 hf_8 hk_9 => ?_)
    refine v_iload_n hC dX12_end_21 rfl ?_
    have h99 : n = 0 := by simp only [Int32.lt_iff_toInt_lt, Int32.le_iff_toInt_le, Int32.reduceToInt, ← Int32.toInt_inj] at h_6 ⊢; omega
    exact hR _ _ _ _ _ _ _ dX12_end_22 rfl (Nat.le_of_ble_eq_true rfl) (Nat.le_of_ble_eq_true rfl) (by rw [h99]; rfl)
  · have h_10 := bI_0 h_5
    refine v_iconst hC dX12_end_14 (v := (-1)) (by decide) ?_
    exact hR _ _ _ _ _ _ _ dX12_end_15 rfl (Nat.le_of_ble_eq_true rfl) (Nat.le_of_ble_eq_true rfl) (by unfold sp_end; simp only [Int32.lt_iff_toInt_lt, Int32.le_iff_toInt_le, Int32.reduceToInt, ← Int32.toInt_inj] at h_10 ⊢; first | omega | (split <;> first | rfl | (exfalso; omega)))
set_option maxRecDepth 100000 in
set_option maxHeartbeats 4000000 in
theorem y_feed {l : Launch} {E : Ez} {L : List Nat} {f : Nat → va_E} {m wo img hi tp fv fr cl0 pl wd rd tr0 co bi wl mn wi nu mv : Nat} {a : Int32} {b : Int32} {c : Int32} {d : Int32} {e : Int32} (m_m : m ∈ L) (e_m : f m = ob 12 [.int 0, .ref wo, .ref img, .ref hi, .ref tp, .int 0, .ref fv, .int 0, .int 0, .int 0, .int 0, .int 0, .int 0, .int (-1), .ref fr, .ref cl0, .ref pl, .int 0, .ref wd, .ref rd, .int (-1), .ref tr0, .ref co, .ref bi, .ref wl, .ref mn, .ref wi, .ref nu, .ref mv]) (m_tp : tp ∈ L) (e_tp : f tp = aB E 600 (fun _ => 0)) (m_fv : fv ∈ L) (e_fv : f fv = aI E 5 (fun _ => 0)) : CI l yX12_feed cX12_feed 7 .int 0 0 0 E [.ref m, .int a, .int b, .int c, .int d, .int e] L f (fun r L1 f1 => (20 : Int32) = r) := by
  refine ci_of (by decide) (Nat.le_of_ble_eq_true rfl) (fun z hz hnm hC hR => ?_)
  have hC : Cx z E cX12_feed RX12 7 0 0 0 := hC
  subst hz
  show V z E 7 0 0 L f 0 [(0, .ref m), (1, .int a), (2, .int b), (3, .int c), (4, .int d), (5, .int e)] []
  refine v_aload_n hC dX12_feed_0 rfl ?_
  refine v_get hC fl_X12_102 m_m e_m rfl dX12_feed_1 ?_
  refine v_bipush hC dX12_feed_4 (v := 20) (by decide) ?_
  refine v_iadd hC dX12_feed_6 (v := 20) (by decide) ?_
  refine v_sipush hC dX12_feed_7 (v := 600) (by decide) ?_
  refine v_icmp_le_t hC dX12_feed_10 (tgt := 15) (by decide) (by decide) ?_
  refine v_aload_n hC dX12_feed_15 rfl ?_
  refine v_get hC fl_X12_28 m_m e_m rfl dX12_feed_16 ?_
  refine v_iconst hC dX12_feed_19 (v := 0) (by decide) ?_
  refine v_iload_n hC dX12_feed_20 rfl ?_
  refine v_iast hC m_fv e_fv (by unfold vp_in; decide) dX12_feed_21 (fun f_1 hf_2 hk_3 => ?_)
  obtain ⟨g_4, hf_2⟩ : ∃ g9, f_1 fv = aI E 5 g9 := ⟨_, hf_2⟩
  have hf_5 := (hk_3 m (ne_kd e_m e_fv rfl)).trans e_m
  have hf_6 := (hk_3 tp (ne_kd e_tp e_fv rfl)).trans e_tp
  refine v_aload_n hC dX12_feed_22 rfl ?_
  refine v_get hC fl_X12_28 m_m hf_5 rfl dX12_feed_23 ?_
  refine v_iconst hC dX12_feed_26 (v := 1) (by decide) ?_
  refine v_iload_n hC dX12_feed_27 rfl ?_
  refine v_iast hC m_fv hf_2 (by unfold vp_in; decide) dX12_feed_28 (fun f_7 hf_8 hk_9 => ?_)
  obtain ⟨g_10, hf_8⟩ : ∃ g9, f_7 fv = aI E 5 g9 := ⟨_, hf_8⟩
  have hf_11 := (hk_9 m (ne_kd hf_5 hf_2 rfl)).trans hf_5
  have hf_12 := (hk_9 tp (ne_kd hf_6 hf_2 rfl)).trans hf_6
  refine v_aload_n hC dX12_feed_29 rfl ?_
  refine v_get hC fl_X12_28 m_m hf_11 rfl dX12_feed_30 ?_
  refine v_iconst hC dX12_feed_33 (v := 2) (by decide) ?_
  refine v_iload_n hC dX12_feed_34 rfl ?_
  refine v_iast hC m_fv hf_8 (by unfold vp_in; decide) dX12_feed_35 (fun f_13 hf_14 hk_15 => ?_)
  obtain ⟨g_16, hf_14⟩ : ∃ g9, f_13 fv = aI E 5 g9 := ⟨_, hf_14⟩
  have hf_17 := (hk_15 m (ne_kd hf_11 hf_8 rfl)).trans hf_11
  have hf_18 := (hk_15 tp (ne_kd hf_12 hf_8 rfl)).trans hf_12
  refine v_aload_n hC dX12_feed_36 rfl ?_
  refine v_get hC fl_X12_28 m_m hf_17 rfl dX12_feed_37 ?_
  refine v_iconst hC dX12_feed_40 (v := 3) (by decide) ?_
  refine v_iload hC dX12_feed_41 rfl ?_
  refine v_iast hC m_fv hf_14 (by unfold vp_in; decide) dX12_feed_43 (fun f_19 hf_20 hk_21 => ?_)
  obtain ⟨g_22, hf_20⟩ : ∃ g9, f_19 fv = aI E 5 g9 := ⟨_, hf_20⟩
  have hf_23 := (hk_21 m (ne_kd hf_17 hf_14 rfl)).trans hf_17
  have hf_24 := (hk_21 tp (ne_kd hf_18 hf_14 rfl)).trans hf_18
  refine v_aload_n hC dX12_feed_44 rfl ?_
  refine v_get hC fl_X12_28 m_m hf_23 rfl dX12_feed_45 ?_
  refine v_iconst hC dX12_feed_48 (v := 4) (by decide) ?_
  refine v_iload hC dX12_feed_49 rfl ?_
  refine v_iast hC m_fv hf_20 (by unfold vp_in; decide) dX12_feed_51 (fun f_25 hf_26 hk_27 => ?_)
  obtain ⟨g_28, hf_26⟩ : ∃ g9, f_25 fv = aI E 5 g9 := ⟨_, hf_26⟩
  have hf_29 := (hk_27 m (ne_kd hf_23 hf_20 rfl)).trans hf_23
  have hf_30 := (hk_27 tp (ne_kd hf_24 hf_20 rfl)).trans hf_24
  refine v_iconst hC dX12_feed_52 (v := 0) (by decide) ?_
  refine v_istore hC dX12_feed_53 (by decide) (lv' := [(6, .int 0), (0, .ref m), (1, .int a), (2, .int b), (3, .int c), (4, .int d), (5, .int e)]) rfl ?_
  refine v_iload hC dX12_feed_55 rfl ?_
  refine v_bipush hC dX12_feed_57 (v := 20) (by decide) ?_
  refine v_icmp_ge_f hC dX12_feed_59 (tgt := 101) (by decide) (by decide) ?_
  refine v_aload_n hC dX12_feed_62 rfl ?_
  refine v_get hC fl_X12_24 m_m hf_29 rfl dX12_feed_63 ?_
  refine v_aload_n hC dX12_feed_66 rfl ?_
  refine v_get hC fl_X12_102 m_m hf_29 rfl dX12_feed_67 ?_
  refine v_iload hC dX12_feed_70 rfl ?_
  refine v_iadd hC dX12_feed_72 (v := 0) (by decide) ?_
  refine v_aload_n hC dX12_feed_73 rfl ?_
  refine v_get hC fl_X12_28 m_m hf_29 rfl dX12_feed_74 ?_
  refine v_iload hC dX12_feed_77 rfl ?_
  refine v_iconst hC dX12_feed_79 (v := 4) (by decide) ?_
  refine v_idiv hC dX12_feed_80 (by decide) (v := 0) (by decide) ?_
  refine v_iald hC m_fv hf_26 (by unfold vp_in; decide) rfl dX12_feed_81 ?_
  refine v_bipush hC dX12_feed_82 (v := 24) (by decide) ?_
  refine v_bipush hC dX12_feed_84 (v := 8) (by decide) ?_
  refine v_iload hC dX12_feed_86 rfl ?_
  refine v_iconst hC dX12_feed_88 (v := 4) (by decide) ?_
  refine v_irem hC dX12_feed_89 (by decide) (v := 0) (by decide) ?_
  refine v_imul hC dX12_feed_90 (v := 0) (by decide) ?_
  refine v_isub hC dX12_feed_91 (v := 24) (by decide) ?_
  refine v_ishr hC dX12_feed_92 rfl ?_
  refine v_i2b hC dX12_feed_93 rfl ?_
  refine v_bast hC m_tp hf_30 (by unfold vp_in; decide) dX12_feed_94 (fun f_31 hf_32 hk_33 => ?_)
  obtain ⟨g_34, hf_32⟩ : ∃ g9, f_31 tp = aB E 600 g9 := ⟨_, hf_32⟩
  have hf_35 := (hk_33 m (ne_kd hf_29 hf_30 rfl)).trans hf_29
  have hf_36 := (hk_33 fv (ne_kd hf_26 hf_30 rfl)).trans hf_26
  refine v_iinc hC dX12_feed_95 (k := 0) rfl (v := 1) (by decide) (by decide) (lv' := [(6, .int 1), (0, .ref m), (1, .int a), (2, .int b), (3, .int c), (4, .int d), (5, .int e)]) rfl ?_
  refine v_goto hC dX12_feed_98 (tgt := 55) (by decide) ?_
  refine v_iload hC dX12_feed_55 rfl ?_
  refine v_bipush hC dX12_feed_57 (v := 20) (by decide) ?_
  refine v_icmp_ge_f hC dX12_feed_59 (tgt := 101) (by decide) (by decide) ?_
  refine v_aload_n hC dX12_feed_62 rfl ?_
  refine v_get hC fl_X12_24 m_m hf_35 rfl dX12_feed_63 ?_
  refine v_aload_n hC dX12_feed_66 rfl ?_
  refine v_get hC fl_X12_102 m_m hf_35 rfl dX12_feed_67 ?_
  refine v_iload hC dX12_feed_70 rfl ?_
  refine v_iadd hC dX12_feed_72 (v := 1) (by decide) ?_
  refine v_aload_n hC dX12_feed_73 rfl ?_
  refine v_get hC fl_X12_28 m_m hf_35 rfl dX12_feed_74 ?_
  refine v_iload hC dX12_feed_77 rfl ?_
  refine v_iconst hC dX12_feed_79 (v := 4) (by decide) ?_
  refine v_idiv hC dX12_feed_80 (by decide) (v := 0) (by decide) ?_
  refine v_iald hC m_fv hf_36 (by unfold vp_in; decide) rfl dX12_feed_81 ?_
  refine v_bipush hC dX12_feed_82 (v := 24) (by decide) ?_
  refine v_bipush hC dX12_feed_84 (v := 8) (by decide) ?_
  refine v_iload hC dX12_feed_86 rfl ?_
  refine v_iconst hC dX12_feed_88 (v := 4) (by decide) ?_
  refine v_irem hC dX12_feed_89 (by decide) (v := 1) (by decide) ?_
  refine v_imul hC dX12_feed_90 (v := 8) (by decide) ?_
  refine v_isub hC dX12_feed_91 (v := 16) (by decide) ?_
  refine v_ishr hC dX12_feed_92 rfl ?_
  refine v_i2b hC dX12_feed_93 rfl ?_
  refine v_bast hC m_tp hf_32 (by unfold vp_in; decide) dX12_feed_94 (fun f_37 hf_38 hk_39 => ?_)
  obtain ⟨g_40, hf_38⟩ : ∃ g9, f_37 tp = aB E 600 g9 := ⟨_, hf_38⟩
  have hf_41 := (hk_39 m (ne_kd hf_35 hf_32 rfl)).trans hf_35
  have hf_42 := (hk_39 fv (ne_kd hf_36 hf_32 rfl)).trans hf_36
  refine v_iinc hC dX12_feed_95 (k := 0) rfl (v := 2) (by decide) (by decide) (lv' := [(6, .int 2), (0, .ref m), (1, .int a), (2, .int b), (3, .int c), (4, .int d), (5, .int e)]) rfl ?_
  refine v_goto hC dX12_feed_98 (tgt := 55) (by decide) ?_
  refine v_iload hC dX12_feed_55 rfl ?_
  refine v_bipush hC dX12_feed_57 (v := 20) (by decide) ?_
  refine v_icmp_ge_f hC dX12_feed_59 (tgt := 101) (by decide) (by decide) ?_
  refine v_aload_n hC dX12_feed_62 rfl ?_
  refine v_get hC fl_X12_24 m_m hf_41 rfl dX12_feed_63 ?_
  refine v_aload_n hC dX12_feed_66 rfl ?_
  refine v_get hC fl_X12_102 m_m hf_41 rfl dX12_feed_67 ?_
  refine v_iload hC dX12_feed_70 rfl ?_
  refine v_iadd hC dX12_feed_72 (v := 2) (by decide) ?_
  refine v_aload_n hC dX12_feed_73 rfl ?_
  refine v_get hC fl_X12_28 m_m hf_41 rfl dX12_feed_74 ?_
  refine v_iload hC dX12_feed_77 rfl ?_
  refine v_iconst hC dX12_feed_79 (v := 4) (by decide) ?_
  refine v_idiv hC dX12_feed_80 (by decide) (v := 0) (by decide) ?_
  refine v_iald hC m_fv hf_42 (by unfold vp_in; decide) rfl dX12_feed_81 ?_
  refine v_bipush hC dX12_feed_82 (v := 24) (by decide) ?_
  refine v_bipush hC dX12_feed_84 (v := 8) (by decide) ?_
  refine v_iload hC dX12_feed_86 rfl ?_
  refine v_iconst hC dX12_feed_88 (v := 4) (by decide) ?_
  refine v_irem hC dX12_feed_89 (by decide) (v := 2) (by decide) ?_
  refine v_imul hC dX12_feed_90 (v := 16) (by decide) ?_
  refine v_isub hC dX12_feed_91 (v := 8) (by decide) ?_
  refine v_ishr hC dX12_feed_92 rfl ?_
  refine v_i2b hC dX12_feed_93 rfl ?_
  refine v_bast hC m_tp hf_38 (by unfold vp_in; decide) dX12_feed_94 (fun f_43 hf_44 hk_45 => ?_)
  obtain ⟨g_46, hf_44⟩ : ∃ g9, f_43 tp = aB E 600 g9 := ⟨_, hf_44⟩
  have hf_47 := (hk_45 m (ne_kd hf_41 hf_38 rfl)).trans hf_41
  have hf_48 := (hk_45 fv (ne_kd hf_42 hf_38 rfl)).trans hf_42
  refine v_iinc hC dX12_feed_95 (k := 0) rfl (v := 3) (by decide) (by decide) (lv' := [(6, .int 3), (0, .ref m), (1, .int a), (2, .int b), (3, .int c), (4, .int d), (5, .int e)]) rfl ?_
  refine v_goto hC dX12_feed_98 (tgt := 55) (by decide) ?_
  refine v_iload hC dX12_feed_55 rfl ?_
  refine v_bipush hC dX12_feed_57 (v := 20) (by decide) ?_
  refine v_icmp_ge_f hC dX12_feed_59 (tgt := 101) (by decide) (by decide) ?_
  refine v_aload_n hC dX12_feed_62 rfl ?_
  refine v_get hC fl_X12_24 m_m hf_47 rfl dX12_feed_63 ?_
  refine v_aload_n hC dX12_feed_66 rfl ?_
  refine v_get hC fl_X12_102 m_m hf_47 rfl dX12_feed_67 ?_
  refine v_iload hC dX12_feed_70 rfl ?_
  refine v_iadd hC dX12_feed_72 (v := 3) (by decide) ?_
  refine v_aload_n hC dX12_feed_73 rfl ?_
  refine v_get hC fl_X12_28 m_m hf_47 rfl dX12_feed_74 ?_
  refine v_iload hC dX12_feed_77 rfl ?_
  refine v_iconst hC dX12_feed_79 (v := 4) (by decide) ?_
  refine v_idiv hC dX12_feed_80 (by decide) (v := 0) (by decide) ?_
  refine v_iald hC m_fv hf_48 (by unfold vp_in; decide) rfl dX12_feed_81 ?_
  refine v_bipush hC dX12_feed_82 (v := 24) (by decide) ?_
  refine v_bipush hC dX12_feed_84 (v := 8) (by decide) ?_
  refine v_iload hC dX12_feed_86 rfl ?_
  refine v_iconst hC dX12_feed_88 (v := 4) (by decide) ?_
  refine v_irem hC dX12_feed_89 (by decide) (v := 3) (by decide) ?_
  refine v_imul hC dX12_feed_90 (v := 24) (by decide) ?_
  refine v_isub hC dX12_feed_91 (v := 0) (by decide) ?_
  refine v_ishr hC dX12_feed_92 rfl ?_
  refine v_i2b hC dX12_feed_93 rfl ?_
  refine v_bast hC m_tp hf_44 (by unfold vp_in; decide) dX12_feed_94 (fun f_49 hf_50 hk_51 => ?_)
  obtain ⟨g_52, hf_50⟩ : ∃ g9, f_49 tp = aB E 600 g9 := ⟨_, hf_50⟩
  have hf_53 := (hk_51 m (ne_kd hf_47 hf_44 rfl)).trans hf_47
  have hf_54 := (hk_51 fv (ne_kd hf_48 hf_44 rfl)).trans hf_48
  refine v_iinc hC dX12_feed_95 (k := 0) rfl (v := 4) (by decide) (by decide) (lv' := [(6, .int 4), (0, .ref m), (1, .int a), (2, .int b), (3, .int c), (4, .int d), (5, .int e)]) rfl ?_
  refine v_goto hC dX12_feed_98 (tgt := 55) (by decide) ?_
  refine v_iload hC dX12_feed_55 rfl ?_
  refine v_bipush hC dX12_feed_57 (v := 20) (by decide) ?_
  refine v_icmp_ge_f hC dX12_feed_59 (tgt := 101) (by decide) (by decide) ?_
  refine v_aload_n hC dX12_feed_62 rfl ?_
  refine v_get hC fl_X12_24 m_m hf_53 rfl dX12_feed_63 ?_
  refine v_aload_n hC dX12_feed_66 rfl ?_
  refine v_get hC fl_X12_102 m_m hf_53 rfl dX12_feed_67 ?_
  refine v_iload hC dX12_feed_70 rfl ?_
  refine v_iadd hC dX12_feed_72 (v := 4) (by decide) ?_
  refine v_aload_n hC dX12_feed_73 rfl ?_
  refine v_get hC fl_X12_28 m_m hf_53 rfl dX12_feed_74 ?_
  refine v_iload hC dX12_feed_77 rfl ?_
  refine v_iconst hC dX12_feed_79 (v := 4) (by decide) ?_
  refine v_idiv hC dX12_feed_80 (by decide) (v := 1) (by decide) ?_
  refine v_iald hC m_fv hf_54 (by unfold vp_in; decide) rfl dX12_feed_81 ?_
  refine v_bipush hC dX12_feed_82 (v := 24) (by decide) ?_
  refine v_bipush hC dX12_feed_84 (v := 8) (by decide) ?_
  refine v_iload hC dX12_feed_86 rfl ?_
  refine v_iconst hC dX12_feed_88 (v := 4) (by decide) ?_
  refine v_irem hC dX12_feed_89 (by decide) (v := 0) (by decide) ?_
  refine v_imul hC dX12_feed_90 (v := 0) (by decide) ?_
  refine v_isub hC dX12_feed_91 (v := 24) (by decide) ?_
  refine v_ishr hC dX12_feed_92 rfl ?_
  refine v_i2b hC dX12_feed_93 rfl ?_
  refine v_bast hC m_tp hf_50 (by unfold vp_in; decide) dX12_feed_94 (fun f_55 hf_56 hk_57 => ?_)
  obtain ⟨g_58, hf_56⟩ : ∃ g9, f_55 tp = aB E 600 g9 := ⟨_, hf_56⟩
  have hf_59 := (hk_57 m (ne_kd hf_53 hf_50 rfl)).trans hf_53
  have hf_60 := (hk_57 fv (ne_kd hf_54 hf_50 rfl)).trans hf_54
  refine v_iinc hC dX12_feed_95 (k := 0) rfl (v := 5) (by decide) (by decide) (lv' := [(6, .int 5), (0, .ref m), (1, .int a), (2, .int b), (3, .int c), (4, .int d), (5, .int e)]) rfl ?_
  refine v_goto hC dX12_feed_98 (tgt := 55) (by decide) ?_
  refine v_iload hC dX12_feed_55 rfl ?_
  refine v_bipush hC dX12_feed_57 (v := 20) (by decide) ?_
  refine v_icmp_ge_f hC dX12_feed_59 (tgt := 101) (by decide) (by decide) ?_
  refine v_aload_n hC dX12_feed_62 rfl ?_
  refine v_get hC fl_X12_24 m_m hf_59 rfl dX12_feed_63 ?_
  refine v_aload_n hC dX12_feed_66 rfl ?_
  refine v_get hC fl_X12_102 m_m hf_59 rfl dX12_feed_67 ?_
  refine v_iload hC dX12_feed_70 rfl ?_
  refine v_iadd hC dX12_feed_72 (v := 5) (by decide) ?_
  refine v_aload_n hC dX12_feed_73 rfl ?_
  refine v_get hC fl_X12_28 m_m hf_59 rfl dX12_feed_74 ?_
  refine v_iload hC dX12_feed_77 rfl ?_
  refine v_iconst hC dX12_feed_79 (v := 4) (by decide) ?_
  refine v_idiv hC dX12_feed_80 (by decide) (v := 1) (by decide) ?_
  refine v_iald hC m_fv hf_60 (by unfold vp_in; decide) rfl dX12_feed_81 ?_
  refine v_bipush hC dX12_feed_82 (v := 24) (by decide) ?_
  refine v_bipush hC dX12_feed_84 (v := 8) (by decide) ?_
  refine v_iload hC dX12_feed_86 rfl ?_
  refine v_iconst hC dX12_feed_88 (v := 4) (by decide) ?_
  refine v_irem hC dX12_feed_89 (by decide) (v := 1) (by decide) ?_
  refine v_imul hC dX12_feed_90 (v := 8) (by decide) ?_
  refine v_isub hC dX12_feed_91 (v := 16) (by decide) ?_
  refine v_ishr hC dX12_feed_92 rfl ?_
  refine v_i2b hC dX12_feed_93 rfl ?_
  refine v_bast hC m_tp hf_56 (by unfold vp_in; decide) dX12_feed_94 (fun f_61 hf_62 hk_63 => ?_)
  obtain ⟨g_64, hf_62⟩ : ∃ g9, f_61 tp = aB E 600 g9 := ⟨_, hf_62⟩
  have hf_65 := (hk_63 m (ne_kd hf_59 hf_56 rfl)).trans hf_59
  have hf_66 := (hk_63 fv (ne_kd hf_60 hf_56 rfl)).trans hf_60
  refine v_iinc hC dX12_feed_95 (k := 0) rfl (v := 6) (by decide) (by decide) (lv' := [(6, .int 6), (0, .ref m), (1, .int a), (2, .int b), (3, .int c), (4, .int d), (5, .int e)]) rfl ?_
  refine v_goto hC dX12_feed_98 (tgt := 55) (by decide) ?_
  refine v_iload hC dX12_feed_55 rfl ?_
  refine v_bipush hC dX12_feed_57 (v := 20) (by decide) ?_
  refine v_icmp_ge_f hC dX12_feed_59 (tgt := 101) (by decide) (by decide) ?_
  refine v_aload_n hC dX12_feed_62 rfl ?_
  refine v_get hC fl_X12_24 m_m hf_65 rfl dX12_feed_63 ?_
  refine v_aload_n hC dX12_feed_66 rfl ?_
  refine v_get hC fl_X12_102 m_m hf_65 rfl dX12_feed_67 ?_
  refine v_iload hC dX12_feed_70 rfl ?_
  refine v_iadd hC dX12_feed_72 (v := 6) (by decide) ?_
  refine v_aload_n hC dX12_feed_73 rfl ?_
  refine v_get hC fl_X12_28 m_m hf_65 rfl dX12_feed_74 ?_
  refine v_iload hC dX12_feed_77 rfl ?_
  refine v_iconst hC dX12_feed_79 (v := 4) (by decide) ?_
  refine v_idiv hC dX12_feed_80 (by decide) (v := 1) (by decide) ?_
  refine v_iald hC m_fv hf_66 (by unfold vp_in; decide) rfl dX12_feed_81 ?_
  refine v_bipush hC dX12_feed_82 (v := 24) (by decide) ?_
  refine v_bipush hC dX12_feed_84 (v := 8) (by decide) ?_
  refine v_iload hC dX12_feed_86 rfl ?_
  refine v_iconst hC dX12_feed_88 (v := 4) (by decide) ?_
  refine v_irem hC dX12_feed_89 (by decide) (v := 2) (by decide) ?_
  refine v_imul hC dX12_feed_90 (v := 16) (by decide) ?_
  refine v_isub hC dX12_feed_91 (v := 8) (by decide) ?_
  refine v_ishr hC dX12_feed_92 rfl ?_
  refine v_i2b hC dX12_feed_93 rfl ?_
  refine v_bast hC m_tp hf_62 (by unfold vp_in; decide) dX12_feed_94 (fun f_67 hf_68 hk_69 => ?_)
  obtain ⟨g_70, hf_68⟩ : ∃ g9, f_67 tp = aB E 600 g9 := ⟨_, hf_68⟩
  have hf_71 := (hk_69 m (ne_kd hf_65 hf_62 rfl)).trans hf_65
  have hf_72 := (hk_69 fv (ne_kd hf_66 hf_62 rfl)).trans hf_66
  refine v_iinc hC dX12_feed_95 (k := 0) rfl (v := 7) (by decide) (by decide) (lv' := [(6, .int 7), (0, .ref m), (1, .int a), (2, .int b), (3, .int c), (4, .int d), (5, .int e)]) rfl ?_
  refine v_goto hC dX12_feed_98 (tgt := 55) (by decide) ?_
  refine v_iload hC dX12_feed_55 rfl ?_
  refine v_bipush hC dX12_feed_57 (v := 20) (by decide) ?_
  refine v_icmp_ge_f hC dX12_feed_59 (tgt := 101) (by decide) (by decide) ?_
  refine v_aload_n hC dX12_feed_62 rfl ?_
  refine v_get hC fl_X12_24 m_m hf_71 rfl dX12_feed_63 ?_
  refine v_aload_n hC dX12_feed_66 rfl ?_
  refine v_get hC fl_X12_102 m_m hf_71 rfl dX12_feed_67 ?_
  refine v_iload hC dX12_feed_70 rfl ?_
  refine v_iadd hC dX12_feed_72 (v := 7) (by decide) ?_
  refine v_aload_n hC dX12_feed_73 rfl ?_
  refine v_get hC fl_X12_28 m_m hf_71 rfl dX12_feed_74 ?_
  refine v_iload hC dX12_feed_77 rfl ?_
  refine v_iconst hC dX12_feed_79 (v := 4) (by decide) ?_
  refine v_idiv hC dX12_feed_80 (by decide) (v := 1) (by decide) ?_
  refine v_iald hC m_fv hf_72 (by unfold vp_in; decide) rfl dX12_feed_81 ?_
  refine v_bipush hC dX12_feed_82 (v := 24) (by decide) ?_
  refine v_bipush hC dX12_feed_84 (v := 8) (by decide) ?_
  refine v_iload hC dX12_feed_86 rfl ?_
  refine v_iconst hC dX12_feed_88 (v := 4) (by decide) ?_
  refine v_irem hC dX12_feed_89 (by decide) (v := 3) (by decide) ?_
  refine v_imul hC dX12_feed_90 (v := 24) (by decide) ?_
  refine v_isub hC dX12_feed_91 (v := 0) (by decide) ?_
  refine v_ishr hC dX12_feed_92 rfl ?_
  refine v_i2b hC dX12_feed_93 rfl ?_
  refine v_bast hC m_tp hf_68 (by unfold vp_in; decide) dX12_feed_94 (fun f_73 hf_74 hk_75 => ?_)
  obtain ⟨g_76, hf_74⟩ : ∃ g9, f_73 tp = aB E 600 g9 := ⟨_, hf_74⟩
  have hf_77 := (hk_75 m (ne_kd hf_71 hf_68 rfl)).trans hf_71
  have hf_78 := (hk_75 fv (ne_kd hf_72 hf_68 rfl)).trans hf_72
  refine v_iinc hC dX12_feed_95 (k := 0) rfl (v := 8) (by decide) (by decide) (lv' := [(6, .int 8), (0, .ref m), (1, .int a), (2, .int b), (3, .int c), (4, .int d), (5, .int e)]) rfl ?_
  refine v_goto hC dX12_feed_98 (tgt := 55) (by decide) ?_
  refine v_iload hC dX12_feed_55 rfl ?_
  refine v_bipush hC dX12_feed_57 (v := 20) (by decide) ?_
  refine v_icmp_ge_f hC dX12_feed_59 (tgt := 101) (by decide) (by decide) ?_
  refine v_aload_n hC dX12_feed_62 rfl ?_
  refine v_get hC fl_X12_24 m_m hf_77 rfl dX12_feed_63 ?_
  refine v_aload_n hC dX12_feed_66 rfl ?_
  refine v_get hC fl_X12_102 m_m hf_77 rfl dX12_feed_67 ?_
  refine v_iload hC dX12_feed_70 rfl ?_
  refine v_iadd hC dX12_feed_72 (v := 8) (by decide) ?_
  refine v_aload_n hC dX12_feed_73 rfl ?_
  refine v_get hC fl_X12_28 m_m hf_77 rfl dX12_feed_74 ?_
  refine v_iload hC dX12_feed_77 rfl ?_
  refine v_iconst hC dX12_feed_79 (v := 4) (by decide) ?_
  refine v_idiv hC dX12_feed_80 (by decide) (v := 2) (by decide) ?_
  refine v_iald hC m_fv hf_78 (by unfold vp_in; decide) rfl dX12_feed_81 ?_
  refine v_bipush hC dX12_feed_82 (v := 24) (by decide) ?_
  refine v_bipush hC dX12_feed_84 (v := 8) (by decide) ?_
  refine v_iload hC dX12_feed_86 rfl ?_
  refine v_iconst hC dX12_feed_88 (v := 4) (by decide) ?_
  refine v_irem hC dX12_feed_89 (by decide) (v := 0) (by decide) ?_
  refine v_imul hC dX12_feed_90 (v := 0) (by decide) ?_
  refine v_isub hC dX12_feed_91 (v := 24) (by decide) ?_
  refine v_ishr hC dX12_feed_92 rfl ?_
  refine v_i2b hC dX12_feed_93 rfl ?_
  refine v_bast hC m_tp hf_74 (by unfold vp_in; decide) dX12_feed_94 (fun f_79 hf_80 hk_81 => ?_)
  obtain ⟨g_82, hf_80⟩ : ∃ g9, f_79 tp = aB E 600 g9 := ⟨_, hf_80⟩
  have hf_83 := (hk_81 m (ne_kd hf_77 hf_74 rfl)).trans hf_77
  have hf_84 := (hk_81 fv (ne_kd hf_78 hf_74 rfl)).trans hf_78
  refine v_iinc hC dX12_feed_95 (k := 0) rfl (v := 9) (by decide) (by decide) (lv' := [(6, .int 9), (0, .ref m), (1, .int a), (2, .int b), (3, .int c), (4, .int d), (5, .int e)]) rfl ?_
  refine v_goto hC dX12_feed_98 (tgt := 55) (by decide) ?_
  refine v_iload hC dX12_feed_55 rfl ?_
  refine v_bipush hC dX12_feed_57 (v := 20) (by decide) ?_
  refine v_icmp_ge_f hC dX12_feed_59 (tgt := 101) (by decide) (by decide) ?_
  refine v_aload_n hC dX12_feed_62 rfl ?_
  refine v_get hC fl_X12_24 m_m hf_83 rfl dX12_feed_63 ?_
  refine v_aload_n hC dX12_feed_66 rfl ?_
  refine v_get hC fl_X12_102 m_m hf_83 rfl dX12_feed_67 ?_
  refine v_iload hC dX12_feed_70 rfl ?_
  refine v_iadd hC dX12_feed_72 (v := 9) (by decide) ?_
  refine v_aload_n hC dX12_feed_73 rfl ?_
  refine v_get hC fl_X12_28 m_m hf_83 rfl dX12_feed_74 ?_
  refine v_iload hC dX12_feed_77 rfl ?_
  refine v_iconst hC dX12_feed_79 (v := 4) (by decide) ?_
  refine v_idiv hC dX12_feed_80 (by decide) (v := 2) (by decide) ?_
  refine v_iald hC m_fv hf_84 (by unfold vp_in; decide) rfl dX12_feed_81 ?_
  refine v_bipush hC dX12_feed_82 (v := 24) (by decide) ?_
  refine v_bipush hC dX12_feed_84 (v := 8) (by decide) ?_
  refine v_iload hC dX12_feed_86 rfl ?_
  refine v_iconst hC dX12_feed_88 (v := 4) (by decide) ?_
  refine v_irem hC dX12_feed_89 (by decide) (v := 1) (by decide) ?_
  refine v_imul hC dX12_feed_90 (v := 8) (by decide) ?_
  refine v_isub hC dX12_feed_91 (v := 16) (by decide) ?_
  refine v_ishr hC dX12_feed_92 rfl ?_
  refine v_i2b hC dX12_feed_93 rfl ?_
  refine v_bast hC m_tp hf_80 (by unfold vp_in; decide) dX12_feed_94 (fun f_85 hf_86 hk_87 => ?_)
  obtain ⟨g_88, hf_86⟩ : ∃ g9, f_85 tp = aB E 600 g9 := ⟨_, hf_86⟩
  have hf_89 := (hk_87 m (ne_kd hf_83 hf_80 rfl)).trans hf_83
  have hf_90 := (hk_87 fv (ne_kd hf_84 hf_80 rfl)).trans hf_84
  refine v_iinc hC dX12_feed_95 (k := 0) rfl (v := 10) (by decide) (by decide) (lv' := [(6, .int 10), (0, .ref m), (1, .int a), (2, .int b), (3, .int c), (4, .int d), (5, .int e)]) rfl ?_
  refine v_goto hC dX12_feed_98 (tgt := 55) (by decide) ?_
  refine v_iload hC dX12_feed_55 rfl ?_
  refine v_bipush hC dX12_feed_57 (v := 20) (by decide) ?_
  refine v_icmp_ge_f hC dX12_feed_59 (tgt := 101) (by decide) (by decide) ?_
  refine v_aload_n hC dX12_feed_62 rfl ?_
  refine v_get hC fl_X12_24 m_m hf_89 rfl dX12_feed_63 ?_
  refine v_aload_n hC dX12_feed_66 rfl ?_
  refine v_get hC fl_X12_102 m_m hf_89 rfl dX12_feed_67 ?_
  refine v_iload hC dX12_feed_70 rfl ?_
  refine v_iadd hC dX12_feed_72 (v := 10) (by decide) ?_
  refine v_aload_n hC dX12_feed_73 rfl ?_
  refine v_get hC fl_X12_28 m_m hf_89 rfl dX12_feed_74 ?_
  refine v_iload hC dX12_feed_77 rfl ?_
  refine v_iconst hC dX12_feed_79 (v := 4) (by decide) ?_
  refine v_idiv hC dX12_feed_80 (by decide) (v := 2) (by decide) ?_
  refine v_iald hC m_fv hf_90 (by unfold vp_in; decide) rfl dX12_feed_81 ?_
  refine v_bipush hC dX12_feed_82 (v := 24) (by decide) ?_
  refine v_bipush hC dX12_feed_84 (v := 8) (by decide) ?_
  refine v_iload hC dX12_feed_86 rfl ?_
  refine v_iconst hC dX12_feed_88 (v := 4) (by decide) ?_
  refine v_irem hC dX12_feed_89 (by decide) (v := 2) (by decide) ?_
  refine v_imul hC dX12_feed_90 (v := 16) (by decide) ?_
  refine v_isub hC dX12_feed_91 (v := 8) (by decide) ?_
  refine v_ishr hC dX12_feed_92 rfl ?_
  refine v_i2b hC dX12_feed_93 rfl ?_
  refine v_bast hC m_tp hf_86 (by unfold vp_in; decide) dX12_feed_94 (fun f_91 hf_92 hk_93 => ?_)
  obtain ⟨g_94, hf_92⟩ : ∃ g9, f_91 tp = aB E 600 g9 := ⟨_, hf_92⟩
  have hf_95 := (hk_93 m (ne_kd hf_89 hf_86 rfl)).trans hf_89
  have hf_96 := (hk_93 fv (ne_kd hf_90 hf_86 rfl)).trans hf_90
  refine v_iinc hC dX12_feed_95 (k := 0) rfl (v := 11) (by decide) (by decide) (lv' := [(6, .int 11), (0, .ref m), (1, .int a), (2, .int b), (3, .int c), (4, .int d), (5, .int e)]) rfl ?_
  refine v_goto hC dX12_feed_98 (tgt := 55) (by decide) ?_
  refine v_iload hC dX12_feed_55 rfl ?_
  refine v_bipush hC dX12_feed_57 (v := 20) (by decide) ?_
  refine v_icmp_ge_f hC dX12_feed_59 (tgt := 101) (by decide) (by decide) ?_
  refine v_aload_n hC dX12_feed_62 rfl ?_
  refine v_get hC fl_X12_24 m_m hf_95 rfl dX12_feed_63 ?_
  refine v_aload_n hC dX12_feed_66 rfl ?_
  refine v_get hC fl_X12_102 m_m hf_95 rfl dX12_feed_67 ?_
  refine v_iload hC dX12_feed_70 rfl ?_
  refine v_iadd hC dX12_feed_72 (v := 11) (by decide) ?_
  refine v_aload_n hC dX12_feed_73 rfl ?_
  refine v_get hC fl_X12_28 m_m hf_95 rfl dX12_feed_74 ?_
  refine v_iload hC dX12_feed_77 rfl ?_
  refine v_iconst hC dX12_feed_79 (v := 4) (by decide) ?_
  refine v_idiv hC dX12_feed_80 (by decide) (v := 2) (by decide) ?_
  refine v_iald hC m_fv hf_96 (by unfold vp_in; decide) rfl dX12_feed_81 ?_
  refine v_bipush hC dX12_feed_82 (v := 24) (by decide) ?_
  refine v_bipush hC dX12_feed_84 (v := 8) (by decide) ?_
  refine v_iload hC dX12_feed_86 rfl ?_
  refine v_iconst hC dX12_feed_88 (v := 4) (by decide) ?_
  refine v_irem hC dX12_feed_89 (by decide) (v := 3) (by decide) ?_
  refine v_imul hC dX12_feed_90 (v := 24) (by decide) ?_
  refine v_isub hC dX12_feed_91 (v := 0) (by decide) ?_
  refine v_ishr hC dX12_feed_92 rfl ?_
  refine v_i2b hC dX12_feed_93 rfl ?_
  refine v_bast hC m_tp hf_92 (by unfold vp_in; decide) dX12_feed_94 (fun f_97 hf_98 hk_99 => ?_)
  obtain ⟨g_100, hf_98⟩ : ∃ g9, f_97 tp = aB E 600 g9 := ⟨_, hf_98⟩
  have hf_101 := (hk_99 m (ne_kd hf_95 hf_92 rfl)).trans hf_95
  have hf_102 := (hk_99 fv (ne_kd hf_96 hf_92 rfl)).trans hf_96
  refine v_iinc hC dX12_feed_95 (k := 0) rfl (v := 12) (by decide) (by decide) (lv' := [(6, .int 12), (0, .ref m), (1, .int a), (2, .int b), (3, .int c), (4, .int d), (5, .int e)]) rfl ?_
  refine v_goto hC dX12_feed_98 (tgt := 55) (by decide) ?_
  refine v_iload hC dX12_feed_55 rfl ?_
  refine v_bipush hC dX12_feed_57 (v := 20) (by decide) ?_
  refine v_icmp_ge_f hC dX12_feed_59 (tgt := 101) (by decide) (by decide) ?_
  refine v_aload_n hC dX12_feed_62 rfl ?_
  refine v_get hC fl_X12_24 m_m hf_101 rfl dX12_feed_63 ?_
  refine v_aload_n hC dX12_feed_66 rfl ?_
  refine v_get hC fl_X12_102 m_m hf_101 rfl dX12_feed_67 ?_
  refine v_iload hC dX12_feed_70 rfl ?_
  refine v_iadd hC dX12_feed_72 (v := 12) (by decide) ?_
  refine v_aload_n hC dX12_feed_73 rfl ?_
  refine v_get hC fl_X12_28 m_m hf_101 rfl dX12_feed_74 ?_
  refine v_iload hC dX12_feed_77 rfl ?_
  refine v_iconst hC dX12_feed_79 (v := 4) (by decide) ?_
  refine v_idiv hC dX12_feed_80 (by decide) (v := 3) (by decide) ?_
  refine v_iald hC m_fv hf_102 (by unfold vp_in; decide) rfl dX12_feed_81 ?_
  refine v_bipush hC dX12_feed_82 (v := 24) (by decide) ?_
  refine v_bipush hC dX12_feed_84 (v := 8) (by decide) ?_
  refine v_iload hC dX12_feed_86 rfl ?_
  refine v_iconst hC dX12_feed_88 (v := 4) (by decide) ?_
  refine v_irem hC dX12_feed_89 (by decide) (v := 0) (by decide) ?_
  refine v_imul hC dX12_feed_90 (v := 0) (by decide) ?_
  refine v_isub hC dX12_feed_91 (v := 24) (by decide) ?_
  refine v_ishr hC dX12_feed_92 rfl ?_
  refine v_i2b hC dX12_feed_93 rfl ?_
  refine v_bast hC m_tp hf_98 (by unfold vp_in; decide) dX12_feed_94 (fun f_103 hf_104 hk_105 => ?_)
  obtain ⟨g_106, hf_104⟩ : ∃ g9, f_103 tp = aB E 600 g9 := ⟨_, hf_104⟩
  have hf_107 := (hk_105 m (ne_kd hf_101 hf_98 rfl)).trans hf_101
  have hf_108 := (hk_105 fv (ne_kd hf_102 hf_98 rfl)).trans hf_102
  refine v_iinc hC dX12_feed_95 (k := 0) rfl (v := 13) (by decide) (by decide) (lv' := [(6, .int 13), (0, .ref m), (1, .int a), (2, .int b), (3, .int c), (4, .int d), (5, .int e)]) rfl ?_
  refine v_goto hC dX12_feed_98 (tgt := 55) (by decide) ?_
  refine v_iload hC dX12_feed_55 rfl ?_
  refine v_bipush hC dX12_feed_57 (v := 20) (by decide) ?_
  refine v_icmp_ge_f hC dX12_feed_59 (tgt := 101) (by decide) (by decide) ?_
  refine v_aload_n hC dX12_feed_62 rfl ?_
  refine v_get hC fl_X12_24 m_m hf_107 rfl dX12_feed_63 ?_
  refine v_aload_n hC dX12_feed_66 rfl ?_
  refine v_get hC fl_X12_102 m_m hf_107 rfl dX12_feed_67 ?_
  refine v_iload hC dX12_feed_70 rfl ?_
  refine v_iadd hC dX12_feed_72 (v := 13) (by decide) ?_
  refine v_aload_n hC dX12_feed_73 rfl ?_
  refine v_get hC fl_X12_28 m_m hf_107 rfl dX12_feed_74 ?_
  refine v_iload hC dX12_feed_77 rfl ?_
  refine v_iconst hC dX12_feed_79 (v := 4) (by decide) ?_
  refine v_idiv hC dX12_feed_80 (by decide) (v := 3) (by decide) ?_
  refine v_iald hC m_fv hf_108 (by unfold vp_in; decide) rfl dX12_feed_81 ?_
  refine v_bipush hC dX12_feed_82 (v := 24) (by decide) ?_
  refine v_bipush hC dX12_feed_84 (v := 8) (by decide) ?_
  refine v_iload hC dX12_feed_86 rfl ?_
  refine v_iconst hC dX12_feed_88 (v := 4) (by decide) ?_
  refine v_irem hC dX12_feed_89 (by decide) (v := 1) (by decide) ?_
  refine v_imul hC dX12_feed_90 (v := 8) (by decide) ?_
  refine v_isub hC dX12_feed_91 (v := 16) (by decide) ?_
  refine v_ishr hC dX12_feed_92 rfl ?_
  refine v_i2b hC dX12_feed_93 rfl ?_
  refine v_bast hC m_tp hf_104 (by unfold vp_in; decide) dX12_feed_94 (fun f_109 hf_110 hk_111 => ?_)
  obtain ⟨g_112, hf_110⟩ : ∃ g9, f_109 tp = aB E 600 g9 := ⟨_, hf_110⟩
  have hf_113 := (hk_111 m (ne_kd hf_107 hf_104 rfl)).trans hf_107
  have hf_114 := (hk_111 fv (ne_kd hf_108 hf_104 rfl)).trans hf_108
  refine v_iinc hC dX12_feed_95 (k := 0) rfl (v := 14) (by decide) (by decide) (lv' := [(6, .int 14), (0, .ref m), (1, .int a), (2, .int b), (3, .int c), (4, .int d), (5, .int e)]) rfl ?_
  refine v_goto hC dX12_feed_98 (tgt := 55) (by decide) ?_
  refine v_iload hC dX12_feed_55 rfl ?_
  refine v_bipush hC dX12_feed_57 (v := 20) (by decide) ?_
  refine v_icmp_ge_f hC dX12_feed_59 (tgt := 101) (by decide) (by decide) ?_
  refine v_aload_n hC dX12_feed_62 rfl ?_
  refine v_get hC fl_X12_24 m_m hf_113 rfl dX12_feed_63 ?_
  refine v_aload_n hC dX12_feed_66 rfl ?_
  refine v_get hC fl_X12_102 m_m hf_113 rfl dX12_feed_67 ?_
  refine v_iload hC dX12_feed_70 rfl ?_
  refine v_iadd hC dX12_feed_72 (v := 14) (by decide) ?_
  refine v_aload_n hC dX12_feed_73 rfl ?_
  refine v_get hC fl_X12_28 m_m hf_113 rfl dX12_feed_74 ?_
  refine v_iload hC dX12_feed_77 rfl ?_
  refine v_iconst hC dX12_feed_79 (v := 4) (by decide) ?_
  refine v_idiv hC dX12_feed_80 (by decide) (v := 3) (by decide) ?_
  refine v_iald hC m_fv hf_114 (by unfold vp_in; decide) rfl dX12_feed_81 ?_
  refine v_bipush hC dX12_feed_82 (v := 24) (by decide) ?_
  refine v_bipush hC dX12_feed_84 (v := 8) (by decide) ?_
  refine v_iload hC dX12_feed_86 rfl ?_
  refine v_iconst hC dX12_feed_88 (v := 4) (by decide) ?_
  refine v_irem hC dX12_feed_89 (by decide) (v := 2) (by decide) ?_
  refine v_imul hC dX12_feed_90 (v := 16) (by decide) ?_
  refine v_isub hC dX12_feed_91 (v := 8) (by decide) ?_
  refine v_ishr hC dX12_feed_92 rfl ?_
  refine v_i2b hC dX12_feed_93 rfl ?_
  refine v_bast hC m_tp hf_110 (by unfold vp_in; decide) dX12_feed_94 (fun f_115 hf_116 hk_117 => ?_)
  obtain ⟨g_118, hf_116⟩ : ∃ g9, f_115 tp = aB E 600 g9 := ⟨_, hf_116⟩
  have hf_119 := (hk_117 m (ne_kd hf_113 hf_110 rfl)).trans hf_113
  have hf_120 := (hk_117 fv (ne_kd hf_114 hf_110 rfl)).trans hf_114
  refine v_iinc hC dX12_feed_95 (k := 0) rfl (v := 15) (by decide) (by decide) (lv' := [(6, .int 15), (0, .ref m), (1, .int a), (2, .int b), (3, .int c), (4, .int d), (5, .int e)]) rfl ?_
  refine v_goto hC dX12_feed_98 (tgt := 55) (by decide) ?_
  refine v_iload hC dX12_feed_55 rfl ?_
  refine v_bipush hC dX12_feed_57 (v := 20) (by decide) ?_
  refine v_icmp_ge_f hC dX12_feed_59 (tgt := 101) (by decide) (by decide) ?_
  refine v_aload_n hC dX12_feed_62 rfl ?_
  refine v_get hC fl_X12_24 m_m hf_119 rfl dX12_feed_63 ?_
  refine v_aload_n hC dX12_feed_66 rfl ?_
  refine v_get hC fl_X12_102 m_m hf_119 rfl dX12_feed_67 ?_
  refine v_iload hC dX12_feed_70 rfl ?_
  refine v_iadd hC dX12_feed_72 (v := 15) (by decide) ?_
  refine v_aload_n hC dX12_feed_73 rfl ?_
  refine v_get hC fl_X12_28 m_m hf_119 rfl dX12_feed_74 ?_
  refine v_iload hC dX12_feed_77 rfl ?_
  refine v_iconst hC dX12_feed_79 (v := 4) (by decide) ?_
  refine v_idiv hC dX12_feed_80 (by decide) (v := 3) (by decide) ?_
  refine v_iald hC m_fv hf_120 (by unfold vp_in; decide) rfl dX12_feed_81 ?_
  refine v_bipush hC dX12_feed_82 (v := 24) (by decide) ?_
  refine v_bipush hC dX12_feed_84 (v := 8) (by decide) ?_
  refine v_iload hC dX12_feed_86 rfl ?_
  refine v_iconst hC dX12_feed_88 (v := 4) (by decide) ?_
  refine v_irem hC dX12_feed_89 (by decide) (v := 3) (by decide) ?_
  refine v_imul hC dX12_feed_90 (v := 24) (by decide) ?_
  refine v_isub hC dX12_feed_91 (v := 0) (by decide) ?_
  refine v_ishr hC dX12_feed_92 rfl ?_
  refine v_i2b hC dX12_feed_93 rfl ?_
  refine v_bast hC m_tp hf_116 (by unfold vp_in; decide) dX12_feed_94 (fun f_121 hf_122 hk_123 => ?_)
  obtain ⟨g_124, hf_122⟩ : ∃ g9, f_121 tp = aB E 600 g9 := ⟨_, hf_122⟩
  have hf_125 := (hk_123 m (ne_kd hf_119 hf_116 rfl)).trans hf_119
  have hf_126 := (hk_123 fv (ne_kd hf_120 hf_116 rfl)).trans hf_120
  refine v_iinc hC dX12_feed_95 (k := 0) rfl (v := 16) (by decide) (by decide) (lv' := [(6, .int 16), (0, .ref m), (1, .int a), (2, .int b), (3, .int c), (4, .int d), (5, .int e)]) rfl ?_
  refine v_goto hC dX12_feed_98 (tgt := 55) (by decide) ?_
  refine v_iload hC dX12_feed_55 rfl ?_
  refine v_bipush hC dX12_feed_57 (v := 20) (by decide) ?_
  refine v_icmp_ge_f hC dX12_feed_59 (tgt := 101) (by decide) (by decide) ?_
  refine v_aload_n hC dX12_feed_62 rfl ?_
  refine v_get hC fl_X12_24 m_m hf_125 rfl dX12_feed_63 ?_
  refine v_aload_n hC dX12_feed_66 rfl ?_
  refine v_get hC fl_X12_102 m_m hf_125 rfl dX12_feed_67 ?_
  refine v_iload hC dX12_feed_70 rfl ?_
  refine v_iadd hC dX12_feed_72 (v := 16) (by decide) ?_
  refine v_aload_n hC dX12_feed_73 rfl ?_
  refine v_get hC fl_X12_28 m_m hf_125 rfl dX12_feed_74 ?_
  refine v_iload hC dX12_feed_77 rfl ?_
  refine v_iconst hC dX12_feed_79 (v := 4) (by decide) ?_
  refine v_idiv hC dX12_feed_80 (by decide) (v := 4) (by decide) ?_
  refine v_iald hC m_fv hf_126 (by unfold vp_in; decide) rfl dX12_feed_81 ?_
  refine v_bipush hC dX12_feed_82 (v := 24) (by decide) ?_
  refine v_bipush hC dX12_feed_84 (v := 8) (by decide) ?_
  refine v_iload hC dX12_feed_86 rfl ?_
  refine v_iconst hC dX12_feed_88 (v := 4) (by decide) ?_
  refine v_irem hC dX12_feed_89 (by decide) (v := 0) (by decide) ?_
  refine v_imul hC dX12_feed_90 (v := 0) (by decide) ?_
  refine v_isub hC dX12_feed_91 (v := 24) (by decide) ?_
  refine v_ishr hC dX12_feed_92 rfl ?_
  refine v_i2b hC dX12_feed_93 rfl ?_
  refine v_bast hC m_tp hf_122 (by unfold vp_in; decide) dX12_feed_94 (fun f_127 hf_128 hk_129 => ?_)
  obtain ⟨g_130, hf_128⟩ : ∃ g9, f_127 tp = aB E 600 g9 := ⟨_, hf_128⟩
  have hf_131 := (hk_129 m (ne_kd hf_125 hf_122 rfl)).trans hf_125
  have hf_132 := (hk_129 fv (ne_kd hf_126 hf_122 rfl)).trans hf_126
  refine v_iinc hC dX12_feed_95 (k := 0) rfl (v := 17) (by decide) (by decide) (lv' := [(6, .int 17), (0, .ref m), (1, .int a), (2, .int b), (3, .int c), (4, .int d), (5, .int e)]) rfl ?_
  refine v_goto hC dX12_feed_98 (tgt := 55) (by decide) ?_
  refine v_iload hC dX12_feed_55 rfl ?_
  refine v_bipush hC dX12_feed_57 (v := 20) (by decide) ?_
  refine v_icmp_ge_f hC dX12_feed_59 (tgt := 101) (by decide) (by decide) ?_
  refine v_aload_n hC dX12_feed_62 rfl ?_
  refine v_get hC fl_X12_24 m_m hf_131 rfl dX12_feed_63 ?_
  refine v_aload_n hC dX12_feed_66 rfl ?_
  refine v_get hC fl_X12_102 m_m hf_131 rfl dX12_feed_67 ?_
  refine v_iload hC dX12_feed_70 rfl ?_
  refine v_iadd hC dX12_feed_72 (v := 17) (by decide) ?_
  refine v_aload_n hC dX12_feed_73 rfl ?_
  refine v_get hC fl_X12_28 m_m hf_131 rfl dX12_feed_74 ?_
  refine v_iload hC dX12_feed_77 rfl ?_
  refine v_iconst hC dX12_feed_79 (v := 4) (by decide) ?_
  refine v_idiv hC dX12_feed_80 (by decide) (v := 4) (by decide) ?_
  refine v_iald hC m_fv hf_132 (by unfold vp_in; decide) rfl dX12_feed_81 ?_
  refine v_bipush hC dX12_feed_82 (v := 24) (by decide) ?_
  refine v_bipush hC dX12_feed_84 (v := 8) (by decide) ?_
  refine v_iload hC dX12_feed_86 rfl ?_
  refine v_iconst hC dX12_feed_88 (v := 4) (by decide) ?_
  refine v_irem hC dX12_feed_89 (by decide) (v := 1) (by decide) ?_
  refine v_imul hC dX12_feed_90 (v := 8) (by decide) ?_
  refine v_isub hC dX12_feed_91 (v := 16) (by decide) ?_
  refine v_ishr hC dX12_feed_92 rfl ?_
  refine v_i2b hC dX12_feed_93 rfl ?_
  refine v_bast hC m_tp hf_128 (by unfold vp_in; decide) dX12_feed_94 (fun f_133 hf_134 hk_135 => ?_)
  obtain ⟨g_136, hf_134⟩ : ∃ g9, f_133 tp = aB E 600 g9 := ⟨_, hf_134⟩
  have hf_137 := (hk_135 m (ne_kd hf_131 hf_128 rfl)).trans hf_131
  have hf_138 := (hk_135 fv (ne_kd hf_132 hf_128 rfl)).trans hf_132
  refine v_iinc hC dX12_feed_95 (k := 0) rfl (v := 18) (by decide) (by decide) (lv' := [(6, .int 18), (0, .ref m), (1, .int a), (2, .int b), (3, .int c), (4, .int d), (5, .int e)]) rfl ?_
  refine v_goto hC dX12_feed_98 (tgt := 55) (by decide) ?_
  refine v_iload hC dX12_feed_55 rfl ?_
  refine v_bipush hC dX12_feed_57 (v := 20) (by decide) ?_
  refine v_icmp_ge_f hC dX12_feed_59 (tgt := 101) (by decide) (by decide) ?_
  refine v_aload_n hC dX12_feed_62 rfl ?_
  refine v_get hC fl_X12_24 m_m hf_137 rfl dX12_feed_63 ?_
  refine v_aload_n hC dX12_feed_66 rfl ?_
  refine v_get hC fl_X12_102 m_m hf_137 rfl dX12_feed_67 ?_
  refine v_iload hC dX12_feed_70 rfl ?_
  refine v_iadd hC dX12_feed_72 (v := 18) (by decide) ?_
  refine v_aload_n hC dX12_feed_73 rfl ?_
  refine v_get hC fl_X12_28 m_m hf_137 rfl dX12_feed_74 ?_
  refine v_iload hC dX12_feed_77 rfl ?_
  refine v_iconst hC dX12_feed_79 (v := 4) (by decide) ?_
  refine v_idiv hC dX12_feed_80 (by decide) (v := 4) (by decide) ?_
  refine v_iald hC m_fv hf_138 (by unfold vp_in; decide) rfl dX12_feed_81 ?_
  refine v_bipush hC dX12_feed_82 (v := 24) (by decide) ?_
  refine v_bipush hC dX12_feed_84 (v := 8) (by decide) ?_
  refine v_iload hC dX12_feed_86 rfl ?_
  refine v_iconst hC dX12_feed_88 (v := 4) (by decide) ?_
  refine v_irem hC dX12_feed_89 (by decide) (v := 2) (by decide) ?_
  refine v_imul hC dX12_feed_90 (v := 16) (by decide) ?_
  refine v_isub hC dX12_feed_91 (v := 8) (by decide) ?_
  refine v_ishr hC dX12_feed_92 rfl ?_
  refine v_i2b hC dX12_feed_93 rfl ?_
  refine v_bast hC m_tp hf_134 (by unfold vp_in; decide) dX12_feed_94 (fun f_139 hf_140 hk_141 => ?_)
  obtain ⟨g_142, hf_140⟩ : ∃ g9, f_139 tp = aB E 600 g9 := ⟨_, hf_140⟩
  have hf_143 := (hk_141 m (ne_kd hf_137 hf_134 rfl)).trans hf_137
  have hf_144 := (hk_141 fv (ne_kd hf_138 hf_134 rfl)).trans hf_138
  refine v_iinc hC dX12_feed_95 (k := 0) rfl (v := 19) (by decide) (by decide) (lv' := [(6, .int 19), (0, .ref m), (1, .int a), (2, .int b), (3, .int c), (4, .int d), (5, .int e)]) rfl ?_
  refine v_goto hC dX12_feed_98 (tgt := 55) (by decide) ?_
  refine v_iload hC dX12_feed_55 rfl ?_
  refine v_bipush hC dX12_feed_57 (v := 20) (by decide) ?_
  refine v_icmp_ge_f hC dX12_feed_59 (tgt := 101) (by decide) (by decide) ?_
  refine v_aload_n hC dX12_feed_62 rfl ?_
  refine v_get hC fl_X12_24 m_m hf_143 rfl dX12_feed_63 ?_
  refine v_aload_n hC dX12_feed_66 rfl ?_
  refine v_get hC fl_X12_102 m_m hf_143 rfl dX12_feed_67 ?_
  refine v_iload hC dX12_feed_70 rfl ?_
  refine v_iadd hC dX12_feed_72 (v := 19) (by decide) ?_
  refine v_aload_n hC dX12_feed_73 rfl ?_
  refine v_get hC fl_X12_28 m_m hf_143 rfl dX12_feed_74 ?_
  refine v_iload hC dX12_feed_77 rfl ?_
  refine v_iconst hC dX12_feed_79 (v := 4) (by decide) ?_
  refine v_idiv hC dX12_feed_80 (by decide) (v := 4) (by decide) ?_
  refine v_iald hC m_fv hf_144 (by unfold vp_in; decide) rfl dX12_feed_81 ?_
  refine v_bipush hC dX12_feed_82 (v := 24) (by decide) ?_
  refine v_bipush hC dX12_feed_84 (v := 8) (by decide) ?_
  refine v_iload hC dX12_feed_86 rfl ?_
  refine v_iconst hC dX12_feed_88 (v := 4) (by decide) ?_
  refine v_irem hC dX12_feed_89 (by decide) (v := 3) (by decide) ?_
  refine v_imul hC dX12_feed_90 (v := 24) (by decide) ?_
  refine v_isub hC dX12_feed_91 (v := 0) (by decide) ?_
  refine v_ishr hC dX12_feed_92 rfl ?_
  refine v_i2b hC dX12_feed_93 rfl ?_
  refine v_bast hC m_tp hf_140 (by unfold vp_in; decide) dX12_feed_94 (fun f_145 hf_146 hk_147 => ?_)
  obtain ⟨g_148, hf_146⟩ : ∃ g9, f_145 tp = aB E 600 g9 := ⟨_, hf_146⟩
  have hf_149 := (hk_147 m (ne_kd hf_143 hf_140 rfl)).trans hf_143
  have hf_150 := (hk_147 fv (ne_kd hf_144 hf_140 rfl)).trans hf_144
  refine v_iinc hC dX12_feed_95 (k := 0) rfl (v := 20) (by decide) (by decide) (lv' := [(6, .int 20), (0, .ref m), (1, .int a), (2, .int b), (3, .int c), (4, .int d), (5, .int e)]) rfl ?_
  refine v_goto hC dX12_feed_98 (tgt := 55) (by decide) ?_
  refine v_iload hC dX12_feed_55 rfl ?_
  refine v_bipush hC dX12_feed_57 (v := 20) (by decide) ?_
  refine v_icmp_ge_t hC dX12_feed_59 (tgt := 101) (by decide) (by decide) ?_
  refine v_aload_n hC dX12_feed_101 rfl ?_
  refine v_dup hC dX12_feed_102 rfl ?_
  refine v_get hC fl_X12_102 m_m hf_149 rfl dX12_feed_103 ?_
  refine v_bipush hC dX12_feed_106 (v := 20) (by decide) ?_
  refine v_iadd hC dX12_feed_108 (v := 20) (by decide) ?_
  refine v_put hC fl_X12_102 m_m hf_149 rfl rfl (Nat.le_of_ble_eq_true rfl) (fs' := [.int 0, .ref wo, .ref img, .ref hi, .ref tp, .int 20, .ref fv, .int 0, .int 0, .int 0, .int 0, .int 0, .int 0, .int (-1), .ref fr, .ref cl0, .ref pl, .int 0, .ref wd, .ref rd, .int (-1), .ref tr0, .ref co, .ref bi, .ref wl, .ref mn, .ref wi, .ref nu, .ref mv]) rfl dX12_feed_109 (fun f_151 hf_152 hk_153 => ?_)
  have hf_154 := (hk_153 tp (ne_kd hf_146 hf_149 rfl)).trans hf_146
  have hf_155 := (hk_153 fv (ne_kd hf_150 hf_149 rfl)).trans hf_150
  refine v_aload_n hC dX12_feed_112 rfl ?_
  refine v_get hC fl_X12_102 m_m hf_152 rfl dX12_feed_113 ?_
  exact hR _ _ _ _ _ _ _ dX12_feed_116 rfl (Nat.le_of_ble_eq_true rfl) (Nat.le_of_ble_eq_true rfl) rfl
set_option maxRecDepth 100000 in
set_option maxHeartbeats 4000000 in
theorem a209_X12_begin {l : Launch} {E : Ez} {L : List Nat} {f : Nat → va_E} {aa_0 aa_1 aa_2 aa_3 aa_4 aa_5 aa_6 aa_7 aa_8 aa_9 aa_10 aa_11 aa_12 aa_13 aa_14 aa_15 aa_16 aa_17 aa_18 : Nat} (m_aa_0 : aa_0 ∈ L) (e_aa_0 : f aa_0 = ob 12 [.int 0, .ref aa_1, .ref aa_2, .ref aa_3, .ref aa_4, .int 0, .ref aa_5, .int 0, .int 0, .int 0, .int 0, .int 0, .int 0, .int (-1), .ref aa_6, .ref aa_7, .ref aa_8, .int 0, .ref aa_9, .ref aa_10, .int (-1), .ref aa_11, .ref aa_12, .ref aa_13, .ref aa_14, .ref aa_15, .ref aa_16, .ref aa_17, .ref aa_18]) : CV l yX12_begin cX12_begin 1 0 0 0 E [.ref aa_0] L f (fun L1 f1 => L = L1 ∧ f = f1) := by
  refine cv_of (by decide) (Nat.le_of_ble_eq_true rfl) (fun z hz hnm hC hR => ?_)
  have hC : Cx z E cX12_begin RX12 1 0 0 0 := hC
  subst hz
  show V z E 1 0 0 L f 0 [(0, .ref aa_0)] []
  refine v_aload_n hC dX12_begin_0 rfl ?_
  refine v_aload_n hC dX12_begin_1 rfl ?_
  refine v_get hC fl_X12_102 m_aa_0 e_aa_0 rfl dX12_begin_2 ?_
  refine v_put hC fl_X12_105 m_aa_0 e_aa_0 rfl rfl (Nat.le_of_ble_eq_true rfl) (fs' := [.int 0, .ref aa_1, .ref aa_2, .ref aa_3, .ref aa_4, .int 0, .ref aa_5, .int 0, .int 0, .int 0, .int 0, .int 0, .int 0, .int (-1), .ref aa_6, .ref aa_7, .ref aa_8, .int 0, .ref aa_9, .ref aa_10, .int (-1), .ref aa_11, .ref aa_12, .ref aa_13, .ref aa_14, .ref aa_15, .ref aa_16, .ref aa_17, .ref aa_18]) rfl dX12_begin_5 (fun f_1 hf_2 hk_3 => ?_)
  obtain rfl : f = f_1 := (funext (noop e_aa_0 hf_2 hk_3)).symm
  refine v_aload_n hC dX12_begin_8 rfl ?_
  refine v_iconst hC dX12_begin_9 (v := 0) (by decide) ?_
  refine v_put hC fl_X12_102 m_aa_0 e_aa_0 rfl rfl (Nat.le_of_ble_eq_true rfl) (fs' := [.int 0, .ref aa_1, .ref aa_2, .ref aa_3, .ref aa_4, .int 0, .ref aa_5, .int 0, .int 0, .int 0, .int 0, .int 0, .int 0, .int (-1), .ref aa_6, .ref aa_7, .ref aa_8, .int 0, .ref aa_9, .ref aa_10, .int (-1), .ref aa_11, .ref aa_12, .ref aa_13, .ref aa_14, .ref aa_15, .ref aa_16, .ref aa_17, .ref aa_18]) rfl dX12_begin_10 (fun f_4 hf_5 hk_6 => ?_)
  obtain rfl : f = f_4 := (funext (noop e_aa_0 hf_5 hk_6)).symm
  refine v_aload_n hC dX12_begin_13 rfl ?_
  refine v_iconst hC dX12_begin_14 (v := 0) (by decide) ?_
  refine v_put hC fl_X12_108 m_aa_0 e_aa_0 rfl rfl (Nat.le_of_ble_eq_true rfl) (fs' := [.int 0, .ref aa_1, .ref aa_2, .ref aa_3, .ref aa_4, .int 0, .ref aa_5, .int 0, .int 0, .int 0, .int 0, .int 0, .int 0, .int (-1), .ref aa_6, .ref aa_7, .ref aa_8, .int 0, .ref aa_9, .ref aa_10, .int (-1), .ref aa_11, .ref aa_12, .ref aa_13, .ref aa_14, .ref aa_15, .ref aa_16, .ref aa_17, .ref aa_18]) rfl dX12_begin_15 (fun f_7 hf_8 hk_9 => ?_)
  obtain rfl : f = f_7 := (funext (noop e_aa_0 hf_8 hk_9)).symm
  refine v_aload_n hC dX12_begin_18 rfl ?_
  refine v_iconst hC dX12_begin_19 (v := 0) (by decide) ?_
  refine v_put hC fl_X12_111 m_aa_0 e_aa_0 rfl rfl (Nat.le_of_ble_eq_true rfl) (fs' := [.int 0, .ref aa_1, .ref aa_2, .ref aa_3, .ref aa_4, .int 0, .ref aa_5, .int 0, .int 0, .int 0, .int 0, .int 0, .int 0, .int (-1), .ref aa_6, .ref aa_7, .ref aa_8, .int 0, .ref aa_9, .ref aa_10, .int (-1), .ref aa_11, .ref aa_12, .ref aa_13, .ref aa_14, .ref aa_15, .ref aa_16, .ref aa_17, .ref aa_18]) rfl dX12_begin_20 (fun f_10 hf_11 hk_12 => ?_)
  obtain rfl : f = f_10 := (funext (noop e_aa_0 hf_11 hk_12)).symm
  refine v_aload_n hC dX12_begin_23 rfl ?_
  refine v_iconst hC dX12_begin_24 (v := (-1)) (by decide) ?_
  refine v_put hC fl_X12_31 m_aa_0 e_aa_0 rfl rfl (Nat.le_of_ble_eq_true rfl) (fs' := [.int 0, .ref aa_1, .ref aa_2, .ref aa_3, .ref aa_4, .int 0, .ref aa_5, .int 0, .int 0, .int 0, .int 0, .int 0, .int 0, .int (-1), .ref aa_6, .ref aa_7, .ref aa_8, .int 0, .ref aa_9, .ref aa_10, .int (-1), .ref aa_11, .ref aa_12, .ref aa_13, .ref aa_14, .ref aa_15, .ref aa_16, .ref aa_17, .ref aa_18]) rfl dX12_begin_25 (fun f_13 hf_14 hk_15 => ?_)
  obtain rfl : f = f_13 := (funext (noop e_aa_0 hf_14 hk_15)).symm
  exact hR _ _ _ _ _ _ dX12_begin_28 (Nat.le_of_ble_eq_true rfl) (Nat.le_of_ble_eq_true rfl) ⟨rfl, rfl⟩
set_option maxRecDepth 100000 in
set_option maxHeartbeats 4000000 in
theorem a211_X12_see {l : Launch} {E : Ez} {L : List Nat} {f : Nat → va_E} {aa_0 aa_1 aa_2 aa_3 aa_4 aa_5 aa_6 aa_7 aa_8 aa_9 aa_10 aa_11 aa_12 aa_13 aa_14 aa_15 aa_16 aa_17 aa_18 : Nat} (m_aa_0 : aa_0 ∈ L) (e_aa_0 : f aa_0 = ob 12 [.int 0, .ref aa_1, .ref aa_2, .ref aa_3, .ref aa_4, .int 0, .ref aa_5, .int 0, .int 0, .int 0, .int 0, .int 0, .int 0, .int (-1), .ref aa_6, .ref aa_7, .ref aa_8, .int 0, .ref aa_9, .ref aa_10, .int (-1), .ref aa_11, .ref aa_12, .ref aa_13, .ref aa_14, .ref aa_15, .ref aa_16, .ref aa_17, .ref aa_18]) : CI l yX12_see cX12_see 2 .int 0 0 0 E [.ref aa_0, .int 0] L f (fun r L1 f1 => (-1) = r ∧ L = L1 ∧ f = f1) := by
  refine ci_of (by decide) (Nat.le_of_ble_eq_true rfl) (fun z hz hnm hC hR => ?_)
  have hC : Cx z E cX12_see RX12 2 0 0 0 := hC
  subst hz
  show V z E 2 0 0 L f 0 [(0, .ref aa_0), (1, .int 0)] []
  refine v_iload_n hC dX12_see_0 rfl ?_
  refine v_aload_n hC dX12_see_1 rfl ?_
  refine v_get hC fl_X12_105 m_aa_0 e_aa_0 rfl dX12_see_2 ?_
  refine v_icmp_ge_t hC dX12_see_5 (tgt := 21) (by decide) (by decide) ?_
  refine v_iconst hC dX12_see_21 (v := (-1)) (by decide) ?_
  exact hR _ _ _ _ _ _ _ dX12_see_22 rfl (Nat.le_of_ble_eq_true rfl) (Nat.le_of_ble_eq_true rfl) ⟨rfl, rfl, rfl⟩
set_option maxRecDepth 100000 in
set_option maxHeartbeats 4000000 in
theorem a211_X12_advance {l : Launch} {E : Ez} {L : List Nat} {f : Nat → va_E} {aa_0 aa_1 aa_2 aa_3 aa_4 aa_5 aa_6 aa_7 aa_8 aa_9 aa_10 aa_11 aa_12 aa_13 aa_14 aa_15 aa_16 aa_17 aa_18 : Nat} (m_aa_0 : aa_0 ∈ L) (e_aa_0 : f aa_0 = ob 12 [.int 0, .ref aa_1, .ref aa_2, .ref aa_3, .ref aa_4, .int 0, .ref aa_5, .int 0, .int 0, .int 0, .int 0, .int 0, .int 0, .int (-1), .ref aa_6, .ref aa_7, .ref aa_8, .int 0, .ref aa_9, .ref aa_10, .int (-1), .ref aa_11, .ref aa_12, .ref aa_13, .ref aa_14, .ref aa_15, .ref aa_16, .ref aa_17, .ref aa_18]) (m_aa_1 : aa_1 ∈ L) (e_aa_1 : f aa_1 = aI E 2076 (fun _ => 0)) (m_aa_6 : aa_6 ∈ L) (e_aa_6 : f aa_6 = aI E 2076 (fun _ => 0)) : CV l yX12_advance cX12_advance 2 1 0 0 E [.ref aa_0] L f (fun L1 f1 => L = L1 ∧ f = f1) := by
  refine cv_of (by decide) (Nat.le_of_ble_eq_true rfl) (fun z hz hnm hC hR => ?_)
  have hC : Cx z E cX12_advance RX12 2 1 0 0 := hC
  subst hz
  show V z E 2 0 0 L f 0 [(0, .ref aa_0)] []
  refine v_aload_n hC dX12_advance_0 rfl ?_
  refine v_aload_n hC dX12_advance_1 rfl ?_
  refine v_get hC fl_X12_108 m_aa_0 e_aa_0 rfl dX12_advance_2 ?_
  refine v_vi hC (rest := []) m_aa_0 e_aa_0 rfl mi_X12_see ms_X12_see (a211_X12_see m_aa_0 e_aa_0) mx_X12_see ml_X12_114 (by decide) rfl (cells1 := 0) (slots1 := 0) (by decide) (by decide) (Nat.le_of_ble_eq_true rfl) (Nat.le_of_ble_eq_true rfl) rfl (Nat.le_of_ble_eq_true rfl) dX12_advance_5 (fun r_1 L_2 f_3 h_4 => ?_)
  obtain ⟨rfl, rfl, rfl⟩ := h_4
  refine v_bipush hC dX12_advance_8 (v := 32) (by decide) ?_
  refine v_icmp_eq_f hC dX12_advance_10 (tgt := 26) (by decide) (by decide) ?_
  refine v_aload_n hC dX12_advance_13 rfl ?_
  refine v_aload_n hC dX12_advance_14 rfl ?_
  refine v_get hC fl_X12_108 m_aa_0 e_aa_0 rfl dX12_advance_15 ?_
  refine v_vi hC (rest := []) m_aa_0 e_aa_0 rfl mi_X12_see ms_X12_see (a211_X12_see m_aa_0 e_aa_0) mx_X12_see ml_X12_114 (by decide) rfl (cells1 := 0) (slots1 := 0) (by decide) (by decide) (Nat.le_of_ble_eq_true rfl) (Nat.le_of_ble_eq_true rfl) rfl (Nat.le_of_ble_eq_true rfl) dX12_advance_18 (fun r_5 L_6 f_7 h_8 => ?_)
  obtain ⟨rfl, rfl, rfl⟩ := h_8
  refine v_bipush hC dX12_advance_21 (v := 10) (by decide) ?_
  refine v_icmp_ne_t hC dX12_advance_23 (tgt := 39) (by decide) (by decide) ?_
  refine v_aload_n hC dX12_advance_39 rfl ?_
  refine v_aload_n hC dX12_advance_40 rfl ?_
  refine v_get hC fl_X12_108 m_aa_0 e_aa_0 rfl dX12_advance_41 ?_
  refine v_put hC fl_X12_117 m_aa_0 e_aa_0 rfl rfl (Nat.le_of_ble_eq_true rfl) (fs' := [.int 0, .ref aa_1, .ref aa_2, .ref aa_3, .ref aa_4, .int 0, .ref aa_5, .int 0, .int 0, .int 0, .int 0, .int 0, .int 0, .int (-1), .ref aa_6, .ref aa_7, .ref aa_8, .int 0, .ref aa_9, .ref aa_10, .int (-1), .ref aa_11, .ref aa_12, .ref aa_13, .ref aa_14, .ref aa_15, .ref aa_16, .ref aa_17, .ref aa_18]) rfl dX12_advance_44 (fun f_9 hf_10 hk_11 => ?_)
  obtain rfl : f = f_9 := (funext (noop e_aa_0 hf_10 hk_11)).symm
  refine v_aload_n hC dX12_advance_47 rfl ?_
  refine v_aload_n hC dX12_advance_48 rfl ?_
  refine v_get hC fl_X12_108 m_aa_0 e_aa_0 rfl dX12_advance_49 ?_
  refine v_vi hC (rest := []) m_aa_0 e_aa_0 rfl mi_X12_see ms_X12_see (a211_X12_see m_aa_0 e_aa_0) mx_X12_see ml_X12_114 (by decide) rfl (cells1 := 0) (slots1 := 0) (by decide) (by decide) (Nat.le_of_ble_eq_true rfl) (Nat.le_of_ble_eq_true rfl) rfl (Nat.le_of_ble_eq_true rfl) dX12_advance_52 (fun r_12 L_13 f_14 h_15 => ?_)
  obtain ⟨rfl, rfl, rfl⟩ := h_15
  refine v_istore_n hC dX12_advance_55 (by decide) (lv' := [(1, .int (-1)), (0, .ref aa_0)]) rfl ?_
  refine v_iload_n hC dX12_advance_56 rfl ?_
  refine v_iconst hC dX12_advance_57 (v := (-1)) (by decide) ?_
  refine v_icmp_ne_f hC dX12_advance_58 (tgt := 69) (by decide) (by decide) ?_
  refine v_aload_n hC dX12_advance_61 rfl ?_
  refine v_iconst hC dX12_advance_62 (v := 0) (by decide) ?_
  refine v_put hC fl_X12_120 m_aa_0 e_aa_0 rfl rfl (Nat.le_of_ble_eq_true rfl) (fs' := [.int 0, .ref aa_1, .ref aa_2, .ref aa_3, .ref aa_4, .int 0, .ref aa_5, .int 0, .int 0, .int 0, .int 0, .int 0, .int 0, .int (-1), .ref aa_6, .ref aa_7, .ref aa_8, .int 0, .ref aa_9, .ref aa_10, .int (-1), .ref aa_11, .ref aa_12, .ref aa_13, .ref aa_14, .ref aa_15, .ref aa_16, .ref aa_17, .ref aa_18]) rfl dX12_advance_63 (fun f_16 hf_17 hk_18 => ?_)
  obtain rfl : f = f_16 := (funext (noop e_aa_0 hf_17 hk_18)).symm
  refine v_goto hC dX12_advance_66 (tgt := 240) (by decide) ?_
  exact hR _ _ _ _ _ _ dX12_advance_240 (Nat.le_of_ble_eq_true rfl) (Nat.le_of_ble_eq_true rfl) ⟨rfl, rfl⟩
set_option maxRecDepth 100000 in
set_option maxHeartbeats 4000000 in
theorem a215_X12_good {l : Launch} {E : Ez} {L : List Nat} {f : Nat → va_E} {aa_0 aa_1 aa_2 aa_3 aa_4 aa_5 aa_6 aa_7 aa_8 aa_9 aa_10 aa_11 aa_12 aa_13 aa_14 aa_15 aa_16 aa_17 aa_18 : Nat} (m_aa_0 : aa_0 ∈ L) (e_aa_0 : f aa_0 = ob 12 [.int 0, .ref aa_1, .ref aa_2, .ref aa_3, .ref aa_4, .int 0, .ref aa_5, .int 0, .int 0, .int 0, .int 0, .int 0, .int 0, .int (-1), .ref aa_6, .ref aa_7, .ref aa_8, .int 0, .ref aa_9, .ref aa_10, .int (-1), .ref aa_11, .ref aa_12, .ref aa_13, .ref aa_14, .ref aa_15, .ref aa_16, .ref aa_17, .ref aa_18]) : CI l yX12_good cX12_good 1 .boolean 0 0 0 E [.ref aa_0] L f (fun r L1 f1 => 1 = r ∧ L = L1 ∧ f = f1) := by
  refine ci_of (by decide) (Nat.le_of_ble_eq_true rfl) (fun z hz hnm hC hR => ?_)
  have hC : Cx z E cX12_good RX12 1 0 0 0 := hC
  subst hz
  show V z E 1 0 0 L f 0 [(0, .ref aa_0)] []
  refine v_aload_n hC dX12_good_0 rfl ?_
  refine v_get hC fl_X12_111 m_aa_0 e_aa_0 rfl dX12_good_1 ?_
  refine v_if_ne_f hC dX12_good_4 (tgt := 11) (by decide) (by decide) ?_
  refine v_iconst hC dX12_good_7 (v := 1) (by decide) ?_
  refine v_goto hC dX12_good_8 (tgt := 12) (by decide) ?_
  exact hR _ _ _ _ _ _ _ dX12_good_12 rfl (Nat.le_of_ble_eq_true rfl) (Nat.le_of_ble_eq_true rfl) ⟨rfl, rfl, rfl⟩
set_option maxRecDepth 100000 in
set_option maxHeartbeats 4000000 in
theorem y_losses {l : Launch} {E : Ez} {L : List Nat} {f : Nat → va_E} {m wo img hi tp fv fr cl0 pl wd rd tr0 co bi wl mn wi nu mv : Nat} (m_m : m ∈ L) (e_m : f m = ob 12 [.int 0, .ref wo, .ref img, .ref hi, .ref tp, .int 0, .ref fv, .int 0, .int 0, .int 0, .int 0, .int 0, .int 0, .int (-1), .ref fr, .ref cl0, .ref pl, .int 0, .ref wd, .ref rd, .int (-1), .ref tr0, .ref co, .ref bi, .ref wl, .ref mn, .ref wi, .ref nu, .ref mv]) (m_wo : wo ∈ L) (e_wo : f wo = aI E 2076 (fun _ => 0)) (m_fr : fr ∈ L) (e_fr : f fr = aI E 2076 (fun _ => 0)) : CI l yX12_losses cX12_losses 1 .int 2 0 0 E [.ref m] L f (fun r L1 f1 => (0 : Int32) = r) := by
  refine ci_of (by decide) (Nat.le_of_ble_eq_true rfl) (fun z hz hnm hC hR => ?_)
  have hC : Cx z E cX12_losses RX12 1 2 0 0 := hC
  subst hz
  show V z E 1 0 0 L f 0 [(0, .ref m)] []
  refine v_aload_n hC dX12_losses_0 rfl ?_
  refine v_vv hC (rest := []) m_m e_m rfl mi_X12_begin ms_X12_begin (a209_X12_begin m_m e_m) mx_X12_begin ml_X12_181 (by decide) rfl (cells1 := 0) (slots1 := 0) (by decide) (by decide) (Nat.le_of_ble_eq_true rfl) (Nat.le_of_ble_eq_true rfl) rfl (Nat.le_of_ble_eq_true rfl) dX12_losses_1 (fun L_2 f_3 h_4 => ?_)
  obtain ⟨rfl, rfl⟩ := h_4
  refine v_aload_n hC dX12_losses_4 rfl ?_
  refine v_get hC fl_X12_34 m_m e_m rfl dX12_losses_5 ?_
  refine v_bipush hC dX12_losses_8 (v := 6) (by decide) ?_
  refine v_iconst hC dX12_losses_10 (v := 0) (by decide) ?_
  refine v_iast hC m_fr e_fr (by unfold vp_in; decide) dX12_losses_11 (fun f_5 hf_6 hk_7 => ?_)
  rw [upd_zero] at hf_6
  obtain rfl : f = f_5 := (funext (noop e_fr hf_6 hk_7)).symm
  refine v_aload_n hC dX12_losses_12 rfl ?_
  refine v_vv hC (rest := []) m_m e_m rfl mi_X12_advance ms_X12_advance (a211_X12_advance m_m e_m m_wo e_wo m_fr e_fr) mx_X12_advance ml_X12_156 (by decide) rfl (cells1 := 0) (slots1 := 0) (by decide) (by decide) (Nat.le_of_ble_eq_true rfl) (Nat.le_of_ble_eq_true rfl) rfl (Nat.le_of_ble_eq_true rfl) dX12_losses_13 (fun L_9 f_10 h_11 => ?_)
  obtain ⟨rfl, rfl⟩ := h_11
  refine v_aload_n hC dX12_losses_16 rfl ?_
  refine v_vi hC (rest := []) m_m e_m rfl mi_X12_good ms_X12_good (a215_X12_good m_m e_m) mx_X12_good ml_X12_139 (by decide) rfl (cells1 := 0) (slots1 := 0) (by decide) (by decide) (Nat.le_of_ble_eq_true rfl) (Nat.le_of_ble_eq_true rfl) rfl (Nat.le_of_ble_eq_true rfl) dX12_losses_17 (fun r_12 L_13 f_14 h_15 => ?_)
  obtain ⟨rfl, rfl, rfl⟩ := h_15
  refine v_if_eq_f hC dX12_losses_20 (tgt := 37) (by decide) (by decide) ?_
  refine v_aload_n hC dX12_losses_23 rfl ?_
  refine v_get hC fl_X12_120 m_m e_m rfl dX12_losses_24 ?_
  refine v_if_eq_t hC dX12_losses_27 (tgt := 37) (by decide) (by decide) ?_
  refine v_aload_n hC dX12_losses_37 rfl ?_
  refine v_vi hC (rest := []) m_m e_m rfl mi_X12_good ms_X12_good (a215_X12_good m_m e_m) mx_X12_good ml_X12_139 (by decide) rfl (cells1 := 0) (slots1 := 0) (by decide) (by decide) (Nat.le_of_ble_eq_true rfl) (Nat.le_of_ble_eq_true rfl) rfl (Nat.le_of_ble_eq_true rfl) dX12_losses_38 (fun r_16 L_17 f_18 h_19 => ?_)
  obtain ⟨rfl, rfl, rfl⟩ := h_19
  refine v_if_ne_t hC dX12_losses_41 (tgt := 47) (by decide) (by decide) ?_
  refine v_aload_n hC dX12_losses_47 rfl ?_
  refine v_get hC fl_X12_13 m_m e_m rfl dX12_losses_48 ?_
  refine v_bipush hC dX12_losses_51 (v := 6) (by decide) ?_
  refine v_aload_n hC dX12_losses_53 rfl ?_
  refine v_get hC fl_X12_34 m_m e_m rfl dX12_losses_54 ?_
  refine v_bipush hC dX12_losses_57 (v := 6) (by decide) ?_
  refine v_iald hC m_fr e_fr (by unfold vp_in; decide) (v := 0) rfl dX12_losses_59 ?_
  refine v_iast hC m_wo e_wo (by unfold vp_in; decide) dX12_losses_60 (fun f_20 hf_21 hk_22 => ?_)
  rw [upd_zero] at hf_21
  obtain rfl : f = f_20 := (funext (noop e_wo hf_21 hk_22)).symm
  refine v_aload_n hC dX12_losses_61 rfl ?_
  refine v_sipush hC dX12_losses_62 (v := 1012) (by decide) ?_
  refine v_sipush hC dX12_losses_65 (v := 1048) (by decide) ?_
  refine v_vv hC (rest := []) m_m e_m rfl mi_X12_keeps ms_X12_keeps (d_keeps 1012 1048 m_m e_m m_wo e_wo m_fr e_fr (by decide) (by decide)) mx_X12_keeps ml_X12_197 (by decide) rfl (cells1 := 0) (slots1 := 0) (by decide) (by decide) (Nat.le_of_ble_eq_true rfl) (Nat.le_of_ble_eq_true rfl) rfl (Nat.le_of_ble_eq_true rfl) dX12_losses_68 (fun L_24 f_25 h_26 => ?_)
  obtain ⟨rfl, rfl⟩ := h_26
  refine v_aload_n hC dX12_losses_71 rfl ?_
  refine v_get hC fl_X12_13 m_m e_m rfl dX12_losses_72 ?_
  refine v_bipush hC dX12_losses_75 (v := 6) (by decide) ?_
  refine v_iald hC m_wo e_wo (by unfold vp_in; decide) (v := 0) rfl dX12_losses_77 ?_
  exact hR _ _ _ _ _ _ _ dX12_losses_78 rfl (Nat.le_of_ble_eq_true rfl) (Nat.le_of_ble_eq_true rfl) rfl
set_option maxRecDepth 100000 in
set_option maxHeartbeats 4000000 in
theorem y_watcher {l : Launch} {E : Ez} {L : List Nat} {f : Nat → va_E} {m wo img hi tp fv fr cl0 pl wd rd tr0 co bi wl mn wi nu mv : Nat} (m_m : m ∈ L) (e_m : f m = ob 12 [.int 0, .ref wo, .ref img, .ref hi, .ref tp, .int 0, .ref fv, .int 0, .int 0, .int 0, .int 0, .int 0, .int 0, .int (-1), .ref fr, .ref cl0, .ref pl, .int 0, .ref wd, .ref rd, .int (-1), .ref tr0, .ref co, .ref bi, .ref wl, .ref mn, .ref wi, .ref nu, .ref mv]) (m_wo : wo ∈ L) (e_wo : f wo = aI E 2076 (fun _ => 0)) (m_fr : fr ∈ L) (e_fr : f fr = aI E 2076 (fun _ => 0)) : CI l yX12_watcher cX12_watcher 1 .int 2 0 0 E [.ref m] L f (fun r L1 f1 => (0 : Int32) = r) := by
  refine ci_of (by decide) (Nat.le_of_ble_eq_true rfl) (fun z hz hnm hC hR => ?_)
  have hC : Cx z E cX12_watcher RX12 1 2 0 0 := hC
  subst hz
  show V z E 1 0 0 L f 0 [(0, .ref m)] []
  refine v_aload_n hC dX12_watcher_0 rfl ?_
  refine v_vv hC (rest := []) m_m e_m rfl mi_X12_begin ms_X12_begin (a209_X12_begin m_m e_m) mx_X12_begin ml_X12_181 (by decide) rfl (cells1 := 0) (slots1 := 0) (by decide) (by decide) (Nat.le_of_ble_eq_true rfl) (Nat.le_of_ble_eq_true rfl) rfl (Nat.le_of_ble_eq_true rfl) dX12_watcher_1 (fun L_2 f_3 h_4 => ?_)
  obtain ⟨rfl, rfl⟩ := h_4
  refine v_aload_n hC dX12_watcher_4 rfl ?_
  refine v_iconst hC dX12_watcher_5 (v := 3) (by decide) ?_
  refine v_bipush hC dX12_watcher_6 (v := 6) (by decide) ?_
  refine v_vv hC (rest := []) m_m e_m rfl mi_X12_clears ms_X12_clears (d_clears 3 6 m_m e_m m_fr e_fr (by decide) (by decide)) mx_X12_clears ml_X12_184 (by decide) rfl (cells1 := 0) (slots1 := 0) (by decide) (by decide) (Nat.le_of_ble_eq_true rfl) (Nat.le_of_ble_eq_true rfl) rfl (Nat.le_of_ble_eq_true rfl) dX12_watcher_8 (fun L_6 f_7 h_8 => ?_)
  obtain ⟨rfl, rfl⟩ := h_8
  refine v_aload_n hC dX12_watcher_11 rfl ?_
  refine v_vv hC (rest := []) m_m e_m rfl mi_X12_advance ms_X12_advance (a211_X12_advance m_m e_m m_wo e_wo m_fr e_fr) mx_X12_advance ml_X12_156 (by decide) rfl (cells1 := 0) (slots1 := 0) (by decide) (by decide) (Nat.le_of_ble_eq_true rfl) (Nat.le_of_ble_eq_true rfl) rfl (Nat.le_of_ble_eq_true rfl) dX12_watcher_12 (fun L_10 f_11 h_12 => ?_)
  obtain ⟨rfl, rfl⟩ := h_12
  refine v_aload_n hC dX12_watcher_15 rfl ?_
  refine v_vi hC (rest := []) m_m e_m rfl mi_X12_good ms_X12_good (a215_X12_good m_m e_m) mx_X12_good ml_X12_139 (by decide) rfl (cells1 := 0) (slots1 := 0) (by decide) (by decide) (Nat.le_of_ble_eq_true rfl) (Nat.le_of_ble_eq_true rfl) rfl (Nat.le_of_ble_eq_true rfl) dX12_watcher_16 (fun r_13 L_14 f_15 h_16 => ?_)
  obtain ⟨rfl, rfl, rfl⟩ := h_16
  refine v_if_eq_f hC dX12_watcher_19 (tgt := 114) (by decide) (by decide) ?_
  refine v_aload_n hC dX12_watcher_22 rfl ?_
  refine v_get hC fl_X12_120 m_m e_m rfl dX12_watcher_23 ?_
  refine v_if_eq_t hC dX12_watcher_26 (tgt := 114) (by decide) (by decide) ?_
  refine v_aload_n hC dX12_watcher_114 rfl ?_
  refine v_vi hC (rest := []) m_m e_m rfl mi_X12_good ms_X12_good (a215_X12_good m_m e_m) mx_X12_good ml_X12_139 (by decide) rfl (cells1 := 0) (slots1 := 0) (by decide) (by decide) (Nat.le_of_ble_eq_true rfl) (Nat.le_of_ble_eq_true rfl) rfl (Nat.le_of_ble_eq_true rfl) dX12_watcher_115 (fun r_17 L_18 f_19 h_20 => ?_)
  obtain ⟨rfl, rfl, rfl⟩ := h_20
  refine v_if_ne_t hC dX12_watcher_118 (tgt := 124) (by decide) (by decide) ?_
  refine v_aload_n hC dX12_watcher_124 rfl ?_
  refine v_iconst hC dX12_watcher_125 (v := 3) (by decide) ?_
  refine v_bipush hC dX12_watcher_126 (v := 6) (by decide) ?_
  refine v_vv hC (rest := []) m_m e_m rfl mi_X12_keeps ms_X12_keeps (d_keeps 3 6 m_m e_m m_wo e_wo m_fr e_fr (by decide) (by decide)) mx_X12_keeps ml_X12_197 (by decide) rfl (cells1 := 0) (slots1 := 0) (by decide) (by decide) (Nat.le_of_ble_eq_true rfl) (Nat.le_of_ble_eq_true rfl) rfl (Nat.le_of_ble_eq_true rfl) dX12_watcher_128 (fun L_22 f_23 h_24 => ?_)
  obtain ⟨rfl, rfl⟩ := h_24
  refine v_aload_n hC dX12_watcher_131 rfl ?_
  refine v_sipush hC dX12_watcher_132 (v := 162) (by decide) ?_
  refine v_sipush hC dX12_watcher_135 (v := 1012) (by decide) ?_
  refine v_vv hC (rest := []) m_m e_m rfl mi_X12_keeps ms_X12_keeps (d_keeps 162 1012 m_m e_m m_wo e_wo m_fr e_fr (by decide) (by decide)) mx_X12_keeps ml_X12_197 (by decide) rfl (cells1 := 0) (slots1 := 0) (by decide) (by decide) (Nat.le_of_ble_eq_true rfl) (Nat.le_of_ble_eq_true rfl) rfl (Nat.le_of_ble_eq_true rfl) dX12_watcher_138 (fun L_26 f_27 h_28 => ?_)
  obtain ⟨rfl, rfl⟩ := h_28
  refine v_aload_n hC dX12_watcher_141 rfl ?_
  refine v_get hC fl_X12_13 m_m e_m rfl dX12_watcher_142 ?_
  refine v_iconst hC dX12_watcher_145 (v := 3) (by decide) ?_
  refine v_iald hC m_wo e_wo (by unfold vp_in; decide) (v := 0) rfl dX12_watcher_146 ?_
  exact hR _ _ _ _ _ _ _ dX12_watcher_147 rfl (Nat.le_of_ble_eq_true rfl) (Nat.le_of_ble_eq_true rfl) rfl
set_option maxRecDepth 100000 in
set_option maxHeartbeats 4000000 in
theorem a219_X12_begin {l : Launch} {E : Ez} {L : List Nat} {f : Nat → va_E} {aa_0 aa_1 aa_2 aa_3 aa_4 aa_5 aa_6 aa_7 aa_8 aa_9 aa_10 aa_11 aa_12 aa_13 aa_14 aa_15 aa_16 aa_17 aa_18 : Nat} (m_aa_0 : aa_0 ∈ L) (e_aa_0 : f aa_0 = ob 12 [.int 0, .ref aa_1, .ref aa_2, .ref aa_3, .ref aa_4, .int 0, .ref aa_5, .int 0, .int 0, .int 0, .int 0, .int 0, .int 0, .int (-1), .ref aa_6, .ref aa_7, .ref aa_8, .int 0, .ref aa_9, .ref aa_10, .int (-1), .ref aa_11, .ref aa_12, .ref aa_13, .ref aa_14, .ref aa_15, .ref aa_16, .ref aa_17, .ref aa_18]) : CV l yX12_begin cX12_begin 1 0 0 0 E [.ref aa_0] L f (fun L1 f1 => L = L1 ∧ f = f1) := by
  refine cv_of (by decide) (Nat.le_of_ble_eq_true rfl) (fun z hz hnm hC hR => ?_)
  have hC : Cx z E cX12_begin RX12 1 0 0 0 := hC
  subst hz
  show V z E 1 0 0 L f 0 [(0, .ref aa_0)] []
  refine v_aload_n hC dX12_begin_0 rfl ?_
  refine v_aload_n hC dX12_begin_1 rfl ?_
  refine v_get hC fl_X12_102 m_aa_0 e_aa_0 rfl dX12_begin_2 ?_
  refine v_put hC fl_X12_105 m_aa_0 e_aa_0 rfl rfl (Nat.le_of_ble_eq_true rfl) (fs' := [.int 0, .ref aa_1, .ref aa_2, .ref aa_3, .ref aa_4, .int 0, .ref aa_5, .int 0, .int 0, .int 0, .int 0, .int 0, .int 0, .int (-1), .ref aa_6, .ref aa_7, .ref aa_8, .int 0, .ref aa_9, .ref aa_10, .int (-1), .ref aa_11, .ref aa_12, .ref aa_13, .ref aa_14, .ref aa_15, .ref aa_16, .ref aa_17, .ref aa_18]) rfl dX12_begin_5 (fun f_1 hf_2 hk_3 => ?_)
  obtain rfl : f = f_1 := (funext (noop e_aa_0 hf_2 hk_3)).symm
  refine v_aload_n hC dX12_begin_8 rfl ?_
  refine v_iconst hC dX12_begin_9 (v := 0) (by decide) ?_
  refine v_put hC fl_X12_102 m_aa_0 e_aa_0 rfl rfl (Nat.le_of_ble_eq_true rfl) (fs' := [.int 0, .ref aa_1, .ref aa_2, .ref aa_3, .ref aa_4, .int 0, .ref aa_5, .int 0, .int 0, .int 0, .int 0, .int 0, .int 0, .int (-1), .ref aa_6, .ref aa_7, .ref aa_8, .int 0, .ref aa_9, .ref aa_10, .int (-1), .ref aa_11, .ref aa_12, .ref aa_13, .ref aa_14, .ref aa_15, .ref aa_16, .ref aa_17, .ref aa_18]) rfl dX12_begin_10 (fun f_4 hf_5 hk_6 => ?_)
  obtain rfl : f = f_4 := (funext (noop e_aa_0 hf_5 hk_6)).symm
  refine v_aload_n hC dX12_begin_13 rfl ?_
  refine v_iconst hC dX12_begin_14 (v := 0) (by decide) ?_
  refine v_put hC fl_X12_108 m_aa_0 e_aa_0 rfl rfl (Nat.le_of_ble_eq_true rfl) (fs' := [.int 0, .ref aa_1, .ref aa_2, .ref aa_3, .ref aa_4, .int 0, .ref aa_5, .int 0, .int 0, .int 0, .int 0, .int 0, .int 0, .int (-1), .ref aa_6, .ref aa_7, .ref aa_8, .int 0, .ref aa_9, .ref aa_10, .int (-1), .ref aa_11, .ref aa_12, .ref aa_13, .ref aa_14, .ref aa_15, .ref aa_16, .ref aa_17, .ref aa_18]) rfl dX12_begin_15 (fun f_7 hf_8 hk_9 => ?_)
  obtain rfl : f = f_7 := (funext (noop e_aa_0 hf_8 hk_9)).symm
  refine v_aload_n hC dX12_begin_18 rfl ?_
  refine v_iconst hC dX12_begin_19 (v := 0) (by decide) ?_
  refine v_put hC fl_X12_111 m_aa_0 e_aa_0 rfl rfl (Nat.le_of_ble_eq_true rfl) (fs' := [.int 0, .ref aa_1, .ref aa_2, .ref aa_3, .ref aa_4, .int 0, .ref aa_5, .int 0, .int 0, .int 0, .int 0, .int 0, .int 0, .int (-1), .ref aa_6, .ref aa_7, .ref aa_8, .int 0, .ref aa_9, .ref aa_10, .int (-1), .ref aa_11, .ref aa_12, .ref aa_13, .ref aa_14, .ref aa_15, .ref aa_16, .ref aa_17, .ref aa_18]) rfl dX12_begin_20 (fun f_10 hf_11 hk_12 => ?_)
  obtain rfl : f = f_10 := (funext (noop e_aa_0 hf_11 hk_12)).symm
  refine v_aload_n hC dX12_begin_23 rfl ?_
  refine v_iconst hC dX12_begin_24 (v := (-1)) (by decide) ?_
  refine v_put hC fl_X12_31 m_aa_0 e_aa_0 rfl rfl (Nat.le_of_ble_eq_true rfl) (fs' := [.int 0, .ref aa_1, .ref aa_2, .ref aa_3, .ref aa_4, .int 0, .ref aa_5, .int 0, .int 0, .int 0, .int 0, .int 0, .int 0, .int (-1), .ref aa_6, .ref aa_7, .ref aa_8, .int 0, .ref aa_9, .ref aa_10, .int (-1), .ref aa_11, .ref aa_12, .ref aa_13, .ref aa_14, .ref aa_15, .ref aa_16, .ref aa_17, .ref aa_18]) rfl dX12_begin_25 (fun f_13 hf_14 hk_15 => ?_)
  obtain rfl : f = f_13 := (funext (noop e_aa_0 hf_14 hk_15)).symm
  exact hR _ _ _ _ _ _ dX12_begin_28 (Nat.le_of_ble_eq_true rfl) (Nat.le_of_ble_eq_true rfl) ⟨rfl, rfl⟩
set_option maxRecDepth 100000 in
set_option maxHeartbeats 4000000 in
theorem a221_X12_see {l : Launch} {E : Ez} {L : List Nat} {f : Nat → va_E} {aa_0 aa_1 aa_2 aa_3 aa_4 aa_5 aa_6 aa_7 aa_8 aa_9 aa_10 aa_11 aa_12 aa_13 aa_14 aa_15 aa_16 aa_17 aa_18 : Nat} (m_aa_0 : aa_0 ∈ L) (e_aa_0 : f aa_0 = ob 12 [.int 0, .ref aa_1, .ref aa_2, .ref aa_3, .ref aa_4, .int 0, .ref aa_5, .int 0, .int 0, .int 0, .int 0, .int 0, .int 0, .int (-1), .ref aa_6, .ref aa_7, .ref aa_8, .int 0, .ref aa_9, .ref aa_10, .int (-1), .ref aa_11, .ref aa_12, .ref aa_13, .ref aa_14, .ref aa_15, .ref aa_16, .ref aa_17, .ref aa_18]) : CI l yX12_see cX12_see 2 .int 0 0 0 E [.ref aa_0, .int 0] L f (fun r L1 f1 => (-1) = r ∧ L = L1 ∧ f = f1) := by
  refine ci_of (by decide) (Nat.le_of_ble_eq_true rfl) (fun z hz hnm hC hR => ?_)
  have hC : Cx z E cX12_see RX12 2 0 0 0 := hC
  subst hz
  show V z E 2 0 0 L f 0 [(0, .ref aa_0), (1, .int 0)] []
  refine v_iload_n hC dX12_see_0 rfl ?_
  refine v_aload_n hC dX12_see_1 rfl ?_
  refine v_get hC fl_X12_105 m_aa_0 e_aa_0 rfl dX12_see_2 ?_
  refine v_icmp_ge_t hC dX12_see_5 (tgt := 21) (by decide) (by decide) ?_
  refine v_iconst hC dX12_see_21 (v := (-1)) (by decide) ?_
  exact hR _ _ _ _ _ _ _ dX12_see_22 rfl (Nat.le_of_ble_eq_true rfl) (Nat.le_of_ble_eq_true rfl) ⟨rfl, rfl, rfl⟩
set_option maxRecDepth 100000 in
set_option maxHeartbeats 4000000 in
theorem a221_X12_advance {l : Launch} {E : Ez} {L : List Nat} {f : Nat → va_E} {aa_0 aa_1 aa_2 aa_3 aa_4 aa_5 aa_6 aa_7 aa_8 aa_9 aa_10 aa_11 aa_12 aa_13 aa_14 aa_15 aa_16 aa_17 aa_18 : Nat} (m_aa_0 : aa_0 ∈ L) (e_aa_0 : f aa_0 = ob 12 [.int 0, .ref aa_1, .ref aa_2, .ref aa_3, .ref aa_4, .int 0, .ref aa_5, .int 0, .int 0, .int 0, .int 0, .int 0, .int 0, .int (-1), .ref aa_6, .ref aa_7, .ref aa_8, .int 0, .ref aa_9, .ref aa_10, .int (-1), .ref aa_11, .ref aa_12, .ref aa_13, .ref aa_14, .ref aa_15, .ref aa_16, .ref aa_17, .ref aa_18]) (m_aa_6 : aa_6 ∈ L) (e_aa_6 : f aa_6 = aI E 2076 (fun _ => 0)) : CV l yX12_advance cX12_advance 2 1 0 0 E [.ref aa_0] L f (fun L1 f1 => L = L1 ∧ f = f1) := by
  refine cv_of (by decide) (Nat.le_of_ble_eq_true rfl) (fun z hz hnm hC hR => ?_)
  have hC : Cx z E cX12_advance RX12 2 1 0 0 := hC
  subst hz
  show V z E 2 0 0 L f 0 [(0, .ref aa_0)] []
  refine v_aload_n hC dX12_advance_0 rfl ?_
  refine v_aload_n hC dX12_advance_1 rfl ?_
  refine v_get hC fl_X12_108 m_aa_0 e_aa_0 rfl dX12_advance_2 ?_
  refine v_vi hC (rest := []) m_aa_0 e_aa_0 rfl mi_X12_see ms_X12_see (a221_X12_see m_aa_0 e_aa_0) mx_X12_see ml_X12_114 (by decide) rfl (cells1 := 0) (slots1 := 0) (by decide) (by decide) (Nat.le_of_ble_eq_true rfl) (Nat.le_of_ble_eq_true rfl) rfl (Nat.le_of_ble_eq_true rfl) dX12_advance_5 (fun r_1 L_2 f_3 h_4 => ?_)
  obtain ⟨rfl, rfl, rfl⟩ := h_4
  refine v_bipush hC dX12_advance_8 (v := 32) (by decide) ?_
  refine v_icmp_eq_f hC dX12_advance_10 (tgt := 26) (by decide) (by decide) ?_
  refine v_aload_n hC dX12_advance_13 rfl ?_
  refine v_aload_n hC dX12_advance_14 rfl ?_
  refine v_get hC fl_X12_108 m_aa_0 e_aa_0 rfl dX12_advance_15 ?_
  refine v_vi hC (rest := []) m_aa_0 e_aa_0 rfl mi_X12_see ms_X12_see (a221_X12_see m_aa_0 e_aa_0) mx_X12_see ml_X12_114 (by decide) rfl (cells1 := 0) (slots1 := 0) (by decide) (by decide) (Nat.le_of_ble_eq_true rfl) (Nat.le_of_ble_eq_true rfl) rfl (Nat.le_of_ble_eq_true rfl) dX12_advance_18 (fun r_5 L_6 f_7 h_8 => ?_)
  obtain ⟨rfl, rfl, rfl⟩ := h_8
  refine v_bipush hC dX12_advance_21 (v := 10) (by decide) ?_
  refine v_icmp_ne_t hC dX12_advance_23 (tgt := 39) (by decide) (by decide) ?_
  refine v_aload_n hC dX12_advance_39 rfl ?_
  refine v_aload_n hC dX12_advance_40 rfl ?_
  refine v_get hC fl_X12_108 m_aa_0 e_aa_0 rfl dX12_advance_41 ?_
  refine v_put hC fl_X12_117 m_aa_0 e_aa_0 rfl rfl (Nat.le_of_ble_eq_true rfl) (fs' := [.int 0, .ref aa_1, .ref aa_2, .ref aa_3, .ref aa_4, .int 0, .ref aa_5, .int 0, .int 0, .int 0, .int 0, .int 0, .int 0, .int (-1), .ref aa_6, .ref aa_7, .ref aa_8, .int 0, .ref aa_9, .ref aa_10, .int (-1), .ref aa_11, .ref aa_12, .ref aa_13, .ref aa_14, .ref aa_15, .ref aa_16, .ref aa_17, .ref aa_18]) rfl dX12_advance_44 (fun f_9 hf_10 hk_11 => ?_)
  obtain rfl : f = f_9 := (funext (noop e_aa_0 hf_10 hk_11)).symm
  refine v_aload_n hC dX12_advance_47 rfl ?_
  refine v_aload_n hC dX12_advance_48 rfl ?_
  refine v_get hC fl_X12_108 m_aa_0 e_aa_0 rfl dX12_advance_49 ?_
  refine v_vi hC (rest := []) m_aa_0 e_aa_0 rfl mi_X12_see ms_X12_see (a221_X12_see m_aa_0 e_aa_0) mx_X12_see ml_X12_114 (by decide) rfl (cells1 := 0) (slots1 := 0) (by decide) (by decide) (Nat.le_of_ble_eq_true rfl) (Nat.le_of_ble_eq_true rfl) rfl (Nat.le_of_ble_eq_true rfl) dX12_advance_52 (fun r_12 L_13 f_14 h_15 => ?_)
  obtain ⟨rfl, rfl, rfl⟩ := h_15
  refine v_istore_n hC dX12_advance_55 (by decide) (lv' := [(1, .int (-1)), (0, .ref aa_0)]) rfl ?_
  refine v_iload_n hC dX12_advance_56 rfl ?_
  refine v_iconst hC dX12_advance_57 (v := (-1)) (by decide) ?_
  refine v_icmp_ne_f hC dX12_advance_58 (tgt := 69) (by decide) (by decide) ?_
  refine v_aload_n hC dX12_advance_61 rfl ?_
  refine v_iconst hC dX12_advance_62 (v := 0) (by decide) ?_
  refine v_put hC fl_X12_120 m_aa_0 e_aa_0 rfl rfl (Nat.le_of_ble_eq_true rfl) (fs' := [.int 0, .ref aa_1, .ref aa_2, .ref aa_3, .ref aa_4, .int 0, .ref aa_5, .int 0, .int 0, .int 0, .int 0, .int 0, .int 0, .int (-1), .ref aa_6, .ref aa_7, .ref aa_8, .int 0, .ref aa_9, .ref aa_10, .int (-1), .ref aa_11, .ref aa_12, .ref aa_13, .ref aa_14, .ref aa_15, .ref aa_16, .ref aa_17, .ref aa_18]) rfl dX12_advance_63 (fun f_16 hf_17 hk_18 => ?_)
  obtain rfl : f = f_16 := (funext (noop e_aa_0 hf_17 hk_18)).symm
  refine v_goto hC dX12_advance_66 (tgt := 240) (by decide) ?_
  exact hR _ _ _ _ _ _ dX12_advance_240 (Nat.le_of_ble_eq_true rfl) (Nat.le_of_ble_eq_true rfl) ⟨rfl, rfl⟩
set_option maxRecDepth 100000 in
set_option maxHeartbeats 4000000 in
theorem a225_X12_good {l : Launch} {E : Ez} {L : List Nat} {f : Nat → va_E} {aa_0 aa_1 aa_2 aa_3 aa_4 aa_5 aa_6 aa_7 aa_8 aa_9 aa_10 aa_11 aa_12 aa_13 aa_14 aa_15 aa_16 aa_17 aa_18 : Nat} (m_aa_0 : aa_0 ∈ L) (e_aa_0 : f aa_0 = ob 12 [.int 0, .ref aa_1, .ref aa_2, .ref aa_3, .ref aa_4, .int 0, .ref aa_5, .int 0, .int 0, .int 0, .int 0, .int 0, .int 0, .int (-1), .ref aa_6, .ref aa_7, .ref aa_8, .int 0, .ref aa_9, .ref aa_10, .int (-1), .ref aa_11, .ref aa_12, .ref aa_13, .ref aa_14, .ref aa_15, .ref aa_16, .ref aa_17, .ref aa_18]) : CI l yX12_good cX12_good 1 .boolean 0 0 0 E [.ref aa_0] L f (fun r L1 f1 => 1 = r ∧ L = L1 ∧ f = f1) := by
  refine ci_of (by decide) (Nat.le_of_ble_eq_true rfl) (fun z hz hnm hC hR => ?_)
  have hC : Cx z E cX12_good RX12 1 0 0 0 := hC
  subst hz
  show V z E 1 0 0 L f 0 [(0, .ref aa_0)] []
  refine v_aload_n hC dX12_good_0 rfl ?_
  refine v_get hC fl_X12_111 m_aa_0 e_aa_0 rfl dX12_good_1 ?_
  refine v_if_ne_f hC dX12_good_4 (tgt := 11) (by decide) (by decide) ?_
  refine v_iconst hC dX12_good_7 (v := 1) (by decide) ?_
  refine v_goto hC dX12_good_8 (tgt := 12) (by decide) ?_
  exact hR _ _ _ _ _ _ _ dX12_good_12 rfl (Nat.le_of_ble_eq_true rfl) (Nat.le_of_ble_eq_true rfl) ⟨rfl, rfl, rfl⟩
set_option maxRecDepth 100000 in
set_option maxHeartbeats 4000000 in
theorem a225_X12_is {l : Launch} {E : Ez} {L : List Nat} {f : Nat → va_E} {ii_0 : Nat} {aa_0 aa_1 aa_2 aa_3 aa_4 aa_5 aa_6 aa_7 aa_8 aa_9 aa_10 aa_11 aa_12 aa_13 aa_14 aa_15 aa_16 aa_17 aa_18 : Nat} (hii_0 : ii_0 < 77) (m_aa_0 : aa_0 ∈ L) (e_aa_0 : f aa_0 = ob 12 [.int 0, .ref aa_1, .ref aa_2, .ref aa_3, .ref aa_4, .int 0, .ref aa_5, .int 0, .int 0, .int 0, .int 0, .int 0, .int 0, .int (-1), .ref aa_6, .ref aa_7, .ref aa_8, .int 0, .ref aa_9, .ref aa_10, .int (-1), .ref aa_11, .ref aa_12, .ref aa_13, .ref aa_14, .ref aa_15, .ref aa_16, .ref aa_17, .ref aa_18]) (m_aa_6 : aa_6 ∈ L) (e_aa_6 : f aa_6 = aI E 2076 (fun _ => 0)) : CI l yX12_is cX12_is 4 .boolean 2 0 0 E [.ref aa_0, .ref (eK E ii_0)] L f (fun r L1 f1 => 0 = r ∧ L = L1 ∧ f = f1) := by
  refine ci_of (by decide) (Nat.le_of_ble_eq_true rfl) (fun z hz hnm hC hR => ?_)
  have hC : Cx z E cX12_is RX12 4 2 0 0 := hC
  subst hz
  show V z E 4 0 0 L f 0 [(0, .ref aa_0), (1, .ref (eK E ii_0))] []
  refine v_aload_n hC dX12_is_0 rfl ?_
  refine v_vi hC (rest := []) m_aa_0 e_aa_0 rfl mi_X12_good ms_X12_good (a225_X12_good m_aa_0 e_aa_0) mx_X12_good ml_X12_139 (by decide) rfl (cells1 := 0) (slots1 := 0) (by decide) (by decide) (Nat.le_of_ble_eq_true rfl) (Nat.le_of_ble_eq_true rfl) rfl (Nat.le_of_ble_eq_true rfl) dX12_is_1 (fun r_1 L_2 f_3 h_4 => ?_)
  obtain ⟨rfl, rfl, rfl⟩ := h_4
  refine v_if_eq_f hC dX12_is_4 (tgt := 35) (by decide) (by decide) ?_
  refine v_aload_n hC dX12_is_7 rfl ?_
  refine v_get hC fl_X12_120 m_aa_0 e_aa_0 rfl dX12_is_8 ?_
  refine v_iconst hC dX12_is_11 (v := 1) (by decide) ?_
  refine v_icmp_ne_t hC dX12_is_12 (tgt := 35) (by decide) (by decide) ?_
  refine v_iconst hC dX12_is_35 (v := 0) (by decide) ?_
  refine v_istore_n hC dX12_is_36 (by decide) (lv' := [(2, .int 0), (0, .ref aa_0), (1, .ref (eK E ii_0))]) rfl ?_
  refine v_iconst hC dX12_is_37 (v := 0) (by decide) ?_
  refine v_istore_n hC dX12_is_38 (by decide) (lv' := [(3, .int 0), (2, .int 0), (0, .ref aa_0), (1, .ref (eK E ii_0))]) rfl ?_
  refine v_iload_n hC dX12_is_39 rfl ?_
  refine v_aload_n hC dX12_is_40 rfl ?_
  refine v_viS hC (rest := [.int 0]) hii_0 rfl mi_J0_length_8abf5 ms_J0_length_8abf5 (c_strlen hii_0) mx_J0_length_8abf5 ml_X12_143 (by decide) rfl (cells1 := 0) (slots1 := 0) (by decide) (by decide) (Nat.le_of_ble_eq_true rfl) (Nat.le_of_ble_eq_true rfl) rfl (Nat.le_of_ble_eq_true rfl) dX12_is_41 (fun r_5 L_6 f_7 h_8 => ?_)
  obtain ⟨rfl, rfl, rfl⟩ := h_8
  refine v_icmp_ge hC dX12_is_44 (tgt := 82) (by decide) (fun h_9 => ?_) (fun h_9 => ?_)
  · refine v_iload_n hC dX12_is_82 rfl ?_
    exact hR _ _ _ _ _ _ _ dX12_is_83 rfl (Nat.le_of_ble_eq_true rfl) (Nat.le_of_ble_eq_true rfl) ⟨rfl, rfl, rfl⟩
  · refine v_iload_n hC dX12_is_47 rfl ?_
    refine v_if_eq_t hC dX12_is_48 (tgt := 82) (by decide) (by decide) ?_
    refine v_iload_n hC dX12_is_82 rfl ?_
    exact hR _ _ _ _ _ _ _ dX12_is_83 rfl (Nat.le_of_ble_eq_true rfl) (Nat.le_of_ble_eq_true rfl) ⟨rfl, rfl, rfl⟩
set_option maxRecDepth 100000 in
set_option maxHeartbeats 4000000 in
theorem a225_X12_takes {l : Launch} {E : Ez} {L : List Nat} {f : Nat → va_E} {ii_0 : Nat} {aa_0 aa_1 aa_2 aa_3 aa_4 aa_5 aa_6 aa_7 aa_8 aa_9 aa_10 aa_11 aa_12 aa_13 aa_14 aa_15 aa_16 aa_17 aa_18 : Nat} (hii_0 : ii_0 < 77) (m_aa_0 : aa_0 ∈ L) (e_aa_0 : f aa_0 = ob 12 [.int 0, .ref aa_1, .ref aa_2, .ref aa_3, .ref aa_4, .int 0, .ref aa_5, .int 0, .int 0, .int 0, .int 0, .int 0, .int 0, .int (-1), .ref aa_6, .ref aa_7, .ref aa_8, .int 0, .ref aa_9, .ref aa_10, .int (-1), .ref aa_11, .ref aa_12, .ref aa_13, .ref aa_14, .ref aa_15, .ref aa_16, .ref aa_17, .ref aa_18]) (m_aa_6 : aa_6 ∈ L) (e_aa_6 : f aa_6 = aI E 2076 (fun _ => 0)) : CI l yX12_takes cX12_takes 3 .boolean 3 0 0 E [.ref aa_0, .ref (eK E ii_0)] L f (fun r L1 f1 => 0 = r ∧ L = L1 ∧ f = f1) := by
  refine ci_of (by decide) (Nat.le_of_ble_eq_true rfl) (fun z hz hnm hC hR => ?_)
  have hC : Cx z E cX12_takes RX12 3 3 0 0 := hC
  subst hz
  show V z E 3 0 0 L f 0 [(0, .ref aa_0), (1, .ref (eK E ii_0))] []
  refine v_aload_n hC dX12_takes_0 rfl ?_
  refine v_aload_n hC dX12_takes_1 rfl ?_
  refine v_vi hC (rest := []) m_aa_0 e_aa_0 rfl mi_X12_is ms_X12_is (a225_X12_is hii_0 m_aa_0 e_aa_0 m_aa_6 e_aa_6) mx_X12_is ml_X12_152 (by decide) rfl (cells1 := 0) (slots1 := 0) (by decide) (by decide) (Nat.le_of_ble_eq_true rfl) (Nat.le_of_ble_eq_true rfl) rfl (Nat.le_of_ble_eq_true rfl) dX12_takes_2 (fun r_1 L_2 f_3 h_4 => ?_)
  obtain ⟨rfl, rfl, rfl⟩ := h_4
  refine v_istore_n hC dX12_takes_5 (by decide) (lv' := [(2, .int 0), (0, .ref aa_0), (1, .ref (eK E ii_0))]) rfl ?_
  refine v_iload_n hC dX12_takes_6 rfl ?_
  refine v_if_eq_t hC dX12_takes_7 (tgt := 14) (by decide) (by decide) ?_
  refine v_iload_n hC dX12_takes_14 rfl ?_
  exact hR _ _ _ _ _ _ _ dX12_takes_15 rfl (Nat.le_of_ble_eq_true rfl) (Nat.le_of_ble_eq_true rfl) ⟨rfl, rfl, rfl⟩
set_option maxRecDepth 100000 in
set_option maxHeartbeats 4000000 in
theorem a231_X12_errs {l : Launch} {E : Ez} {L : List Nat} {f : Nat → va_E} {aa_0 aa_1 aa_2 aa_3 aa_4 aa_5 aa_6 aa_7 aa_8 aa_9 aa_10 aa_11 aa_12 aa_13 aa_14 aa_15 aa_16 aa_17 aa_18 : Nat} (m_aa_0 : aa_0 ∈ L) (e_aa_0 : f aa_0 = ob 12 [.int 0, .ref aa_1, .ref aa_2, .ref aa_3, .ref aa_4, .int 0, .ref aa_5, .int 0, .int 0, .int 0, .int 0, .int 0, .int 0, .int (-1), .ref aa_6, .ref aa_7, .ref aa_8, .int 0, .ref aa_9, .ref aa_10, .int (-1), .ref aa_11, .ref aa_12, .ref aa_13, .ref aa_14, .ref aa_15, .ref aa_16, .ref aa_17, .ref aa_18]) (m_aa_6 : aa_6 ∈ L) (e_aa_6 : f aa_6 = aI E 2076 (fun _ => 0)) : CV l yX12_errs cX12_errs 2 1 0 0 E [.ref aa_0, .int 1] L f (fun L1 f1 => L = L1 ∧ f1 aa_0 = ob 12 [.int 0, .ref aa_1, .ref aa_2, .ref aa_3, .ref aa_4, .int 0, .ref aa_5, .int 0, .int 0, .int 0, .int 0, .int 0, .int 1, .int 0, .ref aa_6, .ref aa_7, .ref aa_8, .int 0, .ref aa_9, .ref aa_10, .int (-1), .ref aa_11, .ref aa_12, .ref aa_13, .ref aa_14, .ref aa_15, .ref aa_16, .ref aa_17, .ref aa_18] ∧ ∀ b, b ≠ aa_0 → f1 b = f b) := by
  refine cv_of (by decide) (Nat.le_of_ble_eq_true rfl) (fun z hz hnm hC hR => ?_)
  have hC : Cx z E cX12_errs RX12 2 1 0 0 := hC
  subst hz
  show V z E 2 0 0 L f 0 [(0, .ref aa_0), (1, .int 1)] []
  refine v_aload_n hC dX12_errs_0 rfl ?_
  refine v_vi hC (rest := []) m_aa_0 e_aa_0 rfl mi_X12_good ms_X12_good (a225_X12_good m_aa_0 e_aa_0) mx_X12_good ml_X12_139 (by decide) rfl (cells1 := 0) (slots1 := 0) (by decide) (by decide) (Nat.le_of_ble_eq_true rfl) (Nat.le_of_ble_eq_true rfl) rfl (Nat.le_of_ble_eq_true rfl) dX12_errs_1 (fun r_1 L_2 f_3 h_4 => ?_)
  obtain ⟨rfl, rfl, rfl⟩ := h_4
  refine v_if_ne_t hC dX12_errs_4 (tgt := 8) (by decide) (by decide) ?_
  refine v_aload_n hC dX12_errs_8 rfl ?_
  refine v_iload_n hC dX12_errs_9 rfl ?_
  refine v_put hC fl_X12_111 m_aa_0 e_aa_0 rfl rfl (Nat.le_of_ble_eq_true rfl) (fs' := [.int 0, .ref aa_1, .ref aa_2, .ref aa_3, .ref aa_4, .int 0, .ref aa_5, .int 0, .int 0, .int 0, .int 0, .int 0, .int 1, .int (-1), .ref aa_6, .ref aa_7, .ref aa_8, .int 0, .ref aa_9, .ref aa_10, .int (-1), .ref aa_11, .ref aa_12, .ref aa_13, .ref aa_14, .ref aa_15, .ref aa_16, .ref aa_17, .ref aa_18]) rfl dX12_errs_10 (fun f_5 hf_6 hk_7 => ?_)
  have hf_8 := (hk_7 aa_6 (ne_kd e_aa_6 e_aa_0 rfl)).trans e_aa_6
  refine v_aload_n hC dX12_errs_13 rfl ?_
  refine v_aload_n hC dX12_errs_14 rfl ?_
  refine v_get hC fl_X12_117 m_aa_0 hf_6 rfl dX12_errs_15 ?_
  refine v_put hC fl_X12_31 m_aa_0 hf_6 rfl rfl (Nat.le_of_ble_eq_true rfl) (fs' := [.int 0, .ref aa_1, .ref aa_2, .ref aa_3, .ref aa_4, .int 0, .ref aa_5, .int 0, .int 0, .int 0, .int 0, .int 0, .int 1, .int 0, .ref aa_6, .ref aa_7, .ref aa_8, .int 0, .ref aa_9, .ref aa_10, .int (-1), .ref aa_11, .ref aa_12, .ref aa_13, .ref aa_14, .ref aa_15, .ref aa_16, .ref aa_17, .ref aa_18]) rfl dX12_errs_18 (fun f_9 hf_10 hk_11 => ?_)
  have hf_12 := (hk_11 aa_6 (ne_kd hf_8 hf_6 rfl)).trans hf_8
  exact hR _ _ _ _ _ _ dX12_errs_21 (Nat.le_of_ble_eq_true rfl) (Nat.le_of_ble_eq_true rfl) ⟨rfl, hf_10, fun b nn_0 => ((hk_11 b nn_0).trans (hk_7 b nn_0))⟩
set_option maxRecDepth 100000 in
set_option maxHeartbeats 4000000 in
theorem a225_X12_needs {l : Launch} {E : Ez} {L : List Nat} {f : Nat → va_E} {ii_0 : Nat} {aa_0 aa_1 aa_2 aa_3 aa_4 aa_5 aa_6 aa_7 aa_8 aa_9 aa_10 aa_11 aa_12 aa_13 aa_14 aa_15 aa_16 aa_17 aa_18 : Nat} (hii_0 : ii_0 < 77) (m_aa_0 : aa_0 ∈ L) (e_aa_0 : f aa_0 = ob 12 [.int 0, .ref aa_1, .ref aa_2, .ref aa_3, .ref aa_4, .int 0, .ref aa_5, .int 0, .int 0, .int 0, .int 0, .int 0, .int 0, .int (-1), .ref aa_6, .ref aa_7, .ref aa_8, .int 0, .ref aa_9, .ref aa_10, .int (-1), .ref aa_11, .ref aa_12, .ref aa_13, .ref aa_14, .ref aa_15, .ref aa_16, .ref aa_17, .ref aa_18]) (m_aa_6 : aa_6 ∈ L) (e_aa_6 : f aa_6 = aI E 2076 (fun _ => 0)) : CV l yX12_needs cX12_needs 2 4 0 0 E [.ref aa_0, .ref (eK E ii_0)] L f (fun L1 f1 => L = L1 ∧ f1 aa_0 = ob 12 [.int 0, .ref aa_1, .ref aa_2, .ref aa_3, .ref aa_4, .int 0, .ref aa_5, .int 0, .int 0, .int 0, .int 0, .int 0, .int 1, .int 0, .ref aa_6, .ref aa_7, .ref aa_8, .int 0, .ref aa_9, .ref aa_10, .int (-1), .ref aa_11, .ref aa_12, .ref aa_13, .ref aa_14, .ref aa_15, .ref aa_16, .ref aa_17, .ref aa_18] ∧ ∀ b, b ≠ aa_0 → f1 b = f b) := by
  refine cv_of (by decide) (Nat.le_of_ble_eq_true rfl) (fun z hz hnm hC hR => ?_)
  have hC : Cx z E cX12_needs RX12 2 4 0 0 := hC
  subst hz
  show V z E 2 0 0 L f 0 [(0, .ref aa_0), (1, .ref (eK E ii_0))] []
  refine v_aload_n hC dX12_needs_0 rfl ?_
  refine v_aload_n hC dX12_needs_1 rfl ?_
  refine v_vi hC (rest := []) m_aa_0 e_aa_0 rfl mi_X12_takes ms_X12_takes (a225_X12_takes hii_0 m_aa_0 e_aa_0 m_aa_6 e_aa_6) mx_X12_takes ml_X12_159 (by decide) rfl (cells1 := 0) (slots1 := 0) (by decide) (by decide) (Nat.le_of_ble_eq_true rfl) (Nat.le_of_ble_eq_true rfl) rfl (Nat.le_of_ble_eq_true rfl) dX12_needs_2 (fun r_1 L_2 f_3 h_4 => ?_)
  obtain ⟨rfl, rfl, rfl⟩ := h_4
  refine v_if_ne_f hC dX12_needs_5 (tgt := 13) (by decide) (by decide) ?_
  refine v_aload_n hC dX12_needs_8 rfl ?_
  refine v_iconst hC dX12_needs_9 (v := 1) (by decide) ?_
  refine v_vv hC (rest := []) m_aa_0 e_aa_0 rfl mi_X12_errs ms_X12_errs (a231_X12_errs m_aa_0 e_aa_0 m_aa_6 e_aa_6) mx_X12_errs ml_X12_162 (by decide) rfl (cells1 := 0) (slots1 := 0) (by decide) (by decide) (Nat.le_of_ble_eq_true rfl) (Nat.le_of_ble_eq_true rfl) rfl (Nat.le_of_ble_eq_true rfl) dX12_needs_10 (fun L_6 f_7 h_8 => ?_)
  obtain ⟨rfl, hf_9, hk_10⟩ := h_8
  have hf_11 := (hk_10 aa_6 (ne_kd e_aa_6 e_aa_0 rfl)).trans e_aa_6
  exact hR _ _ _ _ _ _ dX12_needs_13 (Nat.le_of_ble_eq_true rfl) (Nat.le_of_ble_eq_true rfl) ⟨rfl, hf_9, fun b nn_0 => (hk_10 b nn_0)⟩
set_option maxRecDepth 100000 in
set_option maxHeartbeats 4000000 in
theorem a235_X12_good {l : Launch} {E : Ez} {L : List Nat} {f : Nat → va_E} {aa_0 aa_1 aa_2 aa_3 aa_4 aa_5 aa_6 aa_7 aa_8 aa_9 aa_10 aa_11 aa_12 aa_13 aa_14 aa_15 aa_16 aa_17 aa_18 : Nat} (m_aa_0 : aa_0 ∈ L) (e_aa_0 : f aa_0 = ob 12 [.int 0, .ref aa_1, .ref aa_2, .ref aa_3, .ref aa_4, .int 0, .ref aa_5, .int 0, .int 0, .int 0, .int 0, .int 0, .int 1, .int 0, .ref aa_6, .ref aa_7, .ref aa_8, .int 0, .ref aa_9, .ref aa_10, .int (-1), .ref aa_11, .ref aa_12, .ref aa_13, .ref aa_14, .ref aa_15, .ref aa_16, .ref aa_17, .ref aa_18]) : CI l yX12_good cX12_good 1 .boolean 0 0 0 E [.ref aa_0] L f (fun r L1 f1 => 0 = r ∧ L = L1 ∧ f = f1) := by
  refine ci_of (by decide) (Nat.le_of_ble_eq_true rfl) (fun z hz hnm hC hR => ?_)
  have hC : Cx z E cX12_good RX12 1 0 0 0 := hC
  subst hz
  show V z E 1 0 0 L f 0 [(0, .ref aa_0)] []
  refine v_aload_n hC dX12_good_0 rfl ?_
  refine v_get hC fl_X12_111 m_aa_0 e_aa_0 rfl dX12_good_1 ?_
  refine v_if_ne_t hC dX12_good_4 (tgt := 11) (by decide) (by decide) ?_
  refine v_iconst hC dX12_good_11 (v := 0) (by decide) ?_
  exact hR _ _ _ _ _ _ _ dX12_good_12 rfl (Nat.le_of_ble_eq_true rfl) (Nat.le_of_ble_eq_true rfl) ⟨rfl, rfl, rfl⟩
set_option maxRecDepth 100000 in
set_option maxHeartbeats 4000000 in
theorem a235_X12_number {l : Launch} {E : Ez} {L : List Nat} {f : Nat → va_E} {aa_0 aa_1 aa_2 aa_3 aa_4 aa_5 aa_6 aa_7 aa_8 aa_9 aa_10 aa_11 aa_12 aa_13 aa_14 aa_15 aa_16 aa_17 aa_18 : Nat} (m_aa_0 : aa_0 ∈ L) (e_aa_0 : f aa_0 = ob 12 [.int 0, .ref aa_1, .ref aa_2, .ref aa_3, .ref aa_4, .int 0, .ref aa_5, .int 0, .int 0, .int 0, .int 0, .int 0, .int 1, .int 0, .ref aa_6, .ref aa_7, .ref aa_8, .int 0, .ref aa_9, .ref aa_10, .int (-1), .ref aa_11, .ref aa_12, .ref aa_13, .ref aa_14, .ref aa_15, .ref aa_16, .ref aa_17, .ref aa_18]) (m_aa_6 : aa_6 ∈ L) (e_aa_6 : f aa_6 = aI E 2076 (fun _ => 0)) : CI l yX12_number cX12_number 4 .int 1 0 0 E [.ref aa_0, .int 1, .int 16] L f (fun r L1 f1 => 0 = r ∧ L = L1 ∧ f = f1) := by
  refine ci_of (by decide) (Nat.le_of_ble_eq_true rfl) (fun z hz hnm hC hR => ?_)
  have hC : Cx z E cX12_number RX12 4 1 0 0 := hC
  subst hz
  show V z E 4 0 0 L f 0 [(0, .ref aa_0), (1, .int 1), (2, .int 16)] []
  refine v_aload_n hC dX12_number_0 rfl ?_
  refine v_vi hC (rest := []) m_aa_0 e_aa_0 rfl mi_X12_good ms_X12_good (a235_X12_good m_aa_0 e_aa_0) mx_X12_good ml_X12_139 (by decide) rfl (cells1 := 0) (slots1 := 0) (by decide) (by decide) (Nat.le_of_ble_eq_true rfl) (Nat.le_of_ble_eq_true rfl) rfl (Nat.le_of_ble_eq_true rfl) dX12_number_1 (fun r_1 L_2 f_3 h_4 => ?_)
  obtain ⟨rfl, rfl, rfl⟩ := h_4
  refine v_if_eq_t hC dX12_number_4 (tgt := 20) (by decide) (by decide) ?_
  refine v_aload_n hC dX12_number_20 rfl ?_
  refine v_vi hC (rest := []) m_aa_0 e_aa_0 rfl mi_X12_good ms_X12_good (a235_X12_good m_aa_0 e_aa_0) mx_X12_good ml_X12_139 (by decide) rfl (cells1 := 0) (slots1 := 0) (by decide) (by decide) (Nat.le_of_ble_eq_true rfl) (Nat.le_of_ble_eq_true rfl) rfl (Nat.le_of_ble_eq_true rfl) dX12_number_21 (fun r_5 L_6 f_7 h_8 => ?_)
  obtain ⟨rfl, rfl, rfl⟩ := h_8
  refine v_if_eq_t hC dX12_number_24 (tgt := 47) (by decide) (by decide) ?_
  refine v_aload_n hC dX12_number_47 rfl ?_
  refine v_vi hC (rest := []) m_aa_0 e_aa_0 rfl mi_X12_good ms_X12_good (a235_X12_good m_aa_0 e_aa_0) mx_X12_good ml_X12_139 (by decide) rfl (cells1 := 0) (slots1 := 0) (by decide) (by decide) (Nat.le_of_ble_eq_true rfl) (Nat.le_of_ble_eq_true rfl) rfl (Nat.le_of_ble_eq_true rfl) dX12_number_48 (fun r_9 L_10 f_11 h_12 => ?_)
  obtain ⟨rfl, rfl, rfl⟩ := h_12
  refine v_if_ne_f hC dX12_number_51 (tgt := 56) (by decide) (by decide) ?_
  refine v_iconst hC dX12_number_54 (v := 0) (by decide) ?_
  exact hR _ _ _ _ _ _ _ dX12_number_55 rfl (Nat.le_of_ble_eq_true rfl) (Nat.le_of_ble_eq_true rfl) ⟨rfl, rfl, rfl⟩
set_option maxRecDepth 100000 in
set_option maxHeartbeats 4000000 in
theorem a225_X12_told {l : Launch} {E : Ez} {L : List Nat} {f : Nat → va_E} {ii_0 : Nat} {aa_0 aa_1 aa_2 aa_3 aa_4 aa_5 aa_6 aa_7 aa_8 aa_9 aa_10 aa_11 aa_12 aa_13 aa_14 aa_15 aa_16 aa_17 aa_18 : Nat} (hii_0 : ii_0 < 77) (m_aa_0 : aa_0 ∈ L) (e_aa_0 : f aa_0 = ob 12 [.int 0, .ref aa_1, .ref aa_2, .ref aa_3, .ref aa_4, .int 0, .ref aa_5, .int 0, .int 0, .int 0, .int 0, .int 0, .int 0, .int (-1), .ref aa_6, .ref aa_7, .ref aa_8, .int 0, .ref aa_9, .ref aa_10, .int (-1), .ref aa_11, .ref aa_12, .ref aa_13, .ref aa_14, .ref aa_15, .ref aa_16, .ref aa_17, .ref aa_18]) (m_aa_6 : aa_6 ∈ L) (e_aa_6 : f aa_6 = aI E 2076 (fun _ => 0)) : CI l yX12_told cX12_told 4 .int 5 0 0 E [.ref aa_0, .ref (eK E ii_0), .int 1, .int 16] L f (fun r L1 f1 => 0 = r ∧ L = L1 ∧ f1 aa_0 = ob 12 [.int 0, .ref aa_1, .ref aa_2, .ref aa_3, .ref aa_4, .int 0, .ref aa_5, .int 0, .int 0, .int 0, .int 0, .int 0, .int 1, .int 0, .ref aa_6, .ref aa_7, .ref aa_8, .int 0, .ref aa_9, .ref aa_10, .int (-1), .ref aa_11, .ref aa_12, .ref aa_13, .ref aa_14, .ref aa_15, .ref aa_16, .ref aa_17, .ref aa_18] ∧ ∀ b, b ≠ aa_0 → f1 b = f b) := by
  refine ci_of (by decide) (Nat.le_of_ble_eq_true rfl) (fun z hz hnm hC hR => ?_)
  have hC : Cx z E cX12_told RX12 4 5 0 0 := hC
  subst hz
  show V z E 4 0 0 L f 0 [(0, .ref aa_0), (1, .ref (eK E ii_0)), (2, .int 1), (3, .int 16)] []
  refine v_aload_n hC dX12_told_0 rfl ?_
  refine v_aload_n hC dX12_told_1 rfl ?_
  refine v_vv hC (rest := []) m_aa_0 e_aa_0 rfl mi_X12_needs ms_X12_needs (a225_X12_needs hii_0 m_aa_0 e_aa_0 m_aa_6 e_aa_6) mx_X12_needs ml_X12_166 (by decide) rfl (cells1 := 0) (slots1 := 0) (by decide) (by decide) (Nat.le_of_ble_eq_true rfl) (Nat.le_of_ble_eq_true rfl) rfl (Nat.le_of_ble_eq_true rfl) dX12_told_2 (fun L_2 f_3 h_4 => ?_)
  obtain ⟨rfl, hf_5, hk_6⟩ := h_4
  have hf_7 := (hk_6 aa_6 (ne_kd e_aa_6 e_aa_0 rfl)).trans e_aa_6
  refine v_aload_n hC dX12_told_5 rfl ?_
  refine v_iload_n hC dX12_told_6 rfl ?_
  refine v_iload_n hC dX12_told_7 rfl ?_
  refine v_vi hC (rest := []) m_aa_0 hf_5 rfl mi_X12_number ms_X12_number (a235_X12_number m_aa_0 hf_5 m_aa_6 hf_7) mx_X12_number ml_X12_170 (by decide) rfl (cells1 := 0) (slots1 := 0) (by decide) (by decide) (Nat.le_of_ble_eq_true rfl) (Nat.le_of_ble_eq_true rfl) rfl (Nat.le_of_ble_eq_true rfl) dX12_told_8 (fun r_8 L_9 f_10 h_11 => ?_)
  obtain ⟨rfl, rfl, rfl⟩ := h_11
  exact hR _ _ _ _ _ _ _ dX12_told_11 rfl (Nat.le_of_ble_eq_true rfl) (Nat.le_of_ble_eq_true rfl) ⟨rfl, rfl, hf_5, fun b nn_0 => (hk_6 b nn_0)⟩
set_option maxRecDepth 100000 in
set_option maxHeartbeats 4000000 in
theorem a241_X12_is {l : Launch} {E : Ez} {L : List Nat} {f : Nat → va_E} {ii_0 : Nat} {aa_0 aa_1 aa_2 aa_3 aa_4 aa_5 aa_6 aa_7 aa_8 aa_9 aa_10 aa_11 aa_12 aa_13 aa_14 aa_15 aa_16 aa_17 aa_18 : Nat} (hii_0 : ii_0 < 77) (m_aa_0 : aa_0 ∈ L) (e_aa_0 : f aa_0 = ob 12 [.int 0, .ref aa_1, .ref aa_2, .ref aa_3, .ref aa_4, .int 0, .ref aa_5, .int 0, .int 0, .int 0, .int 0, .int 0, .int 1, .int 0, .ref aa_6, .ref aa_7, .ref aa_8, .int 0, .ref aa_9, .ref aa_10, .int (-1), .ref aa_11, .ref aa_12, .ref aa_13, .ref aa_14, .ref aa_15, .ref aa_16, .ref aa_17, .ref aa_18]) (m_aa_6 : aa_6 ∈ L) (e_aa_6 : f aa_6 = aI E 2076 (fun _ => 0)) : CI l yX12_is cX12_is 4 .boolean 2 0 0 E [.ref aa_0, .ref (eK E ii_0)] L f (fun r L1 f1 => 0 = r ∧ L = L1 ∧ f = f1) := by
  refine ci_of (by decide) (Nat.le_of_ble_eq_true rfl) (fun z hz hnm hC hR => ?_)
  have hC : Cx z E cX12_is RX12 4 2 0 0 := hC
  subst hz
  show V z E 4 0 0 L f 0 [(0, .ref aa_0), (1, .ref (eK E ii_0))] []
  refine v_aload_n hC dX12_is_0 rfl ?_
  refine v_vi hC (rest := []) m_aa_0 e_aa_0 rfl mi_X12_good ms_X12_good (a235_X12_good m_aa_0 e_aa_0) mx_X12_good ml_X12_139 (by decide) rfl (cells1 := 0) (slots1 := 0) (by decide) (by decide) (Nat.le_of_ble_eq_true rfl) (Nat.le_of_ble_eq_true rfl) rfl (Nat.le_of_ble_eq_true rfl) dX12_is_1 (fun r_1 L_2 f_3 h_4 => ?_)
  obtain ⟨rfl, rfl, rfl⟩ := h_4
  refine v_if_eq_t hC dX12_is_4 (tgt := 35) (by decide) (by decide) ?_
  refine v_iconst hC dX12_is_35 (v := 0) (by decide) ?_
  refine v_istore_n hC dX12_is_36 (by decide) (lv' := [(2, .int 0), (0, .ref aa_0), (1, .ref (eK E ii_0))]) rfl ?_
  refine v_iconst hC dX12_is_37 (v := 0) (by decide) ?_
  refine v_istore_n hC dX12_is_38 (by decide) (lv' := [(3, .int 0), (2, .int 0), (0, .ref aa_0), (1, .ref (eK E ii_0))]) rfl ?_
  refine v_iload_n hC dX12_is_39 rfl ?_
  refine v_aload_n hC dX12_is_40 rfl ?_
  refine v_viS hC (rest := [.int 0]) hii_0 rfl mi_J0_length_8abf5 ms_J0_length_8abf5 (c_strlen hii_0) mx_J0_length_8abf5 ml_X12_143 (by decide) rfl (cells1 := 0) (slots1 := 0) (by decide) (by decide) (Nat.le_of_ble_eq_true rfl) (Nat.le_of_ble_eq_true rfl) rfl (Nat.le_of_ble_eq_true rfl) dX12_is_41 (fun r_5 L_6 f_7 h_8 => ?_)
  obtain ⟨rfl, rfl, rfl⟩ := h_8
  refine v_icmp_ge hC dX12_is_44 (tgt := 82) (by decide) (fun h_9 => ?_) (fun h_9 => ?_)
  · refine v_iload_n hC dX12_is_82 rfl ?_
    exact hR _ _ _ _ _ _ _ dX12_is_83 rfl (Nat.le_of_ble_eq_true rfl) (Nat.le_of_ble_eq_true rfl) ⟨rfl, rfl, rfl⟩
  · refine v_iload_n hC dX12_is_47 rfl ?_
    refine v_if_eq_t hC dX12_is_48 (tgt := 82) (by decide) (by decide) ?_
    refine v_iload_n hC dX12_is_82 rfl ?_
    exact hR _ _ _ _ _ _ _ dX12_is_83 rfl (Nat.le_of_ble_eq_true rfl) (Nat.le_of_ble_eq_true rfl) ⟨rfl, rfl, rfl⟩
set_option maxRecDepth 100000 in
set_option maxHeartbeats 4000000 in
theorem a241_X12_takes {l : Launch} {E : Ez} {L : List Nat} {f : Nat → va_E} {ii_0 : Nat} {aa_0 aa_1 aa_2 aa_3 aa_4 aa_5 aa_6 aa_7 aa_8 aa_9 aa_10 aa_11 aa_12 aa_13 aa_14 aa_15 aa_16 aa_17 aa_18 : Nat} (hii_0 : ii_0 < 77) (m_aa_0 : aa_0 ∈ L) (e_aa_0 : f aa_0 = ob 12 [.int 0, .ref aa_1, .ref aa_2, .ref aa_3, .ref aa_4, .int 0, .ref aa_5, .int 0, .int 0, .int 0, .int 0, .int 0, .int 1, .int 0, .ref aa_6, .ref aa_7, .ref aa_8, .int 0, .ref aa_9, .ref aa_10, .int (-1), .ref aa_11, .ref aa_12, .ref aa_13, .ref aa_14, .ref aa_15, .ref aa_16, .ref aa_17, .ref aa_18]) (m_aa_6 : aa_6 ∈ L) (e_aa_6 : f aa_6 = aI E 2076 (fun _ => 0)) : CI l yX12_takes cX12_takes 3 .boolean 3 0 0 E [.ref aa_0, .ref (eK E ii_0)] L f (fun r L1 f1 => 0 = r ∧ L = L1 ∧ f = f1) := by
  refine ci_of (by decide) (Nat.le_of_ble_eq_true rfl) (fun z hz hnm hC hR => ?_)
  have hC : Cx z E cX12_takes RX12 3 3 0 0 := hC
  subst hz
  show V z E 3 0 0 L f 0 [(0, .ref aa_0), (1, .ref (eK E ii_0))] []
  refine v_aload_n hC dX12_takes_0 rfl ?_
  refine v_aload_n hC dX12_takes_1 rfl ?_
  refine v_vi hC (rest := []) m_aa_0 e_aa_0 rfl mi_X12_is ms_X12_is (a241_X12_is hii_0 m_aa_0 e_aa_0 m_aa_6 e_aa_6) mx_X12_is ml_X12_152 (by decide) rfl (cells1 := 0) (slots1 := 0) (by decide) (by decide) (Nat.le_of_ble_eq_true rfl) (Nat.le_of_ble_eq_true rfl) rfl (Nat.le_of_ble_eq_true rfl) dX12_takes_2 (fun r_1 L_2 f_3 h_4 => ?_)
  obtain ⟨rfl, rfl, rfl⟩ := h_4
  refine v_istore_n hC dX12_takes_5 (by decide) (lv' := [(2, .int 0), (0, .ref aa_0), (1, .ref (eK E ii_0))]) rfl ?_
  refine v_iload_n hC dX12_takes_6 rfl ?_
  refine v_if_eq_t hC dX12_takes_7 (tgt := 14) (by decide) (by decide) ?_
  refine v_iload_n hC dX12_takes_14 rfl ?_
  exact hR _ _ _ _ _ _ _ dX12_takes_15 rfl (Nat.le_of_ble_eq_true rfl) (Nat.le_of_ble_eq_true rfl) ⟨rfl, rfl, rfl⟩
set_option maxRecDepth 100000 in
set_option maxHeartbeats 4000000 in
theorem a245_X12_errs {l : Launch} {E : Ez} {L : List Nat} {f : Nat → va_E} {aa_0 aa_1 aa_2 aa_3 aa_4 aa_5 aa_6 aa_7 aa_8 aa_9 aa_10 aa_11 aa_12 aa_13 aa_14 aa_15 aa_16 aa_17 aa_18 : Nat} (m_aa_0 : aa_0 ∈ L) (e_aa_0 : f aa_0 = ob 12 [.int 0, .ref aa_1, .ref aa_2, .ref aa_3, .ref aa_4, .int 0, .ref aa_5, .int 0, .int 0, .int 0, .int 0, .int 0, .int 1, .int 0, .ref aa_6, .ref aa_7, .ref aa_8, .int 0, .ref aa_9, .ref aa_10, .int (-1), .ref aa_11, .ref aa_12, .ref aa_13, .ref aa_14, .ref aa_15, .ref aa_16, .ref aa_17, .ref aa_18]) (m_aa_6 : aa_6 ∈ L) (e_aa_6 : f aa_6 = aI E 2076 (fun _ => 0)) : CV l yX12_errs cX12_errs 2 1 0 0 E [.ref aa_0, .int 1] L f (fun L1 f1 => L = L1 ∧ f = f1) := by
  refine cv_of (by decide) (Nat.le_of_ble_eq_true rfl) (fun z hz hnm hC hR => ?_)
  have hC : Cx z E cX12_errs RX12 2 1 0 0 := hC
  subst hz
  show V z E 2 0 0 L f 0 [(0, .ref aa_0), (1, .int 1)] []
  refine v_aload_n hC dX12_errs_0 rfl ?_
  refine v_vi hC (rest := []) m_aa_0 e_aa_0 rfl mi_X12_good ms_X12_good (a235_X12_good m_aa_0 e_aa_0) mx_X12_good ml_X12_139 (by decide) rfl (cells1 := 0) (slots1 := 0) (by decide) (by decide) (Nat.le_of_ble_eq_true rfl) (Nat.le_of_ble_eq_true rfl) rfl (Nat.le_of_ble_eq_true rfl) dX12_errs_1 (fun r_1 L_2 f_3 h_4 => ?_)
  obtain ⟨rfl, rfl, rfl⟩ := h_4
  refine v_if_ne_f hC dX12_errs_4 (tgt := 8) (by decide) (by decide) ?_
  exact hR _ _ _ _ _ _ dX12_errs_7 (Nat.le_of_ble_eq_true rfl) (Nat.le_of_ble_eq_true rfl) ⟨rfl, rfl⟩
set_option maxRecDepth 100000 in
set_option maxHeartbeats 4000000 in
theorem a241_X12_needs {l : Launch} {E : Ez} {L : List Nat} {f : Nat → va_E} {ii_0 : Nat} {aa_0 aa_1 aa_2 aa_3 aa_4 aa_5 aa_6 aa_7 aa_8 aa_9 aa_10 aa_11 aa_12 aa_13 aa_14 aa_15 aa_16 aa_17 aa_18 : Nat} (hii_0 : ii_0 < 77) (m_aa_0 : aa_0 ∈ L) (e_aa_0 : f aa_0 = ob 12 [.int 0, .ref aa_1, .ref aa_2, .ref aa_3, .ref aa_4, .int 0, .ref aa_5, .int 0, .int 0, .int 0, .int 0, .int 0, .int 1, .int 0, .ref aa_6, .ref aa_7, .ref aa_8, .int 0, .ref aa_9, .ref aa_10, .int (-1), .ref aa_11, .ref aa_12, .ref aa_13, .ref aa_14, .ref aa_15, .ref aa_16, .ref aa_17, .ref aa_18]) (m_aa_6 : aa_6 ∈ L) (e_aa_6 : f aa_6 = aI E 2076 (fun _ => 0)) : CV l yX12_needs cX12_needs 2 4 0 0 E [.ref aa_0, .ref (eK E ii_0)] L f (fun L1 f1 => L = L1 ∧ f = f1) := by
  refine cv_of (by decide) (Nat.le_of_ble_eq_true rfl) (fun z hz hnm hC hR => ?_)
  have hC : Cx z E cX12_needs RX12 2 4 0 0 := hC
  subst hz
  show V z E 2 0 0 L f 0 [(0, .ref aa_0), (1, .ref (eK E ii_0))] []
  refine v_aload_n hC dX12_needs_0 rfl ?_
  refine v_aload_n hC dX12_needs_1 rfl ?_
  refine v_vi hC (rest := []) m_aa_0 e_aa_0 rfl mi_X12_takes ms_X12_takes (a241_X12_takes hii_0 m_aa_0 e_aa_0 m_aa_6 e_aa_6) mx_X12_takes ml_X12_159 (by decide) rfl (cells1 := 0) (slots1 := 0) (by decide) (by decide) (Nat.le_of_ble_eq_true rfl) (Nat.le_of_ble_eq_true rfl) rfl (Nat.le_of_ble_eq_true rfl) dX12_needs_2 (fun r_1 L_2 f_3 h_4 => ?_)
  obtain ⟨rfl, rfl, rfl⟩ := h_4
  refine v_if_ne_f hC dX12_needs_5 (tgt := 13) (by decide) (by decide) ?_
  refine v_aload_n hC dX12_needs_8 rfl ?_
  refine v_iconst hC dX12_needs_9 (v := 1) (by decide) ?_
  refine v_vv hC (rest := []) m_aa_0 e_aa_0 rfl mi_X12_errs ms_X12_errs (a245_X12_errs m_aa_0 e_aa_0 m_aa_6 e_aa_6) mx_X12_errs ml_X12_162 (by decide) rfl (cells1 := 0) (slots1 := 0) (by decide) (by decide) (Nat.le_of_ble_eq_true rfl) (Nat.le_of_ble_eq_true rfl) rfl (Nat.le_of_ble_eq_true rfl) dX12_needs_10 (fun L_6 f_7 h_8 => ?_)
  obtain ⟨rfl, rfl⟩ := h_8
  exact hR _ _ _ _ _ _ dX12_needs_13 (Nat.le_of_ble_eq_true rfl) (Nat.le_of_ble_eq_true rfl) ⟨rfl, rfl⟩
set_option maxRecDepth 100000 in
set_option maxHeartbeats 4000000 in
theorem a241_X12_told {l : Launch} {E : Ez} {L : List Nat} {f : Nat → va_E} {ii_0 : Nat} {aa_0 aa_1 aa_2 aa_3 aa_4 aa_5 aa_6 aa_7 aa_8 aa_9 aa_10 aa_11 aa_12 aa_13 aa_14 aa_15 aa_16 aa_17 aa_18 : Nat} (hii_0 : ii_0 < 77) (m_aa_0 : aa_0 ∈ L) (e_aa_0 : f aa_0 = ob 12 [.int 0, .ref aa_1, .ref aa_2, .ref aa_3, .ref aa_4, .int 0, .ref aa_5, .int 0, .int 0, .int 0, .int 0, .int 0, .int 1, .int 0, .ref aa_6, .ref aa_7, .ref aa_8, .int 0, .ref aa_9, .ref aa_10, .int (-1), .ref aa_11, .ref aa_12, .ref aa_13, .ref aa_14, .ref aa_15, .ref aa_16, .ref aa_17, .ref aa_18]) (m_aa_6 : aa_6 ∈ L) (e_aa_6 : f aa_6 = aI E 2076 (fun _ => 0)) : CI l yX12_told cX12_told 4 .int 5 0 0 E [.ref aa_0, .ref (eK E ii_0), .int 1, .int 16] L f (fun r L1 f1 => 0 = r ∧ L = L1 ∧ f = f1) := by
  refine ci_of (by decide) (Nat.le_of_ble_eq_true rfl) (fun z hz hnm hC hR => ?_)
  have hC : Cx z E cX12_told RX12 4 5 0 0 := hC
  subst hz
  show V z E 4 0 0 L f 0 [(0, .ref aa_0), (1, .ref (eK E ii_0)), (2, .int 1), (3, .int 16)] []
  refine v_aload_n hC dX12_told_0 rfl ?_
  refine v_aload_n hC dX12_told_1 rfl ?_
  refine v_vv hC (rest := []) m_aa_0 e_aa_0 rfl mi_X12_needs ms_X12_needs (a241_X12_needs hii_0 m_aa_0 e_aa_0 m_aa_6 e_aa_6) mx_X12_needs ml_X12_166 (by decide) rfl (cells1 := 0) (slots1 := 0) (by decide) (by decide) (Nat.le_of_ble_eq_true rfl) (Nat.le_of_ble_eq_true rfl) rfl (Nat.le_of_ble_eq_true rfl) dX12_told_2 (fun L_2 f_3 h_4 => ?_)
  obtain ⟨rfl, rfl⟩ := h_4
  refine v_aload_n hC dX12_told_5 rfl ?_
  refine v_iload_n hC dX12_told_6 rfl ?_
  refine v_iload_n hC dX12_told_7 rfl ?_
  refine v_vi hC (rest := []) m_aa_0 e_aa_0 rfl mi_X12_number ms_X12_number (a235_X12_number m_aa_0 e_aa_0 m_aa_6 e_aa_6) mx_X12_number ml_X12_170 (by decide) rfl (cells1 := 0) (slots1 := 0) (by decide) (by decide) (Nat.le_of_ble_eq_true rfl) (Nat.le_of_ble_eq_true rfl) rfl (Nat.le_of_ble_eq_true rfl) dX12_told_8 (fun r_5 L_6 f_7 h_8 => ?_)
  obtain ⟨rfl, rfl, rfl⟩ := h_8
  exact hR _ _ _ _ _ _ _ dX12_told_11 rfl (Nat.le_of_ble_eq_true rfl) (Nat.le_of_ble_eq_true rfl) ⟨rfl, rfl, rfl⟩
set_option maxRecDepth 100000 in
set_option maxHeartbeats 4000000 in
theorem a251_X12_ends {l : Launch} {E : Ez} {L : List Nat} {f : Nat → va_E} {aa_0 aa_1 aa_2 aa_3 aa_4 aa_5 aa_6 aa_7 aa_8 aa_9 aa_10 aa_11 aa_12 aa_13 aa_14 aa_15 aa_16 aa_17 aa_18 : Nat} (m_aa_0 : aa_0 ∈ L) (e_aa_0 : f aa_0 = ob 12 [.int 0, .ref aa_1, .ref aa_2, .ref aa_3, .ref aa_4, .int 0, .ref aa_5, .int 0, .int 0, .int 0, .int 0, .int 0, .int 1, .int 0, .ref aa_6, .ref aa_7, .ref aa_8, .int 0, .ref aa_9, .ref aa_10, .int (-1), .ref aa_11, .ref aa_12, .ref aa_13, .ref aa_14, .ref aa_15, .ref aa_16, .ref aa_17, .ref aa_18]) (m_aa_6 : aa_6 ∈ L) (e_aa_6 : f aa_6 = aI E 2076 (fun _ => 0)) : CV l yX12_ends cX12_ends 1 1 0 0 E [.ref aa_0] L f (fun L1 f1 => L = L1 ∧ f = f1) := by
  refine cv_of (by decide) (Nat.le_of_ble_eq_true rfl) (fun z hz hnm hC hR => ?_)
  have hC : Cx z E cX12_ends RX12 1 1 0 0 := hC
  subst hz
  show V z E 1 0 0 L f 0 [(0, .ref aa_0)] []
  refine v_aload_n hC dX12_ends_0 rfl ?_
  refine v_vi hC (rest := []) m_aa_0 e_aa_0 rfl mi_X12_good ms_X12_good (a235_X12_good m_aa_0 e_aa_0) mx_X12_good ml_X12_139 (by decide) rfl (cells1 := 0) (slots1 := 0) (by decide) (by decide) (Nat.le_of_ble_eq_true rfl) (Nat.le_of_ble_eq_true rfl) rfl (Nat.le_of_ble_eq_true rfl) dX12_ends_1 (fun r_1 L_2 f_3 h_4 => ?_)
  obtain ⟨rfl, rfl, rfl⟩ := h_4
  refine v_if_eq_t hC dX12_ends_4 (tgt := 20) (by decide) (by decide) ?_
  refine v_aload_n hC dX12_ends_20 rfl ?_
  refine v_vi hC (rest := []) m_aa_0 e_aa_0 rfl mi_X12_good ms_X12_good (a235_X12_good m_aa_0 e_aa_0) mx_X12_good ml_X12_139 (by decide) rfl (cells1 := 0) (slots1 := 0) (by decide) (by decide) (Nat.le_of_ble_eq_true rfl) (Nat.le_of_ble_eq_true rfl) rfl (Nat.le_of_ble_eq_true rfl) dX12_ends_21 (fun r_5 L_6 f_7 h_8 => ?_)
  obtain ⟨rfl, rfl, rfl⟩ := h_8
  refine v_if_eq_t hC dX12_ends_24 (tgt := 31) (by decide) (by decide) ?_
  exact hR _ _ _ _ _ _ dX12_ends_31 (Nat.le_of_ble_eq_true rfl) (Nat.le_of_ble_eq_true rfl) ⟨rfl, rfl⟩
set_option maxRecDepth 100000 in
set_option maxHeartbeats 4000000 in
theorem a253_X12_readRow {l : Launch} {E : Ez} {L : List Nat} {f : Nat → va_E} {aa_0 aa_1 aa_2 aa_3 aa_4 aa_5 aa_6 aa_7 aa_8 aa_9 aa_10 aa_11 aa_12 aa_13 aa_14 aa_15 aa_16 aa_17 aa_18 : Nat} (m_aa_0 : aa_0 ∈ L) (e_aa_0 : f aa_0 = ob 12 [.int 0, .ref aa_1, .ref aa_2, .ref aa_3, .ref aa_4, .int 0, .ref aa_5, .int 0, .int 0, .int 0, .int 0, .int 0, .int 1, .int 0, .ref aa_6, .ref aa_7, .ref aa_8, .int 0, .ref aa_9, .ref aa_10, .int (-1), .ref aa_11, .ref aa_12, .ref aa_13, .ref aa_14, .ref aa_15, .ref aa_16, .ref aa_17, .ref aa_18]) (m_aa_6 : aa_6 ∈ L) (e_aa_6 : f aa_6 = aI E 2076 (fun _ => 0)) : CV l yX12_readRow cX12_readRow 5 5 0 0 E [.ref aa_0] L f (fun L1 f1 => L = L1 ∧ f = f1) := by
  refine cv_of (by decide) (Nat.le_of_ble_eq_true rfl) (fun z hz hnm hC hR => ?_)
  have hC : Cx z E cX12_readRow RX12 5 5 0 0 := hC
  subst hz
  show V z E 5 0 0 L f 0 [(0, .ref aa_0)] []
  refine v_aload_n hC dX12_readRow_0 rfl ?_
  refine v_ldcS hC sr_X12_173 dX12_readRow_1 ?_
  refine v_vi hC (rest := []) m_aa_0 e_aa_0 rfl mi_X12_is ms_X12_is (a241_X12_is (by decide) m_aa_0 e_aa_0 m_aa_6 e_aa_6) mx_X12_is ml_X12_152 (by decide) rfl (cells1 := 0) (slots1 := 0) (by decide) (by decide) (Nat.le_of_ble_eq_true rfl) (Nat.le_of_ble_eq_true rfl) rfl (Nat.le_of_ble_eq_true rfl) dX12_readRow_3 (fun r_1 L_2 f_3 h_4 => ?_)
  obtain ⟨rfl, rfl, rfl⟩ := h_4
  refine v_if_eq_t hC dX12_readRow_6 (tgt := 25) (by decide) (by decide) ?_
  refine v_aload_n hC dX12_readRow_25 rfl ?_
  refine v_ldcS hC sr_X12_173 dX12_readRow_26 ?_
  refine v_vv hC (rest := []) m_aa_0 e_aa_0 rfl mi_X12_needs ms_X12_needs (a241_X12_needs (by decide) m_aa_0 e_aa_0 m_aa_6 e_aa_6) mx_X12_needs ml_X12_166 (by decide) rfl (cells1 := 0) (slots1 := 0) (by decide) (by decide) (Nat.le_of_ble_eq_true rfl) (Nat.le_of_ble_eq_true rfl) rfl (Nat.le_of_ble_eq_true rfl) dX12_readRow_28 (fun L_6 f_7 h_8 => ?_)
  obtain ⟨rfl, rfl⟩ := h_8
  refine v_aload_n hC dX12_readRow_31 rfl ?_
  refine v_get hC fl_X12_108 m_aa_0 e_aa_0 rfl dX12_readRow_32 ?_
  refine v_aload_n hC dX12_readRow_35 rfl ?_
  refine v_get hC fl_X12_117 m_aa_0 e_aa_0 rfl dX12_readRow_36 ?_
  refine v_isub hC dX12_readRow_39 (v := 0) (by decide) ?_
  refine v_istore_n hC dX12_readRow_40 (by decide) (lv' := [(1, .int 0), (0, .ref aa_0)]) rfl ?_
  refine v_aload_n hC dX12_readRow_41 rfl ?_
  refine v_get hC fl_X12_120 m_aa_0 e_aa_0 rfl dX12_readRow_42 ?_
  refine v_iconst hC dX12_readRow_45 (v := 1) (by decide) ?_
  refine v_icmp_ne_t hC dX12_readRow_46 (tgt := 59) (by decide) (by decide) ?_
  refine v_iconst hC dX12_readRow_59 (v := 0) (by decide) ?_
  refine v_istore_n hC dX12_readRow_60 (by decide) (lv' := [(2, .int 0), (1, .int 0), (0, .ref aa_0)]) rfl ?_
  refine v_bipush hC dX12_readRow_61 (v := 16) (by decide) ?_
  refine v_bipush hC dX12_readRow_63 (v := 13) (by decide) ?_
  refine v_aload_n hC dX12_readRow_65 rfl ?_
  refine v_get hC fl_X12_34 m_aa_0 e_aa_0 rfl dX12_readRow_66 ?_
  refine v_iconst hC dX12_readRow_69 (v := 2) (by decide) ?_
  refine v_iald hC m_aa_6 e_aa_6 (by unfold vp_in; decide) (v := 0) rfl dX12_readRow_70 ?_
  refine v_imul hC dX12_readRow_71 (v := 0) (by decide) ?_
  refine v_iadd hC dX12_readRow_72 (v := 16) (by decide) ?_
  refine v_istore_n hC dX12_readRow_73 (by decide) (lv' := [(3, .int 16), (2, .int 0), (1, .int 0), (0, .ref aa_0)]) rfl ?_
  refine v_iconst hC dX12_readRow_74 (v := 0) (by decide) ?_
  refine v_istore hC dX12_readRow_75 (by decide) (lv' := [(4, .int 0), (3, .int 16), (2, .int 0), (1, .int 0), (0, .ref aa_0)]) rfl ?_
  refine v_iload hC dX12_readRow_77 rfl ?_
  refine v_iload_n hC dX12_readRow_79 rfl ?_
  refine v_icmp_ge_t hC dX12_readRow_80 (tgt := 151) (by decide) (by decide) ?_
  refine v_iload_n hC dX12_readRow_151 rfl ?_
  refine v_if_ne_f hC dX12_readRow_152 (tgt := 160) (by decide) (by decide) ?_
  refine v_aload_n hC dX12_readRow_155 rfl ?_
  refine v_iconst hC dX12_readRow_156 (v := 1) (by decide) ?_
  refine v_vv hC (rest := []) m_aa_0 e_aa_0 rfl mi_X12_errs ms_X12_errs (a245_X12_errs m_aa_0 e_aa_0 m_aa_6 e_aa_6) mx_X12_errs ml_X12_162 (by decide) rfl (cells1 := 0) (slots1 := 0) (by decide) (by decide) (Nat.le_of_ble_eq_true rfl) (Nat.le_of_ble_eq_true rfl) rfl (Nat.le_of_ble_eq_true rfl) dX12_readRow_157 (fun L_10 f_11 h_12 => ?_)
  obtain ⟨rfl, rfl⟩ := h_12
  refine v_aload_n hC dX12_readRow_160 rfl ?_
  refine v_vi hC (rest := []) m_aa_0 e_aa_0 rfl mi_X12_good ms_X12_good (a235_X12_good m_aa_0 e_aa_0) mx_X12_good ml_X12_139 (by decide) rfl (cells1 := 0) (slots1 := 0) (by decide) (by decide) (Nat.le_of_ble_eq_true rfl) (Nat.le_of_ble_eq_true rfl) rfl (Nat.le_of_ble_eq_true rfl) dX12_readRow_161 (fun r_13 L_14 f_15 h_16 => ?_)
  obtain ⟨rfl, rfl, rfl⟩ := h_16
  refine v_if_ne_f hC dX12_readRow_164 (tgt := 168) (by decide) (by decide) ?_
  exact hR _ _ _ _ _ _ dX12_readRow_167 (Nat.le_of_ble_eq_true rfl) (Nat.le_of_ble_eq_true rfl) ⟨rfl, rfl⟩
set_option maxRecDepth 100000 in
set_option maxHeartbeats 4000000 in
theorem y_pattern {l : Launch} {E : Ez} {L : List Nat} {f : Nat → va_E} {m wo img hi tp fv fr cl0 pl wd rd tr0 co bi wl mn wi nu mv : Nat} (m_m : m ∈ L) (e_m : f m = ob 12 [.int 0, .ref wo, .ref img, .ref hi, .ref tp, .int 0, .ref fv, .int 0, .int 0, .int 0, .int 0, .int 0, .int 0, .int (-1), .ref fr, .ref cl0, .ref pl, .int 0, .ref wd, .ref rd, .int (-1), .ref tr0, .ref co, .ref bi, .ref wl, .ref mn, .ref wi, .ref nu, .ref mv]) (m_fr : fr ∈ L) (e_fr : f fr = aI E 2076 (fun _ => 0)) : CI l yX12_pattern cX12_pattern 2 .int 6 0 0 E [.ref m] L f (fun r L1 f1 => (-4 : Int32) = r) := by
  refine ci_of (by decide) (Nat.le_of_ble_eq_true rfl) (fun z hz hnm hC hR => ?_)
  have hC : Cx z E cX12_pattern RX12 2 6 0 0 := hC
  subst hz
  show V z E 2 0 0 L f 0 [(0, .ref m)] []
  refine v_aload_n hC dX12_pattern_0 rfl ?_
  refine v_vv hC (rest := []) m_m e_m rfl mi_X12_begin ms_X12_begin (a219_X12_begin m_m e_m) mx_X12_begin ml_X12_181 (by decide) rfl (cells1 := 0) (slots1 := 0) (by decide) (by decide) (Nat.le_of_ble_eq_true rfl) (Nat.le_of_ble_eq_true rfl) rfl (Nat.le_of_ble_eq_true rfl) dX12_pattern_1 (fun L_2 f_3 h_4 => ?_)
  obtain ⟨rfl, rfl⟩ := h_4
  refine v_aload_n hC dX12_pattern_4 rfl ?_
  refine v_iconst hC dX12_pattern_5 (v := 0) (by decide) ?_
  refine v_bipush hC dX12_pattern_6 (v := 120) (by decide) ?_
  refine v_vv hC (rest := []) m_m e_m rfl mi_X12_clears ms_X12_clears (d_clears 0 120 m_m e_m m_fr e_fr (by decide) (by decide)) mx_X12_clears ml_X12_184 (by decide) rfl (cells1 := 0) (slots1 := 0) (by decide) (by decide) (Nat.le_of_ble_eq_true rfl) (Nat.le_of_ble_eq_true rfl) rfl (Nat.le_of_ble_eq_true rfl) dX12_pattern_8 (fun L_6 f_7 h_8 => ?_)
  obtain ⟨rfl, rfl⟩ := h_8
  refine v_aload_n hC dX12_pattern_11 rfl ?_
  refine v_vv hC (rest := []) m_m e_m rfl mi_X12_advance ms_X12_advance (a221_X12_advance m_m e_m m_fr e_fr) mx_X12_advance ml_X12_156 (by decide) rfl (cells1 := 0) (slots1 := 0) (by decide) (by decide) (Nat.le_of_ble_eq_true rfl) (Nat.le_of_ble_eq_true rfl) rfl (Nat.le_of_ble_eq_true rfl) dX12_pattern_12 (fun L_10 f_11 h_12 => ?_)
  obtain ⟨rfl, rfl⟩ := h_12
  refine v_aload_n hC dX12_pattern_15 rfl ?_
  refine v_get hC fl_X12_34 m_m e_m rfl dX12_pattern_16 ?_
  refine v_iconst hC dX12_pattern_19 (v := 1) (by decide) ?_
  refine v_aload_n hC dX12_pattern_20 rfl ?_
  refine v_ldcS hC sr_X12_188 dX12_pattern_21 ?_
  refine v_iconst hC dX12_pattern_23 (v := 1) (by decide) ?_
  refine v_bipush hC dX12_pattern_24 (v := 16) (by decide) ?_
  refine v_vi hC (rest := [.int 1, .ref fr]) m_m e_m rfl mi_X12_told ms_X12_told (a225_X12_told (by decide) m_m e_m m_fr e_fr) mx_X12_told ml_X12_189 (by decide) rfl (cells1 := 0) (slots1 := 0) (by decide) (by decide) (Nat.le_of_ble_eq_true rfl) (Nat.le_of_ble_eq_true rfl) rfl (Nat.le_of_ble_eq_true rfl) dX12_pattern_26 (fun r_13 L_14 f_15 h_16 => ?_)
  obtain ⟨rfl, rfl, hf_17, hk_18⟩ := h_16
  have hf_19 := (hk_18 fr (ne_kd e_fr e_m rfl)).trans e_fr
  refine v_iast hC m_fr hf_19 (by unfold vp_in; decide) dX12_pattern_29 (fun f_20 hf_21 hk_22 => ?_)
  rw [upd_zero] at hf_21
  obtain rfl : f_15 = f_20 := (funext (noop hf_19 hf_21 hk_22)).symm
  refine v_aload_n hC dX12_pattern_30 rfl ?_
  refine v_get hC fl_X12_34 m_m hf_17 rfl dX12_pattern_31 ?_
  refine v_iconst hC dX12_pattern_34 (v := 0) (by decide) ?_
  refine v_aload_n hC dX12_pattern_35 rfl ?_
  refine v_ldcS hC sr_X12_193 dX12_pattern_36 ?_
  refine v_iconst hC dX12_pattern_38 (v := 1) (by decide) ?_
  refine v_bipush hC dX12_pattern_39 (v := 16) (by decide) ?_
  refine v_vi hC (rest := [.int 0, .ref fr]) m_m hf_17 rfl mi_X12_told ms_X12_told (a241_X12_told (by decide) m_m hf_17 m_fr hf_19) mx_X12_told ml_X12_189 (by decide) rfl (cells1 := 0) (slots1 := 0) (by decide) (by decide) (Nat.le_of_ble_eq_true rfl) (Nat.le_of_ble_eq_true rfl) rfl (Nat.le_of_ble_eq_true rfl) dX12_pattern_41 (fun r_23 L_24 f_25 h_26 => ?_)
  obtain ⟨rfl, rfl, rfl⟩ := h_26
  refine v_iast hC m_fr hf_19 (by unfold vp_in; decide) dX12_pattern_44 (fun f_27 hf_28 hk_29 => ?_)
  rw [upd_zero] at hf_28
  obtain rfl : f_15 = f_27 := (funext (noop hf_19 hf_28 hk_29)).symm
  refine v_aload_n hC dX12_pattern_45 rfl ?_
  refine v_vv hC (rest := []) m_m hf_17 rfl mi_X12_ends ms_X12_ends (a251_X12_ends m_m hf_17 m_fr hf_19) mx_X12_ends ml_X12_178 (by decide) rfl (cells1 := 0) (slots1 := 0) (by decide) (by decide) (Nat.le_of_ble_eq_true rfl) (Nat.le_of_ble_eq_true rfl) rfl (Nat.le_of_ble_eq_true rfl) dX12_pattern_46 (fun L_31 f_32 h_33 => ?_)
  obtain ⟨rfl, rfl⟩ := h_33
  refine v_aload_n hC dX12_pattern_49 rfl ?_
  refine v_vv hC (rest := []) m_m hf_17 rfl mi_X12_readRow ms_X12_readRow (a253_X12_readRow m_m hf_17 m_fr hf_19) mx_X12_readRow ml_X12_194 (by decide) rfl (cells1 := 0) (slots1 := 0) (by decide) (by decide) (Nat.le_of_ble_eq_true rfl) (Nat.le_of_ble_eq_true rfl) rfl (Nat.le_of_ble_eq_true rfl) dX12_pattern_50 (fun L_35 f_36 h_37 => ?_)
  obtain ⟨rfl, rfl⟩ := h_37
  refine v_aload_n hC dX12_pattern_53 rfl ?_
  refine v_vi hC (rest := []) m_m hf_17 rfl mi_X12_good ms_X12_good (a235_X12_good m_m hf_17) mx_X12_good ml_X12_139 (by decide) rfl (cells1 := 0) (slots1 := 0) (by decide) (by decide) (Nat.le_of_ble_eq_true rfl) (Nat.le_of_ble_eq_true rfl) rfl (Nat.le_of_ble_eq_true rfl) dX12_pattern_54 (fun r_38 L_39 f_40 h_41 => ?_)
  obtain ⟨rfl, rfl, rfl⟩ := h_41
  refine v_if_eq_t hC dX12_pattern_57 (tgt := 67) (by decide) (by decide) ?_
  refine v_aload_n hC dX12_pattern_67 rfl ?_
  refine v_vi hC (rest := []) m_m hf_17 rfl mi_X12_good ms_X12_good (a235_X12_good m_m hf_17) mx_X12_good ml_X12_139 (by decide) rfl (cells1 := 0) (slots1 := 0) (by decide) (by decide) (Nat.le_of_ble_eq_true rfl) (Nat.le_of_ble_eq_true rfl) rfl (Nat.le_of_ble_eq_true rfl) dX12_pattern_68 (fun r_42 L_43 f_44 h_45 => ?_)
  obtain ⟨rfl, rfl, rfl⟩ := h_45
  refine v_if_ne_f hC dX12_pattern_71 (tgt := 77) (by decide) (by decide) ?_
  refine v_bipush hC dX12_pattern_74 (v := (-4)) (by decide) ?_
  exact hR _ _ _ _ _ _ _ dX12_pattern_76 rfl (Nat.le_of_ble_eq_true rfl) (Nat.le_of_ble_eq_true rfl) rfl
