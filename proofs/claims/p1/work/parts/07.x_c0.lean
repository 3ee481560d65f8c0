def sp_c (c : Int32) : Int32 := if (0 ≤ c ∧ c < 4) then -6 else -2
def sp_k (k : Int32) : Int32 := if (0 ≤ k ∧ k < 6) then -6 else -2
def sp_ck (c : Int32) (k : Int32) : Int32 := if (0 ≤ c ∧ c < 4) ∧ (0 ≤ k ∧ k < 6) then -6 else -2
def sp_cd (c : Int32) (d : Int32) : Int32 := if (0 ≤ c ∧ c < 4) ∧ (0 ≤ d ∧ d < 4) then -6 else -2
def sp_knit (c : Int32) (seed : Int32) : Int32 := if (0 ≤ c ∧ c < 4) ∧ (0 ≤ seed ∧ seed ≤ 2000000000) then -6 else -2
def sp_counts (c : Int32) (w : Int32) : Int32 := if (0 ≤ c ∧ c < 4) ∧ (0 ≤ w ∧ w < 8) then -6 else -2
def sp_odds (seed : Int32) (n : Int32) : Int32 := if (0 ≤ seed ∧ seed ≤ 2000000000) ∧ (1 ≤ n ∧ n ≤ 50) then -6 else -2
def sp_carries (k : Int32) (seed : Int32) (n : Int32) : Int32 := if (0 ≤ k ∧ k < 6) ∧ (0 ≤ seed ∧ seed ≤ 2000000000) ∧ (1 ≤ n ∧ n ≤ 50) then -6 else -2
def sp_same (c : Int32) (d : Int32) (k : Int32) : Int32 := if (0 ≤ c ∧ c < 4) ∧ (0 ≤ d ∧ d < 4) ∧ (0 ≤ k ∧ k < 6) then -6 else -2
def sp_back (k : Int32) : Int32 := if (0 ≤ k ∧ k < 3) then -6 else -2
def sp_slots (a : Int32) (b : Int32) : Int32 := if (0 ≤ a ∧ a < 4) ∧ (0 ≤ b ∧ b < 4) then -6 else -2
def sp_slot (a : Int32) : Int32 := if (0 ≤ a ∧ a < 4) then -6 else -2
def sp_fault (w : Int32) : Int32 := if w = 0 then 0 else -1
def sp_end (n : Int32) : Int32 := if n = 0 then 0 else -1
def sp_way (k : Int32) : Int32 := if (0 ≤ k ∧ k < 6) then -4 else -2
def sp_count (w : Int32) : Int32 := if 0 ≤ w ∧ w < 10 then 0 else -1
theorem sp_c_ne (c : Int32) : ¬ sp_c c = 0 := by unfold sp_c; split <;> decide
theorem sp_k_ne (k : Int32) : ¬ sp_k k = 0 := by unfold sp_k; split <;> decide
theorem sp_ck_ne (c k : Int32) : ¬ sp_ck c k = 0 := by unfold sp_ck; split <;> decide
theorem sp_cd_ne (c d : Int32) : ¬ sp_cd c d = 0 := by unfold sp_cd; split <;> decide
set_option maxRecDepth 100000 in
set_option maxHeartbeats 4000000 in
theorem c_isCloth {l : Launch} {E : Ez} {L : List Nat} {f : Nat → va_E} {c : Int32}  : CI l yX11_isCloth cX11_isCloth 1 .boolean 0 0 0 E [.int c] L f (fun r L1 f1 => bI (0 ≤ c ∧ c < 4) = r ∧ L = L1 ∧ f = f1) := by
  refine ci_of (by decide) (Nat.le_of_ble_eq_true rfl) (fun z hz hnm hC hR => ?_)
  have hC : Cx z E cX11_isCloth RX11 1 0 0 0 := hC
  subst hz
  show V z E 1 0 0 L f 0 [(0, .int c)] []
  refine v_iload_n hC dX11_isCloth_0 rfl ?_
  refine v_if_lt hC dX11_isCloth_1 (tgt := 13) (by decide) (fun h_1 => ?_) (fun h_1 => ?_)
  · refine v_iconst hC dX11_isCloth_13 (v := 0) (by decide) ?_
    exact hR _ _ _ _ _ _ _ dX11_isCloth_14 rfl (Nat.le_of_ble_eq_true rfl) (Nat.le_of_ble_eq_true rfl) ⟨bI_f (by simp only [Int32.lt_iff_toInt_lt, Int32.le_iff_toInt_le, Int32.reduceToInt, ← Int32.toInt_inj] at h_1 ⊢; first | omega | (split <;> first | rfl | (exfalso; omega))), rfl, rfl⟩
  · refine v_iload_n hC dX11_isCloth_4 rfl ?_
    refine v_iconst hC dX11_isCloth_5 (v := 4) (by decide) ?_
    refine v_icmp_ge hC dX11_isCloth_6 (tgt := 13) (by decide) (fun h_2 => ?_) (fun h_2 => ?_)
    · refine v_iconst hC dX11_isCloth_13 (v := 0) (by decide) ?_
      exact hR _ _ _ _ _ _ _ dX11_isCloth_14 rfl (Nat.le_of_ble_eq_true rfl) (Nat.le_of_ble_eq_true rfl) ⟨bI_f (by simp only [Int32.lt_iff_toInt_lt, Int32.le_iff_toInt_le, Int32.reduceToInt, ← Int32.toInt_inj] at h_1 h_2 ⊢; first | omega | (split <;> first | rfl | (exfalso; omega))), rfl, rfl⟩
    · refine v_iconst hC dX11_isCloth_9 (v := 1) (by decide) ?_
      refine v_goto hC dX11_isCloth_10 (tgt := 14) (by decide) ?_
      exact hR _ _ _ _ _ _ _ dX11_isCloth_14 rfl (Nat.le_of_ble_eq_true rfl) (Nat.le_of_ble_eq_true rfl) ⟨bI_t (by simp only [Int32.lt_iff_toInt_lt, Int32.le_iff_toInt_le, Int32.reduceToInt, ← Int32.toInt_inj] at h_1 h_2 ⊢; first | omega | (split <;> first | rfl | (exfalso; omega))), rfl, rfl⟩
set_option maxRecDepth 100000 in
set_option maxHeartbeats 4000000 in
theorem c_isWay {l : Launch} {E : Ez} {L : List Nat} {f : Nat → va_E} {c : Int32}  : CI l yX11_isWay cX11_isWay 1 .boolean 0 0 0 E [.int c] L f (fun r L1 f1 => bI (0 ≤ c ∧ c < 6) = r ∧ L = L1 ∧ f = f1) := by
  refine ci_of (by decide) (Nat.le_of_ble_eq_true rfl) (fun z hz hnm hC hR => ?_)
  have hC : Cx z E cX11_isWay RX11 1 0 0 0 := hC
  subst hz
  show V z E 1 0 0 L f 0 [(0, .int c)] []
  refine v_iload_n hC dX11_isWay_0 rfl ?_
  refine v_if_lt hC dX11_isWay_1 (tgt := 14) (by decide) (fun h_1 => ?_) (fun h_1 => ?_)
  · refine v_iconst hC dX11_isWay_14 (v := 0) (by decide) ?_
    exact hR _ _ _ _ _ _ _ dX11_isWay_15 rfl (Nat.le_of_ble_eq_true rfl) (Nat.le_of_ble_eq_true rfl) ⟨bI_f (by simp only [Int32.lt_iff_toInt_lt, Int32.le_iff_toInt_le, Int32.reduceToInt, ← Int32.toInt_inj] at h_1 ⊢; first | omega | (split <;> first | rfl | (exfalso; omega))), rfl, rfl⟩
  · refine v_iload_n hC dX11_isWay_4 rfl ?_
    refine v_bipush hC dX11_isWay_5 (v := 6) (by decide) ?_
    refine v_icmp_ge hC dX11_isWay_7 (tgt := 14) (by decide) (fun h_2 => ?_) (fun h_2 => ?_)
    · refine v_iconst hC dX11_isWay_14 (v := 0) (by decide) ?_
      exact hR _ _ _ _ _ _ _ dX11_isWay_15 rfl (Nat.le_of_ble_eq_true rfl) (Nat.le_of_ble_eq_true rfl) ⟨bI_f (by simp only [Int32.lt_iff_toInt_lt, Int32.le_iff_toInt_le, Int32.reduceToInt, ← Int32.toInt_inj] at h_1 h_2 ⊢; first | omega | (split <;> first | rfl | (exfalso; omega))), rfl, rfl⟩
    · refine v_iconst hC dX11_isWay_10 (v := 1) (by decide) ?_
      refine v_goto hC dX11_isWay_11 (tgt := 15) (by decide) ?_
      exact hR _ _ _ _ _ _ _ dX11_isWay_15 rfl (Nat.le_of_ble_eq_true rfl) (Nat.le_of_ble_eq_true rfl) ⟨bI_t (by simp only [Int32.lt_iff_toInt_lt, Int32.le_iff_toInt_le, Int32.reduceToInt, ← Int32.toInt_inj] at h_1 h_2 ⊢; first | omega | (split <;> first | rfl | (exfalso; omega))), rfl, rfl⟩
set_option maxRecDepth 100000 in
set_option maxHeartbeats 4000000 in
theorem c_isSlot {l : Launch} {E : Ez} {L : List Nat} {f : Nat → va_E} {c : Int32}  : CI l yX11_isSlot cX11_isSlot 1 .boolean 0 0 0 E [.int c] L f (fun r L1 f1 => bI (0 ≤ c ∧ c < 4) = r ∧ L = L1 ∧ f = f1) := by
  refine ci_of (by decide) (Nat.le_of_ble_eq_true rfl) (fun z hz hnm hC hR => ?_)
  have hC : Cx z E cX11_isSlot RX11 1 0 0 0 := hC
  subst hz
  show V z E 1 0 0 L f 0 [(0, .int c)] []
  refine v_iload_n hC dX11_isSlot_0 rfl ?_
  refine v_if_lt hC dX11_isSlot_1 (tgt := 13) (by decide) (fun h_1 => ?_) (fun h_1 => ?_)
  · refine v_iconst hC dX11_isSlot_13 (v := 0) (by decide) ?_
    exact hR _ _ _ _ _ _ _ dX11_isSlot_14 rfl (Nat.le_of_ble_eq_true rfl) (Nat.le_of_ble_eq_true rfl) ⟨bI_f (by simp only [Int32.lt_iff_toInt_lt, Int32.le_iff_toInt_le, Int32.reduceToInt, ← Int32.toInt_inj] at h_1 ⊢; first | omega | (split <;> first | rfl | (exfalso; omega))), rfl, rfl⟩
  · refine v_iload_n hC dX11_isSlot_4 rfl ?_
    refine v_iconst hC dX11_isSlot_5 (v := 4) (by decide) ?_
    refine v_icmp_ge hC dX11_isSlot_6 (tgt := 13) (by decide) (fun h_2 => ?_) (fun h_2 => ?_)
    · refine v_iconst hC dX11_isSlot_13 (v := 0) (by decide) ?_
      exact hR _ _ _ _ _ _ _ dX11_isSlot_14 rfl (Nat.le_of_ble_eq_true rfl) (Nat.le_of_ble_eq_true rfl) ⟨bI_f (by simp only [Int32.lt_iff_toInt_lt, Int32.le_iff_toInt_le, Int32.reduceToInt, ← Int32.toInt_inj] at h_1 h_2 ⊢; first | omega | (split <;> first | rfl | (exfalso; omega))), rfl, rfl⟩
    · refine v_iconst hC dX11_isSlot_9 (v := 1) (by decide) ?_
      refine v_goto hC dX11_isSlot_10 (tgt := 14) (by decide) ?_
      exact hR _ _ _ _ _ _ _ dX11_isSlot_14 rfl (Nat.le_of_ble_eq_true rfl) (Nat.le_of_ble_eq_true rfl) ⟨bI_t (by simp only [Int32.lt_iff_toInt_lt, Int32.le_iff_toInt_le, Int32.reduceToInt, ← Int32.toInt_inj] at h_1 h_2 ⊢; first | omega | (split <;> first | rfl | (exfalso; omega))), rfl, rfl⟩
set_option maxRecDepth 100000 in
set_option maxHeartbeats 4000000 in
theorem c_isSeed {l : Launch} {E : Ez} {L : List Nat} {f : Nat → va_E} {c : Int32}  : CI l yX11_isSeed cX11_isSeed 1 .boolean 0 0 0 E [.int c] L f (fun r L1 f1 => bI (0 ≤ c ∧ c ≤ 2000000000) = r ∧ L = L1 ∧ f = f1) := by
  refine ci_of (by decide) (Nat.le_of_ble_eq_true rfl) (fun z hz hnm hC hR => ?_)
  have hC : Cx z E cX11_isSeed RX11 1 0 0 0 := hC
  subst hz
  show V z E 1 0 0 L f 0 [(0, .int c)] []
  refine v_iload_n hC dX11_isSeed_0 rfl ?_
  refine v_if_lt hC dX11_isSeed_1 (tgt := 15) (by decide) (fun h_1 => ?_) (fun h_1 => ?_)
  · refine v_iconst hC dX11_isSeed_15 (v := 0) (by decide) ?_
    exact hR _ _ _ _ _ _ _ dX11_isSeed_16 rfl (Nat.le_of_ble_eq_true rfl) (Nat.le_of_ble_eq_true rfl) ⟨bI_f (by simp only [Int32.lt_iff_toInt_lt, Int32.le_iff_toInt_le, Int32.reduceToInt, ← Int32.toInt_inj] at h_1 ⊢; first | omega | (split <;> first | rfl | (exfalso; omega))), rfl, rfl⟩
  · refine v_iload_n hC dX11_isSeed_4 rfl ?_
    refine v_ldcw hC kc_X11_385 dX11_isSeed_5 ?_
    refine v_icmp_gt hC dX11_isSeed_8 (tgt := 15) (by decide) (fun h_2 => ?_) (fun h_2 => ?_)
    · refine v_iconst hC dX11_isSeed_15 (v := 0) (by decide) ?_
      exact hR _ _ _ _ _ _ _ dX11_isSeed_16 rfl (Nat.le_of_ble_eq_true rfl) (Nat.le_of_ble_eq_true rfl) ⟨bI_f (by simp only [Int32.lt_iff_toInt_lt, Int32.le_iff_toInt_le, Int32.reduceToInt, ← Int32.toInt_inj] at h_1 h_2 ⊢; first | omega | (split <;> first | rfl | (exfalso; omega))), rfl, rfl⟩
    · refine v_iconst hC dX11_isSeed_11 (v := 1) (by decide) ?_
      refine v_goto hC dX11_isSeed_12 (tgt := 16) (by decide) ?_
      exact hR _ _ _ _ _ _ _ dX11_isSeed_16 rfl (Nat.le_of_ble_eq_true rfl) (Nat.le_of_ble_eq_true rfl) ⟨bI_t (by simp only [Int32.lt_iff_toInt_lt, Int32.le_iff_toInt_le, Int32.reduceToInt, ← Int32.toInt_inj] at h_1 h_2 ⊢; first | omega | (split <;> first | rfl | (exfalso; omega))), rfl, rfl⟩
set_option maxRecDepth 100000 in
set_option maxHeartbeats 4000000 in
theorem c_isMany {l : Launch} {E : Ez} {L : List Nat} {f : Nat → va_E} {c : Int32}  : CI l yX11_isManyKnitted cX11_isManyKnitted 1 .boolean 0 0 0 E [.int c] L f (fun r L1 f1 => bI (1 ≤ c ∧ c ≤ 50) = r ∧ L = L1 ∧ f = f1) := by
  refine ci_of (by decide) (Nat.le_of_ble_eq_true rfl) (fun z hz hnm hC hR => ?_)
  have hC : Cx z E cX11_isManyKnitted RX11 1 0 0 0 := hC
  subst hz
  show V z E 1 0 0 L f 0 [(0, .int c)] []
  refine v_iload_n hC dX11_isManyKnitted_0 rfl ?_
  refine v_iconst hC dX11_isManyKnitted_1 (v := 1) (by decide) ?_
  refine v_icmp_lt hC dX11_isManyKnitted_2 (tgt := 15) (by decide) (fun h_1 => ?_) (fun h_1 => ?_)
  · refine v_iconst hC dX11_isManyKnitted_15 (v := 0) (by decide) ?_
    exact hR _ _ _ _ _ _ _ dX11_isManyKnitted_16 rfl (Nat.le_of_ble_eq_true rfl) (Nat.le_of_ble_eq_true rfl) ⟨bI_f (by simp only [Int32.lt_iff_toInt_lt, Int32.le_iff_toInt_le, Int32.reduceToInt, ← Int32.toInt_inj] at h_1 ⊢; first | omega | (split <;> first | rfl | (exfalso; omega))), rfl, rfl⟩
  · refine v_iload_n hC dX11_isManyKnitted_5 rfl ?_
    refine v_bipush hC dX11_isManyKnitted_6 (v := 50) (by decide) ?_
    refine v_icmp_gt hC dX11_isManyKnitted_8 (tgt := 15) (by decide) (fun h_2 => ?_) (fun h_2 => ?_)
    · refine v_iconst hC dX11_isManyKnitted_15 (v := 0) (by decide) ?_
      exact hR _ _ _ _ _ _ _ dX11_isManyKnitted_16 rfl (Nat.le_of_ble_eq_true rfl) (Nat.le_of_ble_eq_true rfl) ⟨bI_f (by simp only [Int32.lt_iff_toInt_lt, Int32.le_iff_toInt_le, Int32.reduceToInt, ← Int32.toInt_inj] at h_1 h_2 ⊢; first | omega | (split <;> first | rfl | (exfalso; omega))), rfl, rfl⟩
    · refine v_iconst hC dX11_isManyKnitted_11 (v := 1) (by decide) ?_
      refine v_goto hC dX11_isManyKnitted_12 (tgt := 16) (by decide) ?_
      exact hR _ _ _ _ _ _ _ dX11_isManyKnitted_16 rfl (Nat.le_of_ble_eq_true rfl) (Nat.le_of_ble_eq_true rfl) ⟨bI_t (by simp only [Int32.lt_iff_toInt_lt, Int32.le_iff_toInt_le, Int32.reduceToInt, ← Int32.toInt_inj] at h_1 h_2 ⊢; first | omega | (split <;> first | rfl | (exfalso; omega))), rfl, rfl⟩
set_option maxRecDepth 100000 in
set_option maxHeartbeats 4000000 in
theorem c_hasCloth {l : Launch} {E : Ez} {L : List Nat} {f : Nat → va_E} {cl he im la lo nl now np ns nw nwa pa sh sl t ta tr wa wt wy x : Nat} {gcl : Nat → Option Nat} {c : Int32} (m_x : x ∈ L) (e_x : f x = ob 11 [.ref t, .ref now, .ref im, .ref la, .ref sl, .ref np, .ref ns, .ref nw, .ref nwa, .ref nl, .ref he, .ref wa, .ref tr, .ref ta]) (m_now : now ∈ L) (e_now : f now = ob 0 [.ref pa, .ref sh, .ref wy, .ref wt, .ref lo, .ref cl]) (m_cl : cl ∈ L) (e_cl : f cl = aR E 5 4 gcl) (pcl : ∀ i : Nat, i < 4 → ∃ q s : Nat, gcl i = some q ∧ q ∈ L ∧ f q = ob 1 [.ref s, .int 0]) : CI l yX11_hasCloth cX11_hasCloth 2 .boolean 1 0 0 E [.ref x, .int c] L f (fun r L1 f1 => (0 : Int32) = r ∧ L = L1 ∧ f = f1) := by
  refine ci_of (by decide) (Nat.le_of_ble_eq_true rfl) (fun z hz hnm hC hR => ?_)
  have hC : Cx z E cX11_hasCloth RX11 2 1 0 0 := hC
  subst hz
  show V z E 2 0 0 L f 0 [(0, .ref x), (1, .int c)] []
  refine v_iload_n hC dX11_hasCloth_0 rfl ?_
  refine v_si hC (rest := []) mt_X11_isCloth (c_isCloth) mx_X11_isCloth ml_X11_181 (by decide) rfl (cells1 := 0) (slots1 := 0) (by decide) (by decide) (Nat.le_of_ble_eq_true rfl) (Nat.le_of_ble_eq_true rfl) rfl (Nat.le_of_ble_eq_true rfl) dX11_hasCloth_1 (fun r_1 L_2 f_3 h_4 => ?_)
  obtain ⟨rfl, rfl, rfl⟩ := h_4
  refine v_if_eq hC dX11_hasCloth_4 (tgt := 26) (by decide) (fun h_5 => ?_) (fun h_5 => ?_)
  · have h_6 := bI_0 h_5
    refine v_iconst hC dX11_hasCloth_26 (v := 0) (by decide) ?_
    exact hR _ _ _ _ _ _ _ dX11_hasCloth_27 rfl (Nat.le_of_ble_eq_true rfl) (Nat.le_of_ble_eq_true rfl) ⟨rfl, rfl, rfl⟩
  · have h_7 := bI_1 h_5
    refine v_aload_n hC dX11_hasCloth_7 rfl ?_
    refine v_get hC fl_X11_19 m_x e_x rfl dX11_hasCloth_8 ?_
    refine v_getN hC fn_X11_190 m_now e_now rfl dX11_hasCloth_11 ?_
    refine v_iload_n hC dX11_hasCloth_14 rfl ?_
    have hin_12 : vp_in c 4 := vp_in_iff.mpr (by simp only [Int32.lt_iff_toInt_lt, Int32.le_iff_toInt_le, Int32.reduceToInt, ← Int32.toInt_inj] at h_7 ⊢; first | omega | (split <;> first | rfl | (exfalso; omega)))
    obtain ⟨j_8, hj_9, ej_10⟩ := vp_in_of hin_12 (by decide)
    obtain ⟨q_11, s_16, eg_13, m_14, e_15⟩ := pcl j_8 hj_9
    refine v_aald hC m_cl e_cl (t := 5) (Cn := "StitchSays$Cloth") rfl hin_12 (v := .ref q_11) (by rw [ej_10, nI_clamp (by omega), eg_13]; rfl) dX11_hasCloth_15 ?_
    refine v_getN hC fn_X11_386 m_14 e_15 rfl dX11_hasCloth_16 ?_
    refine v_if_eq_t hC dX11_hasCloth_19 (tgt := 26) (by decide) (by decide) ?_
    refine v_iconst hC dX11_hasCloth_26 (v := 0) (by decide) ?_
    exact hR _ _ _ _ _ _ _ dX11_hasCloth_27 rfl (Nat.le_of_ble_eq_true rfl) (Nat.le_of_ble_eq_true rfl) ⟨rfl, rfl, rfl⟩
set_option maxRecDepth 100000 in
set_option maxHeartbeats 4000000 in
theorem c_refC {l : Launch} {E : Ez} {L : List Nat} {f : Nat → va_E} {cl he im la lo nl now np ns nw nwa pa sh sl t ta tr wa wt wy x : Nat} {gcl : Nat → Option Nat} {c : Int32} (m_x : x ∈ L) (e_x : f x = ob 11 [.ref t, .ref now, .ref im, .ref la, .ref sl, .ref np, .ref ns, .ref nw, .ref nwa, .ref nl, .ref he, .ref wa, .ref tr, .ref ta]) (m_now : now ∈ L) (e_now : f now = ob 0 [.ref pa, .ref sh, .ref wy, .ref wt, .ref lo, .ref cl]) (m_cl : cl ∈ L) (e_cl : f cl = aR E 5 4 gcl) (pcl : ∀ i : Nat, i < 4 → ∃ q s : Nat, gcl i = some q ∧ q ∈ L ∧ f q = ob 1 [.ref s, .int 0]) : CI l yX11_refusalOfCloth cX11_refusalOfCloth 2 .int 2 0 0 E [.ref x, .int c] L f (fun r L1 f1 => sp_c c = r ∧ L = L1 ∧ f = f1) := by
  refine ci_of (by decide) (Nat.le_of_ble_eq_true rfl) (fun z hz hnm hC hR => ?_)
  have hC : Cx z E cX11_refusalOfCloth RX11 2 2 0 0 := hC
  subst hz
  show V z E 2 0 0 L f 0 [(0, .ref x), (1, .int c)] []
  refine v_iload_n hC dX11_refusalOfCloth_0 rfl ?_
  refine v_si hC (rest := []) mt_X11_isCloth (c_isCloth) mx_X11_isCloth ml_X11_181 (by decide) rfl (cells1 := 0) (slots1 := 0) (by decide) (by decide) (Nat.le_of_ble_eq_true rfl) (Nat.le_of_ble_eq_true rfl) rfl (Nat.le_of_ble_eq_true rfl) dX11_refusalOfCloth_1 (fun r_1 L_2 f_3 h_4 => ?_)
  obtain ⟨rfl, rfl, rfl⟩ := h_4
  refine v_if_ne hC dX11_refusalOfCloth_4 (tgt := 10) (by decide) (fun h_5 => ?_) (fun h_5 => ?_)
  · have h_6 := bI_1 h_5
    refine v_aload_n hC dX11_refusalOfCloth_10 rfl ?_
    refine v_iload_n hC dX11_refusalOfCloth_11 rfl ?_
    refine v_vi hC (rest := []) m_x e_x rfl mi_X11_hasCloth ms_X11_hasCloth (c_hasCloth m_x e_x m_now e_now m_cl e_cl pcl) mx_X11_hasCloth ml_X11_239 (by decide) rfl (cells1 := 0) (slots1 := 0) (by decide) (by decide) (Nat.le_of_ble_eq_true rfl) (Nat.le_of_ble_eq_true rfl) rfl (Nat.le_of_ble_eq_true rfl) dX11_refusalOfCloth_12 (fun r_7 L_8 f_9 h_10 => ?_)
    obtain ⟨rfl, rfl, rfl⟩ := h_10
    refine v_if_eq_t hC dX11_refusalOfCloth_15 (tgt := 22) (by decide) (by decide) ?_
    refine v_bipush hC dX11_refusalOfCloth_22 (v := (-6)) (by decide) ?_
    exact hR _ _ _ _ _ _ _ dX11_refusalOfCloth_24 rfl (Nat.le_of_ble_eq_true rfl) (Nat.le_of_ble_eq_true rfl) ⟨(by unfold sp_c; simp only [Int32.lt_iff_toInt_lt, Int32.le_iff_toInt_le, Int32.reduceToInt, ← Int32.toInt_inj] at h_6 ⊢; first | omega | (split <;> first | rfl | (exfalso; omega))), rfl, rfl⟩
  · have h_11 := bI_0 h_5
    refine v_bipush hC dX11_refusalOfCloth_7 (v := (-2)) (by decide) ?_
    exact hR _ _ _ _ _ _ _ dX11_refusalOfCloth_9 rfl (Nat.le_of_ble_eq_true rfl) (Nat.le_of_ble_eq_true rfl) ⟨(by unfold sp_c; simp only [Int32.lt_iff_toInt_lt, Int32.le_iff_toInt_le, Int32.reduceToInt, ← Int32.toInt_inj] at h_11 ⊢; first | omega | (split <;> first | rfl | (exfalso; omega))), rfl, rfl⟩
set_option maxRecDepth 100000 in
set_option maxHeartbeats 4000000 in
theorem c_refCs {l : Launch} {E : Ez} {L : List Nat} {f : Nat → va_E} {cl he im la lo nl now np ns nw nwa pa sh sl t ta tr wa wt wy x : Nat} {gcl : Nat → Option Nat} {c d : Int32} (m_x : x ∈ L) (e_x : f x = ob 11 [.ref t, .ref now, .ref im, .ref la, .ref sl, .ref np, .ref ns, .ref nw, .ref nwa, .ref nl, .ref he, .ref wa, .ref tr, .ref ta]) (m_now : now ∈ L) (e_now : f now = ob 0 [.ref pa, .ref sh, .ref wy, .ref wt, .ref lo, .ref cl]) (m_cl : cl ∈ L) (e_cl : f cl = aR E 5 4 gcl) (pcl : ∀ i : Nat, i < 4 → ∃ q s : Nat, gcl i = some q ∧ q ∈ L ∧ f q = ob 1 [.ref s, .int 0]) : CI l yX11_refusalOfCloths cX11_refusalOfCloths 3 .int 2 0 0 E [.ref x, .int c, .int d] L f (fun r L1 f1 => sp_cd c d = r ∧ L = L1 ∧ f = f1) := by
  refine ci_of (by decide) (Nat.le_of_ble_eq_true rfl) (fun z hz hnm hC hR => ?_)
  have hC : Cx z E cX11_refusalOfCloths RX11 3 2 0 0 := hC
  subst hz
  show V z E 3 0 0 L f 0 [(0, .ref x), (1, .int c), (2, .int d)] []
  refine v_iload_n hC dX11_refusalOfCloths_0 rfl ?_
  refine v_si hC (rest := []) mt_X11_isCloth (c_isCloth) mx_X11_isCloth ml_X11_181 (by decide) rfl (cells1 := 0) (slots1 := 0) (by decide) (by decide) (Nat.le_of_ble_eq_true rfl) (Nat.le_of_ble_eq_true rfl) rfl (Nat.le_of_ble_eq_true rfl) dX11_refusalOfCloths_1 (fun r_1 L_2 f_3 h_4 => ?_)
  obtain ⟨rfl, rfl, rfl⟩ := h_4
  refine v_if_eq hC dX11_refusalOfCloths_4 (tgt := 14) (by decide) (fun h_5 => ?_) (fun h_5 => ?_)
  · have h_6 := bI_0 h_5
    refine v_bipush hC dX11_refusalOfCloths_14 (v := (-2)) (by decide) ?_
    exact hR _ _ _ _ _ _ _ dX11_refusalOfCloths_16 rfl (Nat.le_of_ble_eq_true rfl) (Nat.le_of_ble_eq_true rfl) ⟨(by unfold sp_cd; simp only [Int32.lt_iff_toInt_lt, Int32.le_iff_toInt_le, Int32.reduceToInt, ← Int32.toInt_inj] at h_6 ⊢; first | omega | (split <;> first | rfl | (exfalso; omega))), rfl, rfl⟩
  · have h_7 := bI_1 h_5
    refine v_iload_n hC dX11_refusalOfCloths_7 rfl ?_
    refine v_si hC (rest := []) mt_X11_isCloth (c_isCloth) mx_X11_isCloth ml_X11_181 (by decide) rfl (cells1 := 0) (slots1 := 0) (by decide) (by decide) (Nat.le_of_ble_eq_true rfl) (Nat.le_of_ble_eq_true rfl) rfl (Nat.le_of_ble_eq_true rfl) dX11_refusalOfCloths_8 (fun r_8 L_9 f_10 h_11 => ?_)
    obtain ⟨rfl, rfl, rfl⟩ := h_11
    refine v_if_ne hC dX11_refusalOfCloths_11 (tgt := 17) (by decide) (fun h_12 => ?_) (fun h_12 => ?_)
    · have h_13 := bI_1 h_12
      refine v_aload_n hC dX11_refusalOfCloths_17 rfl ?_
      refine v_iload_n hC dX11_refusalOfCloths_18 rfl ?_
      refine v_vi hC (rest := []) m_x e_x rfl mi_X11_hasCloth ms_X11_hasCloth (c_hasCloth m_x e_x m_now e_now m_cl e_cl pcl) mx_X11_hasCloth ml_X11_239 (by decide) rfl (cells1 := 0) (slots1 := 0) (by decide) (by decide) (Nat.le_of_ble_eq_true rfl) (Nat.le_of_ble_eq_true rfl) rfl (Nat.le_of_ble_eq_true rfl) dX11_refusalOfCloths_19 (fun r_14 L_15 f_16 h_17 => ?_)
      obtain ⟨rfl, rfl, rfl⟩ := h_17
      refine v_if_eq_t hC dX11_refusalOfCloths_22 (tgt := 37) (by decide) (by decide) ?_
      refine v_bipush hC dX11_refusalOfCloths_37 (v := (-6)) (by decide) ?_
      exact hR _ _ _ _ _ _ _ dX11_refusalOfCloths_39 rfl (Nat.le_of_ble_eq_true rfl) (Nat.le_of_ble_eq_true rfl) ⟨(by unfold sp_cd; simp only [Int32.lt_iff_toInt_lt, Int32.le_iff_toInt_le, Int32.reduceToInt, ← Int32.toInt_inj] at h_7 h_13 ⊢; first | omega | (split <;> first | rfl | (exfalso; omega))), rfl, rfl⟩
    · have h_18 := bI_0 h_12
      refine v_bipush hC dX11_refusalOfCloths_14 (v := (-2)) (by decide) ?_
      exact hR _ _ _ _ _ _ _ dX11_refusalOfCloths_16 rfl (Nat.le_of_ble_eq_true rfl) (Nat.le_of_ble_eq_true rfl) ⟨(by unfold sp_cd; simp only [Int32.lt_iff_toInt_lt, Int32.le_iff_toInt_le, Int32.reduceToInt, ← Int32.toInt_inj] at h_7 h_18 ⊢; first | omega | (split <;> first | rfl | (exfalso; omega))), rfl, rfl⟩
set_option maxRecDepth 100000 in
set_option maxHeartbeats 4000000 in
theorem c_refW {l : Launch} {E : Ez} {L : List Nat} {f : Nat → va_E} {cl he im la lo nl now np ns nw nwa pa sh sl t ta tr wa wt wy x : Nat} {gwy : Nat → Option Nat} {k : Int32} (m_x : x ∈ L) (e_x : f x = ob 11 [.ref t, .ref now, .ref im, .ref la, .ref sl, .ref np, .ref ns, .ref nw, .ref nwa, .ref nl, .ref he, .ref wa, .ref tr, .ref ta]) (m_now : now ∈ L) (e_now : f now = ob 0 [.ref pa, .ref sh, .ref wy, .ref wt, .ref lo, .ref cl]) (m_wy : wy ∈ L) (e_wy : f wy = aR E 7 6 gwy) (pwy : ∀ i : Nat, i < 6 → ∃ q : Nat, gwy i = some q ∧ q ∈ L ∧ f q = ob 10 [.int 0, .int 0, .int 1, .int 1, .int 1, .int 0, .int 0]) : CI l yX11_refusalOfWay cX11_refusalOfWay 2 .int 1 0 0 E [.ref x, .int k] L f (fun r L1 f1 => sp_k k = r ∧ L = L1 ∧ f = f1) := by
  refine ci_of (by decide) (Nat.le_of_ble_eq_true rfl) (fun z hz hnm hC hR => ?_)
  have hC : Cx z E cX11_refusalOfWay RX11 2 1 0 0 := hC
  subst hz
  show V z E 2 0 0 L f 0 [(0, .ref x), (1, .int k)] []
  refine v_iload_n hC dX11_refusalOfWay_0 rfl ?_
  refine v_si hC (rest := []) mt_X11_isWay (c_isWay) mx_X11_isWay ml_X11_142 (by decide) rfl (cells1 := 0) (slots1 := 0) (by decide) (by decide) (Nat.le_of_ble_eq_true rfl) (Nat.le_of_ble_eq_true rfl) rfl (Nat.le_of_ble_eq_true rfl) dX11_refusalOfWay_1 (fun r_1 L_2 f_3 h_4 => ?_)
  obtain ⟨rfl, rfl, rfl⟩ := h_4
  refine v_if_ne hC dX11_refusalOfWay_4 (tgt := 10) (by decide) (fun h_5 => ?_) (fun h_5 => ?_)
  · have h_6 := bI_1 h_5
    refine v_aload_n hC dX11_refusalOfWay_10 rfl ?_
    refine v_get hC fl_X11_19 m_x e_x rfl dX11_refusalOfWay_11 ?_
    refine v_getN hC fn_X11_146 m_now e_now rfl dX11_refusalOfWay_14 ?_
    refine v_iload_n hC dX11_refusalOfWay_17 rfl ?_
    have hin_11 : vp_in k 6 := vp_in_iff.mpr (by simp only [Int32.lt_iff_toInt_lt, Int32.le_iff_toInt_le, Int32.reduceToInt, ← Int32.toInt_inj] at h_6 ⊢; first | omega | (split <;> first | rfl | (exfalso; omega)))
    obtain ⟨j_7, hj_8, ej_9⟩ := vp_in_of hin_11 (by decide)
    obtain ⟨q_10, eg_12, m_13, e_14⟩ := pwy j_7 hj_8
    refine v_aald hC m_wy e_wy (t := 7) (Cn := "StitchSays$Way") rfl hin_11 (v := .ref q_10) (by rw [ej_9, nI_clamp (by omega), eg_12]; rfl) dX11_refusalOfWay_18 ?_
    refine v_getN hC fn_X11_232 m_13 e_14 rfl dX11_refusalOfWay_19 ?_
    refine v_if_eq_t hC dX11_refusalOfWay_22 (tgt := 29) (by decide) (by decide) ?_
    refine v_bipush hC dX11_refusalOfWay_29 (v := (-6)) (by decide) ?_
    exact hR _ _ _ _ _ _ _ dX11_refusalOfWay_31 rfl (Nat.le_of_ble_eq_true rfl) (Nat.le_of_ble_eq_true rfl) ⟨(by unfold sp_k; simp only [Int32.lt_iff_toInt_lt, Int32.le_iff_toInt_le, Int32.reduceToInt, ← Int32.toInt_inj] at h_6 ⊢; first | omega | (split <;> first | rfl | (exfalso; omega))), rfl, rfl⟩
  · have h_16 := bI_0 h_5
    refine v_bipush hC dX11_refusalOfWay_7 (v := (-2)) (by decide) ?_
    exact hR _ _ _ _ _ _ _ dX11_refusalOfWay_9 rfl (Nat.le_of_ble_eq_true rfl) (Nat.le_of_ble_eq_true rfl) ⟨(by unfold sp_k; simp only [Int32.lt_iff_toInt_lt, Int32.le_iff_toInt_le, Int32.reduceToInt, ← Int32.toInt_inj] at h_16 ⊢; first | omega | (split <;> first | rfl | (exfalso; omega))), rfl, rfl⟩
set_option maxRecDepth 100000 in
set_option maxHeartbeats 4000000 in
theorem c_refR {l : Launch} {E : Ez} {L : List Nat} {f : Nat → va_E} {cl he im la lo nl now np ns nw nwa pa sh sl t ta tr wa wt wy x : Nat} {gcl : Nat → Option Nat} {gwy : Nat → Option Nat} {c k : Int32} (m_x : x ∈ L) (e_x : f x = ob 11 [.ref t, .ref now, .ref im, .ref la, .ref sl, .ref np, .ref ns, .ref nw, .ref nwa, .ref nl, .ref he, .ref wa, .ref tr, .ref ta]) (m_now : now ∈ L) (e_now : f now = ob 0 [.ref pa, .ref sh, .ref wy, .ref wt, .ref lo, .ref cl]) (m_cl : cl ∈ L) (e_cl : f cl = aR E 5 4 gcl) (pcl : ∀ i : Nat, i < 4 → ∃ q s : Nat, gcl i = some q ∧ q ∈ L ∧ f q = ob 1 [.ref s, .int 0]) (m_wy : wy ∈ L) (e_wy : f wy = aR E 7 6 gwy) (pwy : ∀ i : Nat, i < 6 → ∃ q : Nat, gwy i = some q ∧ q ∈ L ∧ f q = ob 10 [.int 0, .int 0, .int 1, .int 1, .int 1, .int 0, .int 0]) : CI l yX11_refusalOfReading cX11_refusalOfReading 3 .int 2 0 0 E [.ref x, .int c, .int k] L f (fun r L1 f1 => sp_ck c k = r ∧ L = L1 ∧ f = f1) := by
  refine ci_of (by decide) (Nat.le_of_ble_eq_true rfl) (fun z hz hnm hC hR => ?_)
  have hC : Cx z E cX11_refusalOfReading RX11 3 2 0 0 := hC
  subst hz
  show V z E 3 0 0 L f 0 [(0, .ref x), (1, .int c), (2, .int k)] []
  refine v_iload_n hC dX11_refusalOfReading_0 rfl ?_
  refine v_si hC (rest := []) mt_X11_isCloth (c_isCloth) mx_X11_isCloth ml_X11_181 (by decide) rfl (cells1 := 0) (slots1 := 0) (by decide) (by decide) (Nat.le_of_ble_eq_true rfl) (Nat.le_of_ble_eq_true rfl) rfl (Nat.le_of_ble_eq_true rfl) dX11_refusalOfReading_1 (fun r_1 L_2 f_3 h_4 => ?_)
  obtain ⟨rfl, rfl, rfl⟩ := h_4
  refine v_if_eq hC dX11_refusalOfReading_4 (tgt := 14) (by decide) (fun h_5 => ?_) (fun h_5 => ?_)
  · have h_6 := bI_0 h_5
    refine v_bipush hC dX11_refusalOfReading_14 (v := (-2)) (by decide) ?_
    exact hR _ _ _ _ _ _ _ dX11_refusalOfReading_16 rfl (Nat.le_of_ble_eq_true rfl) (Nat.le_of_ble_eq_true rfl) ⟨(by unfold sp_ck; simp only [Int32.lt_iff_toInt_lt, Int32.le_iff_toInt_le, Int32.reduceToInt, ← Int32.toInt_inj] at h_6 ⊢; first | omega | (split <;> first | rfl | (exfalso; omega))), rfl, rfl⟩
  · have h_7 := bI_1 h_5
    refine v_iload_n hC dX11_refusalOfReading_7 rfl ?_
    refine v_si hC (rest := []) mt_X11_isWay (c_isWay) mx_X11_isWay ml_X11_142 (by decide) rfl (cells1 := 0) (slots1 := 0) (by decide) (by decide) (Nat.le_of_ble_eq_true rfl) (Nat.le_of_ble_eq_true rfl) rfl (Nat.le_of_ble_eq_true rfl) dX11_refusalOfReading_8 (fun r_8 L_9 f_10 h_11 => ?_)
    obtain ⟨rfl, rfl, rfl⟩ := h_11
    refine v_if_ne hC dX11_refusalOfReading_11 (tgt := 17) (by decide) (fun h_12 => ?_) (fun h_12 => ?_)
    · have h_13 := bI_1 h_12
      refine v_aload_n hC dX11_refusalOfReading_17 rfl ?_
      refine v_iload_n hC dX11_refusalOfReading_18 rfl ?_
      refine v_vi hC (rest := []) m_x e_x rfl mi_X11_hasCloth ms_X11_hasCloth (c_hasCloth m_x e_x m_now e_now m_cl e_cl pcl) mx_X11_hasCloth ml_X11_239 (by decide) rfl (cells1 := 0) (slots1 := 0) (by decide) (by decide) (Nat.le_of_ble_eq_true rfl) (Nat.le_of_ble_eq_true rfl) rfl (Nat.le_of_ble_eq_true rfl) dX11_refusalOfReading_19 (fun r_14 L_15 f_16 h_17 => ?_)
      obtain ⟨rfl, rfl, rfl⟩ := h_17
      refine v_if_eq_t hC dX11_refusalOfReading_22 (tgt := 44) (by decide) (by decide) ?_
      refine v_bipush hC dX11_refusalOfReading_44 (v := (-6)) (by decide) ?_
      exact hR _ _ _ _ _ _ _ dX11_refusalOfReading_46 rfl (Nat.le_of_ble_eq_true rfl) (Nat.le_of_ble_eq_true rfl) ⟨(by unfold sp_ck; simp only [Int32.lt_iff_toInt_lt, Int32.le_iff_toInt_le, Int32.reduceToInt, ← Int32.toInt_inj] at h_7 h_13 ⊢; first | omega | (split <;> first | rfl | (exfalso; omega))), rfl, rfl⟩
    · have h_18 := bI_0 h_12
      refine v_bipush hC dX11_refusalOfReading_14 (v := (-2)) (by decide) ?_
      exact hR _ _ _ _ _ _ _ dX11_refusalOfReading_16 rfl (Nat.le_of_ble_eq_true rfl) (Nat.le_of_ble_eq_true rfl) ⟨(by unfold sp_ck; simp only [Int32.lt_iff_toInt_lt, Int32.le_iff_toInt_le, Int32.reduceToInt, ← Int32.toInt_inj] at h_7 h_18 ⊢; first | omega | (split <;> first | rfl | (exfalso; omega))), rfl, rfl⟩
set_option maxRecDepth 100000 in
set_option maxHeartbeats 4000000 in
theorem x_says {l : Launch} {E : Ez} {L : List Nat} {f : Nat → va_E} {cl he im la lo nl now np ns nw nwa pa sh sl t ta tr wa wt wy x : Nat} {gcl : Nat → Option Nat} {c : Int32} (m_x : x ∈ L) (e_x : f x = ob 11 [.ref t, .ref now, .ref im, .ref la, .ref sl, .ref np, .ref ns, .ref nw, .ref nwa, .ref nl, .ref he, .ref wa, .ref tr, .ref ta]) (m_now : now ∈ L) (e_now : f now = ob 0 [.ref pa, .ref sh, .ref wy, .ref wt, .ref lo, .ref cl]) (m_cl : cl ∈ L) (e_cl : f cl = aR E 5 4 gcl) (pcl : ∀ i : Nat, i < 4 → ∃ q s : Nat, gcl i = some q ∧ q ∈ L ∧ f q = ob 1 [.ref s, .int 0]) : CI l yX11_says cX11_says 5 .int 3 0 0 E [.ref x, .int c] L f (fun r L1 f1 => sp_c c = r) := by
  refine ci_of (by decide) (Nat.le_of_ble_eq_true rfl) (fun z hz hnm hC hR => ?_)
  have hC : Cx z E cX11_says RX11 5 3 0 0 := hC
  subst hz
  show V z E 5 0 0 L f 0 [(0, .ref x), (1, .int c)] []
  refine v_aload_n hC dX11_says_0 rfl ?_
  refine v_iload_n hC dX11_says_1 rfl ?_
  refine v_vi hC (rest := []) m_x e_x rfl mi_X11_refusalOfCloth ms_X11_refusalOfCloth (c_refC m_x e_x m_now e_now m_cl e_cl pcl) mx_X11_refusalOfCloth ml_X11_229 (by decide) rfl (cells1 := 0) (slots1 := 0) (by decide) (by decide) (Nat.le_of_ble_eq_true rfl) (Nat.le_of_ble_eq_true rfl) rfl (Nat.le_of_ble_eq_true rfl) dX11_says_2 (fun r_1 L_2 f_3 h_4 => ?_)
  obtain ⟨rfl, rfl, rfl⟩ := h_4
  refine v_istore_n hC dX11_says_5 (by decide) (lv' := [(2, .int (sp_c c)), (0, .ref x), (1, .int c)]) rfl ?_
  refine v_iload_n hC dX11_says_6 rfl ?_
  refine v_if_eq_f hC dX11_says_7 (tgt := 12) (by decide) (sp_c_ne c) ?_
  refine v_iload_n hC dX11_says_10 rfl ?_
  exact hR _ _ _ _ _ _ _ dX11_says_11 rfl (Nat.le_of_ble_eq_true rfl) (Nat.le_of_ble_eq_true rfl) rfl
set_option maxRecDepth 100000 in
set_option maxHeartbeats 4000000 in
theorem x_stops {l : Launch} {E : Ez} {L : List Nat} {f : Nat → va_E} {cl he im la lo nl now np ns nw nwa pa sh sl t ta tr wa wt wy x : Nat} {gcl : Nat → Option Nat} {c : Int32} (m_x : x ∈ L) (e_x : f x = ob 11 [.ref t, .ref now, .ref im, .ref la, .ref sl, .ref np, .ref ns, .ref nw, .ref nwa, .ref nl, .ref he, .ref wa, .ref tr, .ref ta]) (m_now : now ∈ L) (e_now : f now = ob 0 [.ref pa, .ref sh, .ref wy, .ref wt, .ref lo, .ref cl]) (m_cl : cl ∈ L) (e_cl : f cl = aR E 5 4 gcl) (pcl : ∀ i : Nat, i < 4 → ∃ q s : Nat, gcl i = some q ∧ q ∈ L ∧ f q = ob 1 [.ref s, .int 0]) : CI l yX11_stops cX11_stops 3 .int 3 0 0 E [.ref x, .int c] L f (fun r L1 f1 => sp_c c = r) := by
  refine ci_of (by decide) (Nat.le_of_ble_eq_true rfl) (fun z hz hnm hC hR => ?_)
  have hC : Cx z E cX11_stops RX11 3 3 0 0 := hC
  subst hz
  show V z E 3 0 0 L f 0 [(0, .ref x), (1, .int c)] []
  refine v_aload_n hC dX11_stops_0 rfl ?_
  refine v_iload_n hC dX11_stops_1 rfl ?_
  refine v_vi hC (rest := []) m_x e_x rfl mi_X11_refusalOfCloth ms_X11_refusalOfCloth (c_refC m_x e_x m_now e_now m_cl e_cl pcl) mx_X11_refusalOfCloth ml_X11_229 (by decide) rfl (cells1 := 0) (slots1 := 0) (by decide) (by decide) (Nat.le_of_ble_eq_true rfl) (Nat.le_of_ble_eq_true rfl) rfl (Nat.le_of_ble_eq_true rfl) dX11_stops_2 (fun r_1 L_2 f_3 h_4 => ?_)
  obtain ⟨rfl, rfl, rfl⟩ := h_4
  refine v_istore_n hC dX11_stops_5 (by decide) (lv' := [(2, .int (sp_c c)), (0, .ref x), (1, .int c)]) rfl ?_
  refine v_iload_n hC dX11_stops_6 rfl ?_
  refine v_if_eq_f hC dX11_stops_7 (tgt := 14) (by decide) (sp_c_ne c) ?_
  refine v_iload_n hC dX11_stops_10 rfl ?_
  refine v_goto hC dX11_stops_11 (tgt := 27) (by decide) ?_
  exact hR _ _ _ _ _ _ _ dX11_stops_27 rfl (Nat.le_of_ble_eq_true rfl) (Nat.le_of_ble_eq_true rfl) rfl
set_option maxRecDepth 100000 in
set_option maxHeartbeats 4000000 in
theorem x_best {l : Launch} {E : Ez} {L : List Nat} {f : Nat → va_E} {cl he im la lo nl now np ns nw nwa pa sh sl t ta tr wa wt wy x : Nat} {gcl : Nat → Option Nat} {c : Int32} (m_x : x ∈ L) (e_x : f x = ob 11 [.ref t, .ref now, .ref im, .ref la, .ref sl, .ref np, .ref ns, .ref nw, .ref nwa, .ref nl, .ref he, .ref wa, .ref tr, .ref ta]) (m_now : now ∈ L) (e_now : f now = ob 0 [.ref pa, .ref sh, .ref wy, .ref wt, .ref lo, .ref cl]) (m_cl : cl ∈ L) (e_cl : f cl = aR E 5 4 gcl) (pcl : ∀ i : Nat, i < 4 → ∃ q s : Nat, gcl i = some q ∧ q ∈ L ∧ f q = ob 1 [.ref s, .int 0]) : CI l yX11_best cX11_best 7 .int 3 0 0 E [.ref x, .int c] L f (fun r L1 f1 => sp_c c = r) := by
  refine ci_of (by decide) (Nat.le_of_ble_eq_true rfl) (fun z hz hnm hC hR => ?_)
  have hC : Cx z E cX11_best RX11 7 3 0 0 := hC
  subst hz
  show V z E 7 0 0 L f 0 [(0, .ref x), (1, .int c)] []
  refine v_aload_n hC dX11_best_0 rfl ?_
  refine v_iload_n hC dX11_best_1 rfl ?_
  refine v_vi hC (rest := []) m_x e_x rfl mi_X11_refusalOfCloth ms_X11_refusalOfCloth (c_refC m_x e_x m_now e_now m_cl e_cl pcl) mx_X11_refusalOfCloth ml_X11_229 (by decide) rfl (cells1 := 0) (slots1 := 0) (by decide) (by decide) (Nat.le_of_ble_eq_true rfl) (Nat.le_of_ble_eq_true rfl) rfl (Nat.le_of_ble_eq_true rfl) dX11_best_2 (fun r_1 L_2 f_3 h_4 => ?_)
  obtain ⟨rfl, rfl, rfl⟩ := h_4
  refine v_istore_n hC dX11_best_5 (by decide) (lv' := [(2, .int (sp_c c)), (0, .ref x), (1, .int c)]) rfl ?_
  refine v_iload_n hC dX11_best_6 rfl ?_
  refine v_if_eq_f hC dX11_best_7 (tgt := 12) (by decide) (sp_c_ne c) ?_
  refine v_iload_n hC dX11_best_10 rfl ?_
  exact hR _ _ _ _ _ _ _ dX11_best_11 rfl (Nat.le_of_ble_eq_true rfl) (Nat.le_of_ble_eq_true rfl) rfl
set_option maxRecDepth 100000 in
set_option maxHeartbeats 4000000 in
theorem x_lose {l : Launch} {E : Ez} {L : List Nat} {f : Nat → va_E} {cl he im la lo nl now np ns nw nwa pa sh sl t ta tr wa wt wy x : Nat} {gcl : Nat → Option Nat} {c : Int32} (m_x : x ∈ L) (e_x : f x = ob 11 [.ref t, .ref now, .ref im, .ref la, .ref sl, .ref np, .ref ns, .ref nw, .ref nwa, .ref nl, .ref he, .ref wa, .ref tr, .ref ta]) (m_now : now ∈ L) (e_now : f now = ob 0 [.ref pa, .ref sh, .ref wy, .ref wt, .ref lo, .ref cl]) (m_cl : cl ∈ L) (e_cl : f cl = aR E 5 4 gcl) (pcl : ∀ i : Nat, i < 4 → ∃ q s : Nat, gcl i = some q ∧ q ∈ L ∧ f q = ob 1 [.ref s, .int 0]) : CI l yX11_lose cX11_lose 3 .int 3 0 0 E [.ref x, .int c] L f (fun r L1 f1 => sp_c c = r) := by
  refine ci_of (by decide) (Nat.le_of_ble_eq_true rfl) (fun z hz hnm hC hR => ?_)
  have hC : Cx z E cX11_lose RX11 3 3 0 0 := hC
  subst hz
  show V z E 3 0 0 L f 0 [(0, .ref x), (1, .int c)] []
  refine v_aload_n hC dX11_lose_0 rfl ?_
  refine v_iload_n hC dX11_lose_1 rfl ?_
  refine v_vi hC (rest := []) m_x e_x rfl mi_X11_refusalOfCloth ms_X11_refusalOfCloth (c_refC m_x e_x m_now e_now m_cl e_cl pcl) mx_X11_refusalOfCloth ml_X11_229 (by decide) rfl (cells1 := 0) (slots1 := 0) (by decide) (by decide) (Nat.le_of_ble_eq_true rfl) (Nat.le_of_ble_eq_true rfl) rfl (Nat.le_of_ble_eq_true rfl) dX11_lose_2 (fun r_1 L_2 f_3 h_4 => ?_)
  obtain ⟨rfl, rfl, rfl⟩ := h_4
  refine v_istore_n hC dX11_lose_5 (by decide) (lv' := [(2, .int (sp_c c)), (0, .ref x), (1, .int c)]) rfl ?_
  refine v_iload_n hC dX11_lose_6 rfl ?_
  refine v_if_eq_f hC dX11_lose_7 (tgt := 12) (by decide) (sp_c_ne c) ?_
  refine v_iload_n hC dX11_lose_10 rfl ?_
  exact hR _ _ _ _ _ _ _ dX11_lose_11 rfl (Nat.le_of_ble_eq_true rfl) (Nat.le_of_ble_eq_true rfl) rfl
set_option maxRecDepth 100000 in
set_option maxHeartbeats 4000000 in
theorem x_mend {l : Launch} {E : Ez} {L : List Nat} {f : Nat → va_E} {cl he im la lo nl now np ns nw nwa pa sh sl t ta tr wa wt wy x : Nat} {gcl : Nat → Option Nat} {c : Int32} (m_x : x ∈ L) (e_x : f x = ob 11 [.ref t, .ref now, .ref im, .ref la, .ref sl, .ref np, .ref ns, .ref nw, .ref nwa, .ref nl, .ref he, .ref wa, .ref tr, .ref ta]) (m_now : now ∈ L) (e_now : f now = ob 0 [.ref pa, .ref sh, .ref wy, .ref wt, .ref lo, .ref cl]) (m_cl : cl ∈ L) (e_cl : f cl = aR E 5 4 gcl) (pcl : ∀ i : Nat, i < 4 → ∃ q s : Nat, gcl i = some q ∧ q ∈ L ∧ f q = ob 1 [.ref s, .int 0]) : CI l yX11_mend cX11_mend 7 .int 3 0 0 E [.ref x, .int c] L f (fun r L1 f1 => sp_c c = r) := by
  refine ci_of (by decide) (Nat.le_of_ble_eq_true rfl) (fun z hz hnm hC hR => ?_)
  have hC : Cx z E cX11_mend RX11 7 3 0 0 := hC
  subst hz
  show V z E 7 0 0 L f 0 [(0, .ref x), (1, .int c)] []
  refine v_aload_n hC dX11_mend_0 rfl ?_
  refine v_iload_n hC dX11_mend_1 rfl ?_
  refine v_vi hC (rest := []) m_x e_x rfl mi_X11_refusalOfCloth ms_X11_refusalOfCloth (c_refC m_x e_x m_now e_now m_cl e_cl pcl) mx_X11_refusalOfCloth ml_X11_229 (by decide) rfl (cells1 := 0) (slots1 := 0) (by decide) (by decide) (Nat.le_of_ble_eq_true rfl) (Nat.le_of_ble_eq_true rfl) rfl (Nat.le_of_ble_eq_true rfl) dX11_mend_2 (fun r_1 L_2 f_3 h_4 => ?_)
  obtain ⟨rfl, rfl, rfl⟩ := h_4
  refine v_istore_n hC dX11_mend_5 (by decide) (lv' := [(2, .int (sp_c c)), (0, .ref x), (1, .int c)]) rfl ?_
  refine v_iload_n hC dX11_mend_6 rfl ?_
  refine v_if_eq_f hC dX11_mend_7 (tgt := 12) (by decide) (sp_c_ne c) ?_
  refine v_iload_n hC dX11_mend_10 rfl ?_
  exact hR _ _ _ _ _ _ _ dX11_mend_11 rfl (Nat.le_of_ble_eq_true rfl) (Nat.le_of_ble_eq_true rfl) rfl
set_option maxRecDepth 100000 in
set_option maxHeartbeats 4000000 in
theorem x_ball {l : Launch} {E : Ez} {L : List Nat} {f : Nat → va_E} {cl he im la lo nl now np ns nw nwa pa sh sl t ta tr wa wt wy x : Nat} {gcl : Nat → Option Nat} {c : Int32} {i : Int32} (m_x : x ∈ L) (e_x : f x = ob 11 [.ref t, .ref now, .ref im, .ref la, .ref sl, .ref np, .ref ns, .ref nw, .ref nwa, .ref nl, .ref he, .ref wa, .ref tr, .ref ta]) (m_now : now ∈ L) (e_now : f now = ob 0 [.ref pa, .ref sh, .ref wy, .ref wt, .ref lo, .ref cl]) (m_cl : cl ∈ L) (e_cl : f cl = aR E 5 4 gcl) (pcl : ∀ i : Nat, i < 4 → ∃ q s : Nat, gcl i = some q ∧ q ∈ L ∧ f q = ob 1 [.ref s, .int 0]) : CI l yX11_ball cX11_ball 7 .int 3 0 0 E [.ref x, .int c, .int i] L f (fun r L1 f1 => sp_c c = r) := by
  refine ci_of (by decide) (Nat.le_of_ble_eq_true rfl) (fun z hz hnm hC hR => ?_)
  have hC : Cx z E cX11_ball RX11 7 3 0 0 := hC
  subst hz
  show V z E 7 0 0 L f 0 [(0, .ref x), (1, .int c), (2, .int i)] []
  refine v_aload_n hC dX11_ball_0 rfl ?_
  refine v_iload_n hC dX11_ball_1 rfl ?_
  refine v_vi hC (rest := []) m_x e_x rfl mi_X11_refusalOfCloth ms_X11_refusalOfCloth (c_refC m_x e_x m_now e_now m_cl e_cl pcl) mx_X11_refusalOfCloth ml_X11_229 (by decide) rfl (cells1 := 0) (slots1 := 0) (by decide) (by decide) (Nat.le_of_ble_eq_true rfl) (Nat.le_of_ble_eq_true rfl) rfl (Nat.le_of_ble_eq_true rfl) dX11_ball_2 (fun r_1 L_2 f_3 h_4 => ?_)
  obtain ⟨rfl, rfl, rfl⟩ := h_4
  refine v_istore_n hC dX11_ball_5 (by decide) (lv' := [(3, .int (sp_c c)), (0, .ref x), (1, .int c), (2, .int i)]) rfl ?_
  refine v_iload_n hC dX11_ball_6 rfl ?_
  refine v_if_eq_f hC dX11_ball_7 (tgt := 12) (by decide) (sp_c_ne c) ?_
  refine v_iload_n hC dX11_ball_10 rfl ?_
  exact hR _ _ _ _ _ _ _ dX11_ball_11 rfl (Nat.le_of_ble_eq_true rfl) (Nat.le_of_ble_eq_true rfl) rfl
set_option maxRecDepth 100000 in
set_option maxHeartbeats 4000000 in
theorem x_alike {l : Launch} {E : Ez} {L : List Nat} {f : Nat → va_E} {cl he im la lo nl now np ns nw nwa pa sh sl t ta tr wa wt wy x : Nat} {gcl : Nat → Option Nat} {c : Int32} {d : Int32} (m_x : x ∈ L) (e_x : f x = ob 11 [.ref t, .ref now, .ref im, .ref la, .ref sl, .ref np, .ref ns, .ref nw, .ref nwa, .ref nl, .ref he, .ref wa, .ref tr, .ref ta]) (m_now : now ∈ L) (e_now : f now = ob 0 [.ref pa, .ref sh, .ref wy, .ref wt, .ref lo, .ref cl]) (m_cl : cl ∈ L) (e_cl : f cl = aR E 5 4 gcl) (pcl : ∀ i : Nat, i < 4 → ∃ q s : Nat, gcl i = some q ∧ q ∈ L ∧ f q = ob 1 [.ref s, .int 0]) : CI l yX11_alike cX11_alike 8 .int 3 0 0 E [.ref x, .int c, .int d] L f (fun r L1 f1 => sp_cd c d = r) := by
  refine ci_of (by decide) (Nat.le_of_ble_eq_true rfl) (fun z hz hnm hC hR => ?_)
  have hC : Cx z E cX11_alike RX11 8 3 0 0 := hC
  subst hz
  show V z E 8 0 0 L f 0 [(0, .ref x), (1, .int c), (2, .int d)] []
  refine v_aload_n hC dX11_alike_0 rfl ?_
  refine v_iload_n hC dX11_alike_1 rfl ?_
  refine v_iload_n hC dX11_alike_2 rfl ?_
  refine v_vi hC (rest := []) m_x e_x rfl mi_X11_refusalOfCloths ms_X11_refusalOfCloths (c_refCs m_x e_x m_now e_now m_cl e_cl pcl) mx_X11_refusalOfCloths ml_X11_298 (by decide) rfl (cells1 := 0) (slots1 := 0) (by decide) (by decide) (Nat.le_of_ble_eq_true rfl) (Nat.le_of_ble_eq_true rfl) rfl (Nat.le_of_ble_eq_true rfl) dX11_alike_3 (fun r_1 L_2 f_3 h_4 => ?_)
  obtain ⟨rfl, rfl, rfl⟩ := h_4
  refine v_istore_n hC dX11_alike_6 (by decide) (lv' := [(3, .int (sp_cd c d)), (0, .ref x), (1, .int c), (2, .int d)]) rfl ?_
  refine v_iload_n hC dX11_alike_7 rfl ?_
  refine v_if_eq_f hC dX11_alike_8 (tgt := 13) (by decide) (sp_cd_ne c d) ?_
  refine v_iload_n hC dX11_alike_11 rfl ?_
  exact hR _ _ _ _ _ _ _ dX11_alike_12 rfl (Nat.le_of_ble_eq_true rfl) (Nat.le_of_ble_eq_true rfl) rfl
set_option maxRecDepth 100000 in
set_option maxHeartbeats 4000000 in
theorem x_rewind {l : Launch} {E : Ez} {L : List Nat} {f : Nat → va_E} {cl he im la lo nl now np ns nw nwa pa sh sl t ta tr wa wt wy x : Nat} {gcl : Nat → Option Nat} {c : Int32} {d : Int32} (m_x : x ∈ L) (e_x : f x = ob 11 [.ref t, .ref now, .ref im, .ref la, .ref sl, .ref np, .ref ns, .ref nw, .ref nwa, .ref nl, .ref he, .ref wa, .ref tr, .ref ta]) (m_now : now ∈ L) (e_now : f now = ob 0 [.ref pa, .ref sh, .ref wy, .ref wt, .ref lo, .ref cl]) (m_cl : cl ∈ L) (e_cl : f cl = aR E 5 4 gcl) (pcl : ∀ i : Nat, i < 4 → ∃ q s : Nat, gcl i = some q ∧ q ∈ L ∧ f q = ob 1 [.ref s, .int 0]) : CI l yX11_rewind cX11_rewind 5 .int 3 0 0 E [.ref x, .int c, .int d] L f (fun r L1 f1 => sp_cd c d = r) := by
  refine ci_of (by decide) (Nat.le_of_ble_eq_true rfl) (fun z hz hnm hC hR => ?_)
  have hC : Cx z E cX11_rewind RX11 5 3 0 0 := hC
  subst hz
  show V z E 5 0 0 L f 0 [(0, .ref x), (1, .int c), (2, .int d)] []
  refine v_aload_n hC dX11_rewind_0 rfl ?_
  refine v_iload_n hC dX11_rewind_1 rfl ?_
  refine v_iload_n hC dX11_rewind_2 rfl ?_
  refine v_vi hC (rest := []) m_x e_x rfl mi_X11_refusalOfCloths ms_X11_refusalOfCloths (c_refCs m_x e_x m_now e_now m_cl e_cl pcl) mx_X11_refusalOfCloths ml_X11_298 (by decide) rfl (cells1 := 0) (slots1 := 0) (by decide) (by decide) (Nat.le_of_ble_eq_true rfl) (Nat.le_of_ble_eq_true rfl) rfl (Nat.le_of_ble_eq_true rfl) dX11_rewind_3 (fun r_1 L_2 f_3 h_4 => ?_)
  obtain ⟨rfl, rfl, rfl⟩ := h_4
  refine v_istore_n hC dX11_rewind_6 (by decide) (lv' := [(3, .int (sp_cd c d)), (0, .ref x), (1, .int c), (2, .int d)]) rfl ?_
  refine v_iload_n hC dX11_rewind_7 rfl ?_
  refine v_if_eq_f hC dX11_rewind_8 (tgt := 13) (by decide) (sp_cd_ne c d) ?_
  refine v_iload_n hC dX11_rewind_11 rfl ?_
  exact hR _ _ _ _ _ _ _ dX11_rewind_12 rfl (Nat.le_of_ble_eq_true rfl) (Nat.le_of_ble_eq_true rfl) rfl
set_option maxRecDepth 100000 in
set_option maxHeartbeats 4000000 in
theorem x_copy {l : Launch} {E : Ez} {L : List Nat} {f : Nat → va_E} {cl he im la lo nl now np ns nw nwa pa sh sl t ta tr wa wt wy x : Nat} {gcl : Nat → Option Nat} {c : Int32} {d : Int32} (m_x : x ∈ L) (e_x : f x = ob 11 [.ref t, .ref now, .ref im, .ref la, .ref sl, .ref np, .ref ns, .ref nw, .ref nwa, .ref nl, .ref he, .ref wa, .ref tr, .ref ta]) (m_now : now ∈ L) (e_now : f now = ob 0 [.ref pa, .ref sh, .ref wy, .ref wt, .ref lo, .ref cl]) (m_cl : cl ∈ L) (e_cl : f cl = aR E 5 4 gcl) (pcl : ∀ i : Nat, i < 4 → ∃ q s : Nat, gcl i = some q ∧ q ∈ L ∧ f q = ob 1 [.ref s, .int 0]) : CI l yX11_copy cX11_copy 3 .int 2 0 0 E [.ref x, .int c, .int d] L f (fun r L1 f1 => sp_cd c d = r) := by
  refine ci_of (by decide) (Nat.le_of_ble_eq_true rfl) (fun z hz hnm hC hR => ?_)
  have hC : Cx z E cX11_copy RX11 3 2 0 0 := hC
  subst hz
  show V z E 3 0 0 L f 0 [(0, .ref x), (1, .int c), (2, .int d)] []
  refine v_iload_n hC dX11_copy_0 rfl ?_
  refine v_si hC (rest := []) mt_X11_isCloth (c_isCloth) mx_X11_isCloth ml_X11_181 (by decide) rfl (cells1 := 0) (slots1 := 0) (by decide) (by decide) (Nat.le_of_ble_eq_true rfl) (Nat.le_of_ble_eq_true rfl) rfl (Nat.le_of_ble_eq_true rfl) dX11_copy_1 (fun r_1 L_2 f_3 h_4 => ?_)
  obtain ⟨rfl, rfl, rfl⟩ := h_4
  refine v_if_eq hC dX11_copy_4 (tgt := 14) (by decide) (fun h_5 => ?_) (fun h_5 => ?_)
  · have h_6 := bI_0 h_5
    refine v_bipush hC dX11_copy_14 (v := (-2)) (by decide) ?_
    exact hR _ _ _ _ _ _ _ dX11_copy_16 rfl (Nat.le_of_ble_eq_true rfl) (Nat.le_of_ble_eq_true rfl) (by unfold sp_cd; simp only [Int32.lt_iff_toInt_lt, Int32.le_iff_toInt_le, Int32.reduceToInt, ← Int32.toInt_inj] at h_6 ⊢; first | omega | (split <;> first | rfl | (exfalso; omega)))
  · have h_7 := bI_1 h_5
    refine v_iload_n hC dX11_copy_7 rfl ?_
    refine v_si hC (rest := []) mt_X11_isCloth (c_isCloth) mx_X11_isCloth ml_X11_181 (by decide) rfl (cells1 := 0) (slots1 := 0) (by decide) (by decide) (Nat.le_of_ble_eq_true rfl) (Nat.le_of_ble_eq_true rfl) rfl (Nat.le_of_ble_eq_true rfl) dX11_copy_8 (fun r_8 L_9 f_10 h_11 => ?_)
    obtain ⟨rfl, rfl, rfl⟩ := h_11
    refine v_if_ne hC dX11_copy_11 (tgt := 17) (by decide) (fun h_12 => ?_) (fun h_12 => ?_)
    · have h_13 := bI_1 h_12
      refine v_aload_n hC dX11_copy_17 rfl ?_
      refine v_iload_n hC dX11_copy_18 rfl ?_
      refine v_vi hC (rest := []) m_x e_x rfl mi_X11_hasCloth ms_X11_hasCloth (c_hasCloth m_x e_x m_now e_now m_cl e_cl pcl) mx_X11_hasCloth ml_X11_239 (by decide) rfl (cells1 := 0) (slots1 := 0) (by decide) (by decide) (Nat.le_of_ble_eq_true rfl) (Nat.le_of_ble_eq_true rfl) rfl (Nat.le_of_ble_eq_true rfl) dX11_copy_19 (fun r_14 L_15 f_16 h_17 => ?_)
      obtain ⟨rfl, rfl, rfl⟩ := h_17
      refine v_if_ne_f hC dX11_copy_22 (tgt := 28) (by decide) (by decide) ?_
      refine v_bipush hC dX11_copy_25 (v := (-6)) (by decide) ?_
      exact hR _ _ _ _ _ _ _ dX11_copy_27 rfl (Nat.le_of_ble_eq_true rfl) (Nat.le_of_ble_eq_true rfl) (by unfold sp_cd; simp only [Int32.lt_iff_toInt_lt, Int32.le_iff_toInt_le, Int32.reduceToInt, ← Int32.toInt_inj] at h_7 h_13 ⊢; first | omega | (split <;> first | rfl | (exfalso; omega)))
    · have h_18 := bI_0 h_12
      refine v_bipush hC dX11_copy_14 (v := (-2)) (by decide) ?_
      exact hR _ _ _ _ _ _ _ dX11_copy_16 rfl (Nat.le_of_ble_eq_true rfl) (Nat.le_of_ble_eq_true rfl) (by unfold sp_cd; simp only [Int32.lt_iff_toInt_lt, Int32.le_iff_toInt_le, Int32.reduceToInt, ← Int32.toInt_inj] at h_7 h_18 ⊢; first | omega | (split <;> first | rfl | (exfalso; omega)))
set_option maxRecDepth 100000 in
set_option maxHeartbeats 4000000 in
theorem x_put {l : Launch} {E : Ez} {L : List Nat} {f : Nat → va_E} {cl he im la lo nl now np ns nw nwa pa sh sl t ta tr wa wt wy x : Nat} {gcl : Nat → Option Nat} {gwy : Nat → Option Nat} {c : Int32} {k : Int32} (m_x : x ∈ L) (e_x : f x = ob 11 [.ref t, .ref now, .ref im, .ref la, .ref sl, .ref np, .ref ns, .ref nw, .ref nwa, .ref nl, .ref he, .ref wa, .ref tr, .ref ta]) (m_now : now ∈ L) (e_now : f now = ob 0 [.ref pa, .ref sh, .ref wy, .ref wt, .ref lo, .ref cl]) (m_cl : cl ∈ L) (e_cl : f cl = aR E 5 4 gcl) (pcl : ∀ i : Nat, i < 4 → ∃ q s : Nat, gcl i = some q ∧ q ∈ L ∧ f q = ob 1 [.ref s, .int 0]) (m_wy : wy ∈ L) (e_wy : f wy = aR E 7 6 gwy) (pwy : ∀ i : Nat, i < 6 → ∃ q : Nat, gwy i = some q ∧ q ∈ L ∧ f q = ob 10 [.int 0, .int 0, .int 1, .int 1, .int 1, .int 0, .int 0]) : CI l yX11_put cX11_put 5 .int 3 0 0 E [.ref x, .int c, .int k] L f (fun r L1 f1 => sp_ck c k = r) := by
  refine ci_of (by decide) (Nat.le_of_ble_eq_true rfl) (fun z hz hnm hC hR => ?_)
  have hC : Cx z E cX11_put RX11 5 3 0 0 := hC
  subst hz
  show V z E 5 0 0 L f 0 [(0, .ref x), (1, .int c), (2, .int k)] []
  refine v_aload_n hC dX11_put_0 rfl ?_
  refine v_iload_n hC dX11_put_1 rfl ?_
  refine v_iload_n hC dX11_put_2 rfl ?_
  refine v_vi hC (rest := []) m_x e_x rfl mi_X11_refusalOfReading ms_X11_refusalOfReading (c_refR m_x e_x m_now e_now m_cl e_cl pcl m_wy e_wy pwy) mx_X11_refusalOfReading ml_X11_198 (by decide) rfl (cells1 := 0) (slots1 := 0) (by decide) (by decide) (Nat.le_of_ble_eq_true rfl) (Nat.le_of_ble_eq_true rfl) rfl (Nat.le_of_ble_eq_true rfl) dX11_put_3 (fun r_1 L_2 f_3 h_4 => ?_)
  obtain ⟨rfl, rfl, rfl⟩ := h_4
  refine v_istore_n hC dX11_put_6 (by decide) (lv' := [(3, .int (sp_ck c k)), (0, .ref x), (1, .int c), (2, .int k)]) rfl ?_
  refine v_iload_n hC dX11_put_7 rfl ?_
  refine v_if_eq_f hC dX11_put_8 (tgt := 13) (by decide) (sp_ck_ne c k) ?_
  refine v_iload_n hC dX11_put_11 rfl ?_
  exact hR _ _ _ _ _ _ _ dX11_put_12 rfl (Nat.le_of_ble_eq_true rfl) (Nat.le_of_ble_eq_true rfl) rfl
set_option maxRecDepth 100000 in
set_option maxHeartbeats 4000000 in
theorem x_read {l : Launch} {E : Ez} {L : List Nat} {f : Nat → va_E} {cl he im la lo nl now np ns nw nwa pa sh sl t ta tr wa wt wy x : Nat} {gcl : Nat → Option Nat} {gwy : Nat → Option Nat} {c : Int32} {k : Int32} (m_x : x ∈ L) (e_x : f x = ob 11 [.ref t, .ref now, .ref im, .ref la, .ref sl, .ref np, .ref ns, .ref nw, .ref nwa, .ref nl, .ref he, .ref wa, .ref tr, .ref ta]) (m_now : now ∈ L) (e_now : f now = ob 0 [.ref pa, .ref sh, .ref wy, .ref wt, .ref lo, .ref cl]) (m_cl : cl ∈ L) (e_cl : f cl = aR E 5 4 gcl) (pcl : ∀ i : Nat, i < 4 → ∃ q s : Nat, gcl i = some q ∧ q ∈ L ∧ f q = ob 1 [.ref s, .int 0]) (m_wy : wy ∈ L) (e_wy : f wy = aR E 7 6 gwy) (pwy : ∀ i : Nat, i < 6 → ∃ q : Nat, gwy i = some q ∧ q ∈ L ∧ f q = ob 10 [.int 0, .int 0, .int 1, .int 1, .int 1, .int 0, .int 0]) : CI l yX11_read cX11_read 4 .int 3 0 0 E [.ref x, .int c, .int k] L f (fun r L1 f1 => sp_ck c k = r) := by
  refine ci_of (by decide) (Nat.le_of_ble_eq_true rfl) (fun z hz hnm hC hR => ?_)
  have hC : Cx z E cX11_read RX11 4 3 0 0 := hC
  subst hz
  show V z E 4 0 0 L f 0 [(0, .ref x), (1, .int c), (2, .int k)] []
  refine v_aload_n hC dX11_read_0 rfl ?_
  refine v_iload_n hC dX11_read_1 rfl ?_
  refine v_iload_n hC dX11_read_2 rfl ?_
  refine v_vi hC (rest := []) m_x e_x rfl mi_X11_refusalOfReading ms_X11_refusalOfReading (c_refR m_x e_x m_now e_now m_cl e_cl pcl m_wy e_wy pwy) mx_X11_refusalOfReading ml_X11_198 (by decide) rfl (cells1 := 0) (slots1 := 0) (by decide) (by decide) (Nat.le_of_ble_eq_true rfl) (Nat.le_of_ble_eq_true rfl) rfl (Nat.le_of_ble_eq_true rfl) dX11_read_3 (fun r_1 L_2 f_3 h_4 => ?_)
  obtain ⟨rfl, rfl, rfl⟩ := h_4
  refine v_istore_n hC dX11_read_6 (by decide) (lv' := [(3, .int (sp_ck c k)), (0, .ref x), (1, .int c), (2, .int k)]) rfl ?_
  refine v_iload_n hC dX11_read_7 rfl ?_
  refine v_if_eq_f hC dX11_read_8 (tgt := 13) (by decide) (sp_ck_ne c k) ?_
  refine v_iload_n hC dX11_read_11 rfl ?_
  exact hR _ _ _ _ _ _ _ dX11_read_12 rfl (Nat.le_of_ble_eq_true rfl) (Nat.le_of_ble_eq_true rfl) rfl
set_option maxRecDepth 100000 in
set_option maxHeartbeats 4000000 in
theorem x_dim {l : Launch} {E : Ez} {L : List Nat} {f : Nat → va_E} {cl he im la lo nl now np ns nw nwa pa sh sl t ta tr wa wt wy x : Nat} {gcl : Nat → Option Nat} {gwy : Nat → Option Nat} {c : Int32} {k : Int32} (m_x : x ∈ L) (e_x : f x = ob 11 [.ref t, .ref now, .ref im, .ref la, .ref sl, .ref np, .ref ns, .ref nw, .ref nwa, .ref nl, .ref he, .ref wa, .ref tr, .ref ta]) (m_now : now ∈ L) (e_now : f now = ob 0 [.ref pa, .ref sh, .ref wy, .ref wt, .ref lo, .ref cl]) (m_cl : cl ∈ L) (e_cl : f cl = aR E 5 4 gcl) (pcl : ∀ i : Nat, i < 4 → ∃ q s : Nat, gcl i = some q ∧ q ∈ L ∧ f q = ob 1 [.ref s, .int 0]) (m_wy : wy ∈ L) (e_wy : f wy = aR E 7 6 gwy) (pwy : ∀ i : Nat, i < 6 → ∃ q : Nat, gwy i = some q ∧ q ∈ L ∧ f q = ob 10 [.int 0, .int 0, .int 1, .int 1, .int 1, .int 0, .int 0]) : CI l yX11_dim cX11_dim 6 .int 3 0 0 E [.ref x, .int c, .int k] L f (fun r L1 f1 => sp_ck c k = r) := by
  refine ci_of (by decide) (Nat.le_of_ble_eq_true rfl) (fun z hz hnm hC hR => ?_)
  have hC : Cx z E cX11_dim RX11 6 3 0 0 := hC
  subst hz
  show V z E 6 0 0 L f 0 [(0, .ref x), (1, .int c), (2, .int k)] []
  refine v_aload_n hC dX11_dim_0 rfl ?_
  refine v_iload_n hC dX11_dim_1 rfl ?_
  refine v_iload_n hC dX11_dim_2 rfl ?_
  refine v_vi hC (rest := []) m_x e_x rfl mi_X11_refusalOfReading ms_X11_refusalOfReading (c_refR m_x e_x m_now e_now m_cl e_cl pcl m_wy e_wy pwy) mx_X11_refusalOfReading ml_X11_198 (by decide) rfl (cells1 := 0) (slots1 := 0) (by decide) (by decide) (Nat.le_of_ble_eq_true rfl) (Nat.le_of_ble_eq_true rfl) rfl (Nat.le_of_ble_eq_true rfl) dX11_dim_3 (fun r_1 L_2 f_3 h_4 => ?_)
  obtain ⟨rfl, rfl, rfl⟩ := h_4
  refine v_istore_n hC dX11_dim_6 (by decide) (lv' := [(3, .int (sp_ck c k)), (0, .ref x), (1, .int c), (2, .int k)]) rfl ?_
  refine v_iload_n hC dX11_dim_7 rfl ?_
  refine v_if_eq_f hC dX11_dim_8 (tgt := 13) (by decide) (sp_ck_ne c k) ?_
  refine v_iload_n hC dX11_dim_11 rfl ?_
  exact hR _ _ _ _ _ _ _ dX11_dim_12 rfl (Nat.le_of_ble_eq_true rfl) (Nat.le_of_ble_eq_true rfl) rfl
set_option maxRecDepth 100000 in
set_option maxHeartbeats 4000000 in
theorem x_bit {l : Launch} {E : Ez} {L : List Nat} {f : Nat → va_E} {cl he im la lo nl now np ns nw nwa pa sh sl t ta tr wa wt wy x : Nat} {gcl : Nat → Option Nat} {gwy : Nat → Option Nat} {c : Int32} {k : Int32} {i : Int32} (m_x : x ∈ L) (e_x : f x = ob 11 [.ref t, .ref now, .ref im, .ref la, .ref sl, .ref np, .ref ns, .ref nw, .ref nwa, .ref nl, .ref he, .ref wa, .ref tr, .ref ta]) (m_now : now ∈ L) (e_now : f now = ob 0 [.ref pa, .ref sh, .ref wy, .ref wt, .ref lo, .ref cl]) (m_cl : cl ∈ L) (e_cl : f cl = aR E 5 4 gcl) (pcl : ∀ i : Nat, i < 4 → ∃ q s : Nat, gcl i = some q ∧ q ∈ L ∧ f q = ob 1 [.ref s, .int 0]) (m_wy : wy ∈ L) (e_wy : f wy = aR E 7 6 gwy) (pwy : ∀ i : Nat, i < 6 → ∃ q : Nat, gwy i = some q ∧ q ∈ L ∧ f q = ob 10 [.int 0, .int 0, .int 1, .int 1, .int 1, .int 0, .int 0]) : CI l yX11_bit cX11_bit 5 .int 3 0 0 E [.ref x, .int c, .int k, .int i] L f (fun r L1 f1 => sp_ck c k = r) := by
  refine ci_of (by decide) (Nat.le_of_ble_eq_true rfl) (fun z hz hnm hC hR => ?_)
  have hC : Cx z E cX11_bit RX11 5 3 0 0 := hC
  subst hz
  show V z E 5 0 0 L f 0 [(0, .ref x), (1, .int c), (2, .int k), (3, .int i)] []
  refine v_aload_n hC dX11_bit_0 rfl ?_
  refine v_iload_n hC dX11_bit_1 rfl ?_
  refine v_iload_n hC dX11_bit_2 rfl ?_
  refine v_vi hC (rest := []) m_x e_x rfl mi_X11_refusalOfReading ms_X11_refusalOfReading (c_refR m_x e_x m_now e_now m_cl e_cl pcl m_wy e_wy pwy) mx_X11_refusalOfReading ml_X11_198 (by decide) rfl (cells1 := 0) (slots1 := 0) (by decide) (by decide) (Nat.le_of_ble_eq_true rfl) (Nat.le_of_ble_eq_true rfl) rfl (Nat.le_of_ble_eq_true rfl) dX11_bit_3 (fun r_1 L_2 f_3 h_4 => ?_)
  obtain ⟨rfl, rfl, rfl⟩ := h_4
  refine v_istore hC dX11_bit_6 (by decide) (lv' := [(4, .int (sp_ck c k)), (0, .ref x), (1, .int c), (2, .int k), (3, .int i)]) rfl ?_
  refine v_iload hC dX11_bit_8 rfl ?_
  refine v_if_eq_f hC dX11_bit_10 (tgt := 16) (by decide) (sp_ck_ne c k) ?_
  refine v_iload hC dX11_bit_13 rfl ?_
  exact hR _ _ _ _ _ _ _ dX11_bit_15 rfl (Nat.le_of_ble_eq_true rfl) (Nat.le_of_ble_eq_true rfl) rfl
set_option maxRecDepth 100000 in
set_option maxHeartbeats 4000000 in
theorem x_place {l : Launch} {E : Ez} {L : List Nat} {f : Nat → va_E} {cl he im la lo nl now np ns nw nwa pa sh sl t ta tr wa wt wy x : Nat} {gwy : Nat → Option Nat} {k : Int32} {i : Int32} (m_x : x ∈ L) (e_x : f x = ob 11 [.ref t, .ref now, .ref im, .ref la, .ref sl, .ref np, .ref ns, .ref nw, .ref nwa, .ref nl, .ref he, .ref wa, .ref tr, .ref ta]) (m_now : now ∈ L) (e_now : f now = ob 0 [.ref pa, .ref sh, .ref wy, .ref wt, .ref lo, .ref cl]) (m_wy : wy ∈ L) (e_wy : f wy = aR E 7 6 gwy) (pwy : ∀ i : Nat, i < 6 → ∃ q : Nat, gwy i = some q ∧ q ∈ L ∧ f q = ob 10 [.int 0, .int 0, .int 1, .int 1, .int 1, .int 0, .int 0]) : CI l yX11_place cX11_place 5 .int 2 0 0 E [.ref x, .int k, .int i] L f (fun r L1 f1 => sp_k k = r) := by
  refine ci_of (by decide) (Nat.le_of_ble_eq_true rfl) (fun z hz hnm hC hR => ?_)
  have hC : Cx z E cX11_place RX11 5 2 0 0 := hC
  subst hz
  show V z E 5 0 0 L f 0 [(0, .ref x), (1, .int k), (2, .int i)] []
  refine v_aload_n hC dX11_place_0 rfl ?_
  refine v_iload_n hC dX11_place_1 rfl ?_
  refine v_vi hC (rest := []) m_x e_x rfl mi_X11_refusalOfWay ms_X11_refusalOfWay (c_refW m_x e_x m_now e_now m_wy e_wy pwy) mx_X11_refusalOfWay ml_X11_248 (by decide) rfl (cells1 := 0) (slots1 := 0) (by decide) (by decide) (Nat.le_of_ble_eq_true rfl) (Nat.le_of_ble_eq_true rfl) rfl (Nat.le_of_ble_eq_true rfl) dX11_place_2 (fun r_1 L_2 f_3 h_4 => ?_)
  obtain ⟨rfl, rfl, rfl⟩ := h_4
  refine v_istore_n hC dX11_place_5 (by decide) (lv' := [(3, .int (sp_k k)), (0, .ref x), (1, .int k), (2, .int i)]) rfl ?_
  refine v_iload_n hC dX11_place_6 rfl ?_
  refine v_if_eq_f hC dX11_place_7 (tgt := 12) (by decide) (sp_k_ne k) ?_
  refine v_iload_n hC dX11_place_10 rfl ?_
  exact hR _ _ _ _ _ _ _ dX11_place_11 rfl (Nat.le_of_ble_eq_true rfl) (Nat.le_of_ble_eq_true rfl) rfl
set_option maxRecDepth 100000 in
set_option maxHeartbeats 4000000 in
theorem x_room {l : Launch} {E : Ez} {L : List Nat} {f : Nat → va_E} {cl he im la lo nl now np ns nw nwa pa sh sl t ta tr wa wt wy x : Nat} {gwy : Nat → Option Nat} {k : Int32} (m_x : x ∈ L) (e_x : f x = ob 11 [.ref t, .ref now, .ref im, .ref la, .ref sl, .ref np, .ref ns, .ref nw, .ref nwa, .ref nl, .ref he, .ref wa, .ref tr, .ref ta]) (m_now : now ∈ L) (e_now : f now = ob 0 [.ref pa, .ref sh, .ref wy, .ref wt, .ref lo, .ref cl]) (m_wy : wy ∈ L) (e_wy : f wy = aR E 7 6 gwy) (pwy : ∀ i : Nat, i < 6 → ∃ q : Nat, gwy i = some q ∧ q ∈ L ∧ f q = ob 10 [.int 0, .int 0, .int 1, .int 1, .int 1, .int 0, .int 0]) : CI l yX11_room cX11_room 3 .int 2 0 0 E [.ref x, .int k] L f (fun r L1 f1 => sp_k k = r) := by
  refine ci_of (by decide) (Nat.le_of_ble_eq_true rfl) (fun z hz hnm hC hR => ?_)
  have hC : Cx z E cX11_room RX11 3 2 0 0 := hC
  subst hz
  show V z E 3 0 0 L f 0 [(0, .ref x), (1, .int k)] []
  refine v_aload_n hC dX11_room_0 rfl ?_
  refine v_iload_n hC dX11_room_1 rfl ?_
  refine v_vi hC (rest := []) m_x e_x rfl mi_X11_refusalOfWay ms_X11_refusalOfWay (c_refW m_x e_x m_now e_now m_wy e_wy pwy) mx_X11_refusalOfWay ml_X11_248 (by decide) rfl (cells1 := 0) (slots1 := 0) (by decide) (by decide) (Nat.le_of_ble_eq_true rfl) (Nat.le_of_ble_eq_true rfl) rfl (Nat.le_of_ble_eq_true rfl) dX11_room_2 (fun r_1 L_2 f_3 h_4 => ?_)
  obtain ⟨rfl, rfl, rfl⟩ := h_4
  refine v_istore_n hC dX11_room_5 (by decide) (lv' := [(2, .int (sp_k k)), (0, .ref x), (1, .int k)]) rfl ?_
  refine v_iload_n hC dX11_room_6 rfl ?_
  refine v_if_eq_f hC dX11_room_7 (tgt := 14) (by decide) (sp_k_ne k) ?_
  refine v_iload_n hC dX11_room_10 rfl ?_
  refine v_goto hC dX11_room_11 (tgt := 27) (by decide) ?_
  exact hR _ _ _ _ _ _ _ dX11_room_27 rfl (Nat.le_of_ble_eq_true rfl) (Nat.le_of_ble_eq_true rfl) rfl
set_option maxRecDepth 100000 in
set_option maxHeartbeats 4000000 in
theorem x_most {l : Launch} {E : Ez} {L : List Nat} {f : Nat → va_E} {cl he im la lo nl now np ns nw nwa pa sh sl t ta tr wa wt wy x : Nat} {gwy : Nat → Option Nat} {k : Int32} (m_x : x ∈ L) (e_x : f x = ob 11 [.ref t, .ref now, .ref im, .ref la, .ref sl, .ref np, .ref ns, .ref nw, .ref nwa, .ref nl, .ref he, .ref wa, .ref tr, .ref ta]) (m_now : now ∈ L) (e_now : f now = ob 0 [.ref pa, .ref sh, .ref wy, .ref wt, .ref lo, .ref cl]) (m_wy : wy ∈ L) (e_wy : f wy = aR E 7 6 gwy) (pwy : ∀ i : Nat, i < 6 → ∃ q : Nat, gwy i = some q ∧ q ∈ L ∧ f q = ob 10 [.int 0, .int 0, .int 1, .int 1, .int 1, .int 0, .int 0]) : CI l yX11_most cX11_most 3 .int 2 0 0 E [.ref x, .int k] L f (fun r L1 f1 => sp_k k = r) := by
  refine ci_of (by decide) (Nat.le_of_ble_eq_true rfl) (fun z hz hnm hC hR => ?_)
  have hC : Cx z E cX11_most RX11 3 2 0 0 := hC
  subst hz
  show V z E 3 0 0 L f 0 [(0, .ref x), (1, .int k)] []
  refine v_aload_n hC dX11_most_0 rfl ?_
  refine v_iload_n hC dX11_most_1 rfl ?_
  refine v_vi hC (rest := []) m_x e_x rfl mi_X11_refusalOfWay ms_X11_refusalOfWay (c_refW m_x e_x m_now e_now m_wy e_wy pwy) mx_X11_refusalOfWay ml_X11_248 (by decide) rfl (cells1 := 0) (slots1 := 0) (by decide) (by decide) (Nat.le_of_ble_eq_true rfl) (Nat.le_of_ble_eq_true rfl) rfl (Nat.le_of_ble_eq_true rfl) dX11_most_2 (fun r_1 L_2 f_3 h_4 => ?_)
  obtain ⟨rfl, rfl, rfl⟩ := h_4
  refine v_istore_n hC dX11_most_5 (by decide) (lv' := [(2, .int (sp_k k)), (0, .ref x), (1, .int k)]) rfl ?_
  refine v_iload_n hC dX11_most_6 rfl ?_
  refine v_if_eq_f hC dX11_most_7 (tgt := 14) (by decide) (sp_k_ne k) ?_
  refine v_iload_n hC dX11_most_10 rfl ?_
  refine v_goto hC dX11_most_11 (tgt := 35) (by decide) ?_
  exact hR _ _ _ _ _ _ _ dX11_most_35 rfl (Nat.le_of_ble_eq_true rfl) (Nat.le_of_ble_eq_true rfl) rfl
set_option maxRecDepth 100000 in
set_option maxHeartbeats 4000000 in
theorem a26_X4_isThere {l : Launch} {E : Ez} {L : List Nat} {f : Nat → va_E} {aa_0 aa_1 aa_2 : Nat} (m_aa_0 : aa_0 ∈ L) (e_aa_0 : f aa_0 = ob 4 [.ref aa_1, .ref aa_2, .int 0, .int 0, .int 0]) : CI l yX4_isThere cX4_isThere 1 .boolean 0 0 0 E [.ref aa_0] L f (fun r L1 f1 => 0 = r ∧ L = L1 ∧ f = f1) := by
  refine ci_of (by decide) (Nat.le_of_ble_eq_true rfl) (fun z hz hnm hC hR => ?_)
  have hC : Cx z E cX4_isThere RX4 1 0 0 0 := hC
  subst hz
  show V z E 1 0 0 L f 0 [(0, .ref aa_0)] []
  refine v_aload_n hC dX4_isThere_0 rfl ?_
  refine v_get hC fl_X4_18 m_aa_0 e_aa_0 rfl dX4_isThere_1 ?_
  refine v_if_le_t hC dX4_isThere_4 (tgt := 11) (by decide) (by decide) ?_
  refine v_iconst hC dX4_isThere_11 (v := 0) (by decide) ?_
  exact hR _ _ _ _ _ _ _ dX4_isThere_12 rfl (Nat.le_of_ble_eq_true rfl) (Nat.le_of_ble_eq_true rfl) ⟨rfl, rfl, rfl⟩
set_option maxRecDepth 100000 in
set_option maxHeartbeats 4000000 in
theorem x_knit {l : Launch} {E : Ez} {L : List Nat} {f : Nat → va_E} {cl he im la lo nl now np ns nw nwa pa paf pas sh sl t ta tr wa wt wy x : Nat} {c : Int32} {seed : Int32} (m_x : x ∈ L) (e_x : f x = ob 11 [.ref t, .ref now, .ref im, .ref la, .ref sl, .ref np, .ref ns, .ref nw, .ref nwa, .ref nl, .ref he, .ref wa, .ref tr, .ref ta]) (m_now : now ∈ L) (e_now : f now = ob 0 [.ref pa, .ref sh, .ref wy, .ref wt, .ref lo, .ref cl]) (m_pa : pa ∈ L) (e_pa : f pa = ob 4 [.ref pas, .ref paf, .int 0, .int 0, .int 0]) : CI l yX11_knit cX11_knit 3 .int 1 0 0 E [.ref x, .int c, .int seed] L f (fun r L1 f1 => sp_knit c seed = r) := by
  refine ci_of (by decide) (Nat.le_of_ble_eq_true rfl) (fun z hz hnm hC hR => ?_)
  have hC : Cx z E cX11_knit RX11 3 1 0 0 := hC
  subst hz
  show V z E 3 0 0 L f 0 [(0, .ref x), (1, .int c), (2, .int seed)] []
  refine v_iload_n hC dX11_knit_0 rfl ?_
  refine v_si hC (rest := []) mt_X11_isCloth (c_isCloth) mx_X11_isCloth ml_X11_181 (by decide) rfl (cells1 := 0) (slots1 := 0) (by decide) (by decide) (Nat.le_of_ble_eq_true rfl) (Nat.le_of_ble_eq_true rfl) rfl (Nat.le_of_ble_eq_true rfl) dX11_knit_1 (fun r_1 L_2 f_3 h_4 => ?_)
  obtain ⟨rfl, rfl, rfl⟩ := h_4
  refine v_if_eq hC dX11_knit_4 (tgt := 14) (by decide) (fun h_5 => ?_) (fun h_5 => ?_)
  · have h_6 := bI_0 h_5
    refine v_bipush hC dX11_knit_14 (v := (-2)) (by decide) ?_
    exact hR _ _ _ _ _ _ _ dX11_knit_16 rfl (Nat.le_of_ble_eq_true rfl) (Nat.le_of_ble_eq_true rfl) (by unfold sp_knit; simp only [Int32.lt_iff_toInt_lt, Int32.le_iff_toInt_le, Int32.reduceToInt, ← Int32.toInt_inj] at h_6 ⊢; first | omega | (split <;> first | rfl | (exfalso; omega)))
  · have h_7 := bI_1 h_5
    refine v_iload_n hC dX11_knit_7 rfl ?_
    refine v_si hC (rest := []) mt_X11_isSeed (c_isSeed) mx_X11_isSeed ml_X11_184 (by decide) rfl (cells1 := 0) (slots1 := 0) (by decide) (by decide) (Nat.le_of_ble_eq_true rfl) (Nat.le_of_ble_eq_true rfl) rfl (Nat.le_of_ble_eq_true rfl) dX11_knit_8 (fun r_8 L_9 f_10 h_11 => ?_)
    obtain ⟨rfl, rfl, rfl⟩ := h_11
    refine v_if_ne hC dX11_knit_11 (tgt := 17) (by decide) (fun h_12 => ?_) (fun h_12 => ?_)
    · have h_13 := bI_1 h_12
      refine v_aload_n hC dX11_knit_17 rfl ?_
      refine v_get hC fl_X11_19 m_x e_x rfl dX11_knit_18 ?_
      refine v_getN hC fn_X11_116 m_now e_now rfl dX11_knit_21 ?_
      refine v_vi hC (rest := []) m_pa e_pa rfl mi_X4_isThere ms_X4_isThere (a26_X4_isThere m_pa e_pa) mx_X4_isThere ml_X11_187 (by decide) rfl (cells1 := 0) (slots1 := 0) (by decide) (by decide) (Nat.le_of_ble_eq_true rfl) (Nat.le_of_ble_eq_true rfl) rfl (Nat.le_of_ble_eq_true rfl) dX11_knit_24 (fun r_14 L_15 f_16 h_17 => ?_)
      obtain ⟨rfl, rfl, rfl⟩ := h_17
      refine v_if_ne_f hC dX11_knit_27 (tgt := 33) (by decide) (by decide) ?_
      refine v_bipush hC dX11_knit_30 (v := (-6)) (by decide) ?_
      exact hR _ _ _ _ _ _ _ dX11_knit_32 rfl (Nat.le_of_ble_eq_true rfl) (Nat.le_of_ble_eq_true rfl) (by unfold sp_knit; simp only [Int32.lt_iff_toInt_lt, Int32.le_iff_toInt_le, Int32.reduceToInt, ← Int32.toInt_inj] at h_7 h_13 ⊢; first | omega | (split <;> first | rfl | (exfalso; omega)))
    · have h_18 := bI_0 h_12
      refine v_bipush hC dX11_knit_14 (v := (-2)) (by decide) ?_
      exact hR _ _ _ _ _ _ _ dX11_knit_16 rfl (Nat.le_of_ble_eq_true rfl) (Nat.le_of_ble_eq_true rfl) (by unfold sp_knit; simp only [Int32.lt_iff_toInt_lt, Int32.le_iff_toInt_le, Int32.reduceToInt, ← Int32.toInt_inj] at h_7 h_18 ⊢; first | omega | (split <;> first | rfl | (exfalso; omega)))
set_option maxRecDepth 100000 in
set_option maxHeartbeats 4000000 in
theorem x_counts {l : Launch} {E : Ez} {L : List Nat} {f : Nat → va_E} {cl he im la lo nl now np ns nw nwa pa sh sl t ta tr wa wt wy x : Nat} {gcl : Nat → Option Nat} {c : Int32} {w : Int32} (m_x : x ∈ L) (e_x : f x = ob 11 [.ref t, .ref now, .ref im, .ref la, .ref sl, .ref np, .ref ns, .ref nw, .ref nwa, .ref nl, .ref he, .ref wa, .ref tr, .ref ta]) (m_now : now ∈ L) (e_now : f now = ob 0 [.ref pa, .ref sh, .ref wy, .ref wt, .ref lo, .ref cl]) (m_cl : cl ∈ L) (e_cl : f cl = aR E 5 4 gcl) (pcl : ∀ i : Nat, i < 4 → ∃ q s : Nat, gcl i = some q ∧ q ∈ L ∧ f q = ob 1 [.ref s, .int 0]) : CI l yX11_counts cX11_counts 3 .int 2 0 0 E [.ref x, .int c, .int w] L f (fun r L1 f1 => sp_counts c w = r) := by
  refine ci_of (by decide) (Nat.le_of_ble_eq_true rfl) (fun z hz hnm hC hR => ?_)
  have hC : Cx z E cX11_counts RX11 3 2 0 0 := hC
  subst hz
  show V z E 3 0 0 L f 0 [(0, .ref x), (1, .int c), (2, .int w)] []
  refine v_iload_n hC dX11_counts_0 rfl ?_
  refine v_si hC (rest := []) mt_X11_isCloth (c_isCloth) mx_X11_isCloth ml_X11_181 (by decide) rfl (cells1 := 0) (slots1 := 0) (by decide) (by decide) (Nat.le_of_ble_eq_true rfl) (Nat.le_of_ble_eq_true rfl) rfl (Nat.le_of_ble_eq_true rfl) dX11_counts_1 (fun r_1 L_2 f_3 h_4 => ?_)
  obtain ⟨rfl, rfl, rfl⟩ := h_4
  refine v_if_eq hC dX11_counts_4 (tgt := 17) (by decide) (fun h_5 => ?_) (fun h_5 => ?_)
  · have h_6 := bI_0 h_5
    refine v_bipush hC dX11_counts_17 (v := (-2)) (by decide) ?_
    exact hR _ _ _ _ _ _ _ dX11_counts_19 rfl (Nat.le_of_ble_eq_true rfl) (Nat.le_of_ble_eq_true rfl) (by unfold sp_counts; simp only [Int32.lt_iff_toInt_lt, Int32.le_iff_toInt_le, Int32.reduceToInt, ← Int32.toInt_inj] at h_6 ⊢; first | omega | (split <;> first | rfl | (exfalso; omega)))
  · have h_7 := bI_1 h_5
    refine v_iload_n hC dX11_counts_7 rfl ?_
    refine v_if_lt hC dX11_counts_8 (tgt := 17) (by decide) (fun h_8 => ?_) (fun h_8 => ?_)
    · refine v_bipush hC dX11_counts_17 (v := (-2)) (by decide) ?_
      exact hR _ _ _ _ _ _ _ dX11_counts_19 rfl (Nat.le_of_ble_eq_true rfl) (Nat.le_of_ble_eq_true rfl) (by unfold sp_counts; simp only [Int32.lt_iff_toInt_lt, Int32.le_iff_toInt_le, Int32.reduceToInt, ← Int32.toInt_inj] at h_7 h_8 ⊢; first | omega | (split <;> first | rfl | (exfalso; omega)))
    · refine v_iload_n hC dX11_counts_11 rfl ?_
      refine v_bipush hC dX11_counts_12 (v := 8) (by decide) ?_
      refine v_icmp_lt hC dX11_counts_14 (tgt := 20) (by decide) (fun h_9 => ?_) (fun h_9 => ?_)
      · refine v_aload_n hC dX11_counts_20 rfl ?_
        refine v_iload_n hC dX11_counts_21 rfl ?_
        refine v_vi hC (rest := []) m_x e_x rfl mi_X11_hasCloth ms_X11_hasCloth (c_hasCloth m_x e_x m_now e_now m_cl e_cl pcl) mx_X11_hasCloth ml_X11_239 (by decide) rfl (cells1 := 0) (slots1 := 0) (by decide) (by decide) (Nat.le_of_ble_eq_true rfl) (Nat.le_of_ble_eq_true rfl) rfl (Nat.le_of_ble_eq_true rfl) dX11_counts_22 (fun r_10 L_11 f_12 h_13 => ?_)
        obtain ⟨rfl, rfl, rfl⟩ := h_13
        refine v_if_ne_f hC dX11_counts_25 (tgt := 31) (by decide) (by decide) ?_
        refine v_bipush hC dX11_counts_28 (v := (-6)) (by decide) ?_
        exact hR _ _ _ _ _ _ _ dX11_counts_30 rfl (Nat.le_of_ble_eq_true rfl) (Nat.le_of_ble_eq_true rfl) (by unfold sp_counts; simp only [Int32.lt_iff_toInt_lt, Int32.le_iff_toInt_le, Int32.reduceToInt, ← Int32.toInt_inj] at h_7 h_8 h_9 ⊢; first | omega | (split <;> first | rfl | (exfalso; omega)))
      · refine v_bipush hC dX11_counts_17 (v := (-2)) (by decide) ?_
        exact hR _ _ _ _ _ _ _ dX11_counts_19 rfl (Nat.le_of_ble_eq_true rfl) (Nat.le_of_ble_eq_true rfl) (by unfold sp_counts; simp only [Int32.lt_iff_toInt_lt, Int32.le_iff_toInt_le, Int32.reduceToInt, ← Int32.toInt_inj] at h_7 h_8 h_9 ⊢; first | omega | (split <;> first | rfl | (exfalso; omega)))
set_option maxRecDepth 100000 in
set_option maxHeartbeats 4000000 in
theorem x_odds {l : Launch} {E : Ez} {L : List Nat} {f : Nat → va_E} {cl he im la lo nl now np ns nw nwa pa paf pas sh sl t ta tr wa wt wy x : Nat} {seed : Int32} {n : Int32} (m_x : x ∈ L) (e_x : f x = ob 11 [.ref t, .ref now, .ref im, .ref la, .ref sl, .ref np, .ref ns, .ref nw, .ref nwa, .ref nl, .ref he, .ref wa, .ref tr, .ref ta]) (m_now : now ∈ L) (e_now : f now = ob 0 [.ref pa, .ref sh, .ref wy, .ref wt, .ref lo, .ref cl]) (m_pa : pa ∈ L) (e_pa : f pa = ob 4 [.ref pas, .ref paf, .int 0, .int 0, .int 0]) : CI l yX11_odds cX11_odds 5 .int 1 0 0 E [.ref x, .int seed, .int n] L f (fun r L1 f1 => sp_odds seed n = r) := by
  refine ci_of (by decide) (Nat.le_of_ble_eq_true rfl) (fun z hz hnm hC hR => ?_)
  have hC : Cx z E cX11_odds RX11 5 1 0 0 := hC
  subst hz
  show V z E 5 0 0 L f 0 [(0, .ref x), (1, .int seed), (2, .int n)] []
  refine v_iload_n hC dX11_odds_0 rfl ?_
  refine v_si hC (rest := []) mt_X11_isSeed (c_isSeed) mx_X11_isSeed ml_X11_184 (by decide) rfl (cells1 := 0) (slots1 := 0) (by decide) (by decide) (Nat.le_of_ble_eq_true rfl) (Nat.le_of_ble_eq_true rfl) rfl (Nat.le_of_ble_eq_true rfl) dX11_odds_1 (fun r_1 L_2 f_3 h_4 => ?_)
  obtain ⟨rfl, rfl, rfl⟩ := h_4
  refine v_if_eq hC dX11_odds_4 (tgt := 14) (by decide) (fun h_5 => ?_) (fun h_5 => ?_)
  · have h_6 := bI_0 h_5
    refine v_bipush hC dX11_odds_14 (v := (-2)) (by decide) ?_
    exact hR _ _ _ _ _ _ _ dX11_odds_16 rfl (Nat.le_of_ble_eq_true rfl) (Nat.le_of_ble_eq_true rfl) (by unfold sp_odds; simp only [Int32.lt_iff_toInt_lt, Int32.le_iff_toInt_le, Int32.reduceToInt, ← Int32.toInt_inj] at h_6 ⊢; first | omega | (split <;> first | rfl | (exfalso; omega)))
  · have h_7 := bI_1 h_5
    refine v_iload_n hC dX11_odds_7 rfl ?_
    refine v_si hC (rest := []) mt_X11_isManyKnitted (c_isMany) mx_X11_isManyKnitted ml_X11_276 (by decide) rfl (cells1 := 0) (slots1 := 0) (by decide) (by decide) (Nat.le_of_ble_eq_true rfl) (Nat.le_of_ble_eq_true rfl) rfl (Nat.le_of_ble_eq_true rfl) dX11_odds_8 (fun r_8 L_9 f_10 h_11 => ?_)
    obtain ⟨rfl, rfl, rfl⟩ := h_11
    refine v_if_ne hC dX11_odds_11 (tgt := 17) (by decide) (fun h_12 => ?_) (fun h_12 => ?_)
    · have h_13 := bI_1 h_12
      refine v_aload_n hC dX11_odds_17 rfl ?_
      refine v_get hC fl_X11_19 m_x e_x rfl dX11_odds_18 ?_
      refine v_getN hC fn_X11_116 m_now e_now rfl dX11_odds_21 ?_
      refine v_vi hC (rest := []) m_pa e_pa rfl mi_X4_isThere ms_X4_isThere (a26_X4_isThere m_pa e_pa) mx_X4_isThere ml_X11_187 (by decide) rfl (cells1 := 0) (slots1 := 0) (by decide) (by decide) (Nat.le_of_ble_eq_true rfl) (Nat.le_of_ble_eq_true rfl) rfl (Nat.le_of_ble_eq_true rfl) dX11_odds_24 (fun r_14 L_15 f_16 h_17 => ?_)
      obtain ⟨rfl, rfl, rfl⟩ := h_17
      refine v_if_ne_f hC dX11_odds_27 (tgt := 33) (by decide) (by decide) ?_
      refine v_bipush hC dX11_odds_30 (v := (-6)) (by decide) ?_
      exact hR _ _ _ _ _ _ _ dX11_odds_32 rfl (Nat.le_of_ble_eq_true rfl) (Nat.le_of_ble_eq_true rfl) (by unfold sp_odds; simp only [Int32.lt_iff_toInt_lt, Int32.le_iff_toInt_le, Int32.reduceToInt, ← Int32.toInt_inj] at h_7 h_13 ⊢; first | omega | (split <;> first | rfl | (exfalso; omega)))
    · have h_18 := bI_0 h_12
      refine v_bipush hC dX11_odds_14 (v := (-2)) (by decide) ?_
      exact hR _ _ _ _ _ _ _ dX11_odds_16 rfl (Nat.le_of_ble_eq_true rfl) (Nat.le_of_ble_eq_true rfl) (by unfold sp_odds; simp only [Int32.lt_iff_toInt_lt, Int32.le_iff_toInt_le, Int32.reduceToInt, ← Int32.toInt_inj] at h_7 h_18 ⊢; first | omega | (split <;> first | rfl | (exfalso; omega)))
