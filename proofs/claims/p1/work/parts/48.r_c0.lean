set_option maxRecDepth 100000 in
theorem law_tail {z : Cz} {E : Ez} {b x m : Nat} {xs : Nat → Int32} (hC : Cx z E cL_law RL 4 14 600000 7302250) (hX : va_X b 6 xs (zs z) (zs z).heap) (hbl : b < (zs z).heap.size) (hbA : ¬ zA z b) (hR : ∀ (pc : Nat) (L : List Nat) (f : Nat → va_E) (lv : List (Nat × Value)) (c s : Nat), decode cL_law pc = .ok (.ireturn, 1) → c ≤ 600000 → s ≤ 7302250 → V z E 4 c s L f pc lv [.int 1]) (L : List Nat) (f : Nat → va_E) (c s : Nat) (hc : c ≤ 600000) (hs : s ≤ 7302250) : V z E 4 c s L f 1468 [(3, .int 0), (2, .ref m), (1, .ref x), (0, .ref b)] [] := by
  refine v_iinc hC dL_law_1468 (k := 0) rfl (v := 6) (by decide) (by decide) (lv' := [(3, .int 6), (2, .ref m), (1, .ref x), (0, .ref b)]) rfl ?_
  refine v_goto hC dL_law_1471 (tgt := 18) (by decide) ?_
  refine v_iload_n hC dL_law_18 rfl ?_
  refine v_aload_n hC dL_law_19 rfl ?_
  refine v_slen hC hX hbl hbA (v := 6) rfl dL_law_20 ?_
  refine v_bipush hC dL_law_21 (v := 6) (by decide) ?_
  refine v_isub hC dL_law_23 (v := 0) (by decide) ?_
  refine v_icmp_gt_t hC dL_law_24 (tgt := 1474) (by decide) (by decide) ?_
  refine v_iconst hC dL_law_1474 (v := 1) (by decide) ?_
  exact hR _ _ _ _ _ _ dL_law_1475 hc hs
set_option maxRecDepth 100000 in
set_option maxHeartbeats 4000000 in
theorem law_six {z : Cz} {E : Ez} {b x m : Nat} {xs : Nat → Int32} (hC : Cx z E cL_law RL 4 14 600000 7302250) (hX : va_X b 6 xs (zs z) (zs z).heap) (hbl : b < (zs z).heap.size) (hbA : ¬ zA z b) (hT : ∀ (L : List Nat) (f : Nat → va_E) (c s : Nat), c ≤ 600000 → s ≤ 7302250 → V z E 4 c s L f 1468 [(3, .int 0), (2, .ref m), (1, .ref x), (0, .ref b)] []) {Lx Lm : List Nat} {f : Nat → va_E} (hFX : FX E x Lx f) (hFM : FM E m Lm f) : V z E 4 85 18286 (Lx ++ Lm) f 18 [(3, .int 0), (2, .ref m), (1, .ref x), (0, .ref b)] [] := by
  refine v_iload_n hC dL_law_18 rfl ?_
  refine v_aload_n hC dL_law_19 rfl ?_
  refine v_slen hC hX hbl hbA (v := 6) rfl dL_law_20 ?_
  refine v_bipush hC dL_law_21 (v := 6) (by decide) ?_
  refine v_isub hC dL_law_23 (v := 0) (by decide) ?_
  refine v_icmp_gt_f hC dL_law_24 (tgt := 1474) (by decide) (by decide) ?_
  refine v_aload_n hC dL_law_27 rfl ?_
  refine v_iload_n hC dL_law_28 rfl ?_
  refine v_sld hC hX hbl hbA (by unfold vp_in; decide) (v := xs 0) rfl dL_law_29 ?_
  refine v_bipush hC dL_law_30 (v := 63) (by decide) ?_
  refine v_iand hC dL_law_32 rfl ?_
  by_cases h_1 : ((xs 0) &&& 63) = 0
  · refine v_tableIn hC dL_law_33 (off := 175) (tgt := 208) (by rw [h_1]; decide) (by rw [h_1]; decide) (by rw [h_1]; rfl) (by decide) ?_
    exact lc_0 hC hX hbl hbA hT hFX hFM
  by_cases h_2 : ((xs 0) &&& 63) = 1
  · refine v_tableIn hC dL_law_33 (off := 238) (tgt := 271) (by rw [h_2]; decide) (by rw [h_2]; decide) (by rw [h_2]; rfl) (by decide) ?_
    exact lc_1 hC hX hbl hbA hT hFX hFM
  by_cases h_3 : ((xs 0) &&& 63) = 2
  · refine v_tableIn hC dL_law_33 (off := 261) (tgt := 294) (by rw [h_3]; decide) (by rw [h_3]; decide) (by rw [h_3]; rfl) (by decide) ?_
    exact lc_2 hC hX hbl hbA hT hFX hFM
  by_cases h_4 : ((xs 0) &&& 63) = 3
  · refine v_tableIn hC dL_law_33 (off := 274) (tgt := 307) (by rw [h_4]; decide) (by rw [h_4]; decide) (by rw [h_4]; rfl) (by decide) ?_
    exact lc_3 hC hX hbl hbA hT hFX hFM
  by_cases h_5 : ((xs 0) &&& 63) = 4
  · refine v_tableIn hC dL_law_33 (off := 287) (tgt := 320) (by rw [h_5]; decide) (by rw [h_5]; decide) (by rw [h_5]; rfl) (by decide) ?_
    exact lc_4 hC hX hbl hbA hT hFX hFM
  by_cases h_6 : ((xs 0) &&& 63) = 5
  · refine v_tableIn hC dL_law_33 (off := 310) (tgt := 343) (by rw [h_6]; decide) (by rw [h_6]; decide) (by rw [h_6]; rfl) (by decide) ?_
    exact lc_5 hC hX hbl hbA hT hFX hFM
  by_cases h_7 : ((xs 0) &&& 63) = 6
  · refine v_tableIn hC dL_law_33 (off := 323) (tgt := 356) (by rw [h_7]; decide) (by rw [h_7]; decide) (by rw [h_7]; rfl) (by decide) ?_
    exact lc_6 hC hX hbl hbA hT hFX hFM
  by_cases h_8 : ((xs 0) &&& 63) = 7
  · refine v_tableIn hC dL_law_33 (off := 336) (tgt := 369) (by rw [h_8]; decide) (by rw [h_8]; decide) (by rw [h_8]; rfl) (by decide) ?_
    exact lc_7 hC hX hbl hbA hT hFX hFM
  by_cases h_9 : ((xs 0) &&& 63) = 8
  · refine v_tableIn hC dL_law_33 (off := 359) (tgt := 392) (by rw [h_9]; decide) (by rw [h_9]; decide) (by rw [h_9]; rfl) (by decide) ?_
    exact lc_8 hC hX hbl hbA hT hFX hFM
  by_cases h_10 : ((xs 0) &&& 63) = 9
  · refine v_tableIn hC dL_law_33 (off := 392) (tgt := 425) (by rw [h_10]; decide) (by rw [h_10]; decide) (by rw [h_10]; rfl) (by decide) ?_
    exact lc_9 hC hX hbl hbA hT hFX hFM
  by_cases h_11 : ((xs 0) &&& 63) = 10
  · refine v_tableIn hC dL_law_33 (off := 425) (tgt := 458) (by rw [h_11]; decide) (by rw [h_11]; decide) (by rw [h_11]; rfl) (by decide) ?_
    exact lc_10 hC hX hbl hbA hT hFX hFM
  by_cases h_12 : ((xs 0) &&& 63) = 11
  · refine v_tableIn hC dL_law_33 (off := 458) (tgt := 491) (by rw [h_12]; decide) (by rw [h_12]; decide) (by rw [h_12]; rfl) (by decide) ?_
    exact lc_11 hC hX hbl hbA hT hFX hFM
  by_cases h_13 : ((xs 0) &&& 63) = 12
  · refine v_tableIn hC dL_law_33 (off := 481) (tgt := 514) (by rw [h_13]; decide) (by rw [h_13]; decide) (by rw [h_13]; rfl) (by decide) ?_
    exact lc_12 hC hX hbl hbA hT hFX hFM
  by_cases h_14 : ((xs 0) &&& 63) = 13
  · refine v_tableIn hC dL_law_33 (off := 524) (tgt := 557) (by rw [h_14]; decide) (by rw [h_14]; decide) (by rw [h_14]; rfl) (by decide) ?_
    exact lc_13 hC hX hbl hbA hT hFX hFM
  by_cases h_15 : ((xs 0) &&& 63) = 14
  · refine v_tableIn hC dL_law_33 (off := 557) (tgt := 590) (by rw [h_15]; decide) (by rw [h_15]; decide) (by rw [h_15]; rfl) (by decide) ?_
    exact lc_14 hC hX hbl hbA hT hFX hFM
  by_cases h_16 : ((xs 0) &&& 63) = 15
  · refine v_tableIn hC dL_law_33 (off := 580) (tgt := 613) (by rw [h_16]; decide) (by rw [h_16]; decide) (by rw [h_16]; rfl) (by decide) ?_
    exact lc_15 hC hX hbl hbA hT hFX hFM
  by_cases h_17 : ((xs 0) &&& 63) = 16
  · refine v_tableIn hC dL_law_33 (off := 623) (tgt := 656) (by rw [h_17]; decide) (by rw [h_17]; decide) (by rw [h_17]; rfl) (by decide) ?_
    exact lc_16 hC hX hbl hbA hT hFX hFM
  by_cases h_18 : ((xs 0) &&& 63) = 17
  · refine v_tableIn hC dL_law_33 (off := 656) (tgt := 689) (by rw [h_18]; decide) (by rw [h_18]; decide) (by rw [h_18]; rfl) (by decide) ?_
    exact lc_17 hC hX hbl hbA hT hFX hFM
  by_cases h_19 : ((xs 0) &&& 63) = 18
  · refine v_tableIn hC dL_law_33 (off := 689) (tgt := 722) (by rw [h_19]; decide) (by rw [h_19]; decide) (by rw [h_19]; rfl) (by decide) ?_
    exact lc_18 hC hX hbl hbA hT hFX hFM
  by_cases h_20 : ((xs 0) &&& 63) = 19
  · refine v_tableIn hC dL_law_33 (off := 712) (tgt := 745) (by rw [h_20]; decide) (by rw [h_20]; decide) (by rw [h_20]; rfl) (by decide) ?_
    exact lc_19 hC hX hbl hbA hT hFX hFM
  by_cases h_21 : ((xs 0) &&& 63) = 20
  · refine v_tableIn hC dL_law_33 (off := 735) (tgt := 768) (by rw [h_21]; decide) (by rw [h_21]; decide) (by rw [h_21]; rfl) (by decide) ?_
    exact lc_20 hC hX hbl hbA hT hFX hFM
  by_cases h_22 : ((xs 0) &&& 63) = 21
  · refine v_tableIn hC dL_law_33 (off := 768) (tgt := 801) (by rw [h_22]; decide) (by rw [h_22]; decide) (by rw [h_22]; rfl) (by decide) ?_
    exact lc_21 hC hX hbl hbA hT hFX hFM
  by_cases h_23 : ((xs 0) &&& 63) = 22
  · refine v_tableIn hC dL_law_33 (off := 791) (tgt := 824) (by rw [h_23]; decide) (by rw [h_23]; decide) (by rw [h_23]; rfl) (by decide) ?_
    exact lc_22 hC hX hbl hbA hT hFX hFM
  by_cases h_24 : ((xs 0) &&& 63) = 23
  · refine v_tableIn hC dL_law_33 (off := 824) (tgt := 857) (by rw [h_24]; decide) (by rw [h_24]; decide) (by rw [h_24]; rfl) (by decide) ?_
    exact lc_23 hC hX hbl hbA hT hFX hFM
  by_cases h_25 : ((xs 0) &&& 63) = 24
  · refine v_tableIn hC dL_law_33 (off := 867) (tgt := 900) (by rw [h_25]; decide) (by rw [h_25]; decide) (by rw [h_25]; rfl) (by decide) ?_
    exact lc_24 hC hX hbl hbA hT hFX hFM
  by_cases h_26 : ((xs 0) &&& 63) = 25
  · refine v_tableIn hC dL_law_33 (off := 890) (tgt := 923) (by rw [h_26]; decide) (by rw [h_26]; decide) (by rw [h_26]; rfl) (by decide) ?_
    exact lc_25 hC hX hbl hbA hT hFX hFM
  by_cases h_27 : ((xs 0) &&& 63) = 26
  · refine v_tableIn hC dL_law_33 (off := 913) (tgt := 946) (by rw [h_27]; decide) (by rw [h_27]; decide) (by rw [h_27]; rfl) (by decide) ?_
    exact lc_26 hC hX hbl hbA hT hFX hFM
  by_cases h_28 : ((xs 0) &&& 63) = 27
  · refine v_tableIn hC dL_law_33 (off := 946) (tgt := 979) (by rw [h_28]; decide) (by rw [h_28]; decide) (by rw [h_28]; rfl) (by decide) ?_
    exact lc_27 hC hX hbl hbA hT hFX hFM
  by_cases h_29 : ((xs 0) &&& 63) = 28
  · refine v_tableIn hC dL_law_33 (off := 989) (tgt := 1022) (by rw [h_29]; decide) (by rw [h_29]; decide) (by rw [h_29]; rfl) (by decide) ?_
    exact lc_28 hC hX hbl hbA hT hFX hFM
  by_cases h_30 : ((xs 0) &&& 63) = 29
  · refine v_tableIn hC dL_law_33 (off := 1022) (tgt := 1055) (by rw [h_30]; decide) (by rw [h_30]; decide) (by rw [h_30]; rfl) (by decide) ?_
    exact lc_29 hC hX hbl hbA hT hFX hFM
  by_cases h_31 : ((xs 0) &&& 63) = 30
  · refine v_tableIn hC dL_law_33 (off := 1055) (tgt := 1088) (by rw [h_31]; decide) (by rw [h_31]; decide) (by rw [h_31]; rfl) (by decide) ?_
    exact lc_30 hC hX hbl hbA hT hFX hFM
  by_cases h_32 : ((xs 0) &&& 63) = 31
  · refine v_tableIn hC dL_law_33 (off := 1088) (tgt := 1121) (by rw [h_32]; decide) (by rw [h_32]; decide) (by rw [h_32]; rfl) (by decide) ?_
    exact lc_31 hC hX hbl hbA hT hFX hFM
  by_cases h_33 : ((xs 0) &&& 63) = 32
  · refine v_tableIn hC dL_law_33 (off := 1131) (tgt := 1164) (by rw [h_33]; decide) (by rw [h_33]; decide) (by rw [h_33]; rfl) (by decide) ?_
    exact lc_32 hC hX hbl hbA hT hFX hFM
  by_cases h_34 : ((xs 0) &&& 63) = 33
  · refine v_tableIn hC dL_law_33 (off := 1154) (tgt := 1187) (by rw [h_34]; decide) (by rw [h_34]; decide) (by rw [h_34]; rfl) (by decide) ?_
    exact lc_33 hC hX hbl hbA hT hFX hFM
  by_cases h_35 : ((xs 0) &&& 63) = 34
  · refine v_tableIn hC dL_law_33 (off := 1177) (tgt := 1210) (by rw [h_35]; decide) (by rw [h_35]; decide) (by rw [h_35]; rfl) (by decide) ?_
    exact lc_34 hC hX hbl hbA hT hFX hFM
  by_cases h_36 : ((xs 0) &&& 63) = 35
  · refine v_tableIn hC dL_law_33 (off := 1200) (tgt := 1233) (by rw [h_36]; decide) (by rw [h_36]; decide) (by rw [h_36]; rfl) (by decide) ?_
    exact lc_35 hC hX hbl hbA hT hFX hFM
  by_cases h_37 : ((xs 0) &&& 63) = 36
  · refine v_tableIn hC dL_law_33 (off := 1223) (tgt := 1256) (by rw [h_37]; decide) (by rw [h_37]; decide) (by rw [h_37]; rfl) (by decide) ?_
    exact lc_36 hC hX hbl hbA hT hFX hFM
  by_cases h_38 : ((xs 0) &&& 63) = 37
  · refine v_tableIn hC dL_law_33 (off := 1266) (tgt := 1299) (by rw [h_38]; decide) (by rw [h_38]; decide) (by rw [h_38]; rfl) (by decide) ?_
    exact lc_37 hC hX hbl hbA hT hFX hFM
  by_cases h_39 : ((xs 0) &&& 63) = 38
  · refine v_tableIn hC dL_law_33 (off := 1339) (tgt := 1372) (by rw [h_39]; decide) (by rw [h_39]; decide) (by rw [h_39]; rfl) (by decide) ?_
    exact lc_38 hC hX hbl hbA hT hFX hFM
  by_cases h_40 : ((xs 0) &&& 63) = 39
  · refine v_tableIn hC dL_law_33 (off := 1402) (tgt := 1435) (by rw [h_40]; decide) (by rw [h_40]; decide) (by rw [h_40]; rfl) (by decide) ?_
    exact lc_39 hC hX hbl hbA hT hFX hFM
  refine v_tableOut hC dL_law_33 (tgt := 1468) (by simp only [Int32.lt_iff_toInt_lt, Int32.le_iff_toInt_le, Int32.reduceToInt, ← Int32.toInt_inj] at h_1 h_2 h_3 h_4 h_5 h_6 h_7 h_8 h_9 h_10 h_11 h_12 h_13 h_14 h_15 h_16 h_17 h_18 h_19 h_20 h_21 h_22 h_23 h_24 h_25 h_26 h_27 h_28 h_29 h_30 h_31 h_32 h_33 h_34 h_35 h_36 h_37 h_38 h_39 h_40 ⊢; omega) (by decide) ?_
  exact hT _ _ _ _ (Nat.le_of_ble_eq_true rfl) (Nat.le_of_ble_eq_true rfl)
set_option maxRecDepth 100000 in
set_option maxHeartbeats 4000000 in
theorem law_start {z : Cz} {E : Ez} {b : Nat} (hC : Cx z E cL_law RL 4 14 600000 7302250) (f : Nat → va_E) (hK : ∀ (x m : Nat) (Lx Lm : List Nat) (f : Nat → va_E), FX E x Lx f → FM E m Lm f → V z E 4 85 18286 (Lx ++ Lm) f 18 [(3, .int 0), (2, .ref m), (1, .ref x), (0, .ref b)] []) : V z E 4 0 0 [] f 0 [(0, .ref b)] [] := by
  refine v_new hC (ci := 11) (fs := [.null, .null, .null, .null, .null, .null, .null, .null, .null, .null, .null, .null, .null, .null]) rfl inX11 tyX11_ok kl_L_7 in_X11 ii_X11 (fun j hj => by rcases (show j = 0 ∨ j = 1 ∨ j = 2 ∨ j = 3 ∨ j = 4 ∨ j = 5 ∨ j = 6 ∨ j = 7 ∨ j = 8 ∨ j = 9 ∨ j = 10 ∨ j = 11 ∨ j = 12 ∨ j = 13 by omega) with rfl | rfl | rfl | rfl | rfl | rfl | rfl | rfl | rfl | rfl | rfl | rfl | rfl | rfl <;> rfl) (Nat.le_of_ble_eq_true rfl) (Nat.le_of_ble_eq_true rfl) dL_law_0 (fun q0 f1 hq0 h1 h2 => ?_)
  refine v_widen (k := 1) (n := 14) (Nat.le_of_ble_eq_true rfl) (Nat.le_of_ble_eq_true rfl) ?_
  refine v_dup hC dL_law_3 rfl ?_
  refine v_xv hC (rest := [.ref q0]) rfl mi_X11_init (k_X11 (List.mem_append_right _ List.mem_cons_self) h1) mx_X11_init ml_L_9 (by decide) rfl (cells1 := 66) (slots1 := 5129) (by decide) (by decide) (Nat.le_of_ble_eq_true rfl) (Nat.le_of_ble_eq_true rfl) rfl (Nat.le_of_ble_eq_true rfl) dL_law_4 (fun L1 f2 hp => ?_)
  obtain ⟨-, hFX⟩ := hp
  refine v_astore_n hC dL_law_7 (by decide) (lv' := [(1, .ref q0), (0, .ref b)]) rfl ?_
  refine v_new hC (ci := 12) (fs := [.int 0, .null, .null, .null, .null, .int 0, .null, .int 0, .int 0, .int 0, .int 0, .int 0, .int 0, .int 0, .null, .null, .null, .int 0, .null, .null, .int 0, .null, .null, .null, .null, .null, .null, .null, .null]) rfl inX12 tyX12_ok kl_L_10 in_X12 ii_X12 (fun j hj => by rcases (show j = 0 ∨ j = 1 ∨ j = 2 ∨ j = 3 ∨ j = 4 ∨ j = 5 ∨ j = 6 ∨ j = 7 ∨ j = 8 ∨ j = 9 ∨ j = 10 ∨ j = 11 ∨ j = 12 ∨ j = 13 ∨ j = 14 ∨ j = 15 ∨ j = 16 ∨ j = 17 ∨ j = 18 ∨ j = 19 ∨ j = 20 ∨ j = 21 ∨ j = 22 ∨ j = 23 ∨ j = 24 ∨ j = 25 ∨ j = 26 ∨ j = 27 ∨ j = 28 by omega) with rfl | rfl | rfl | rfl | rfl | rfl | rfl | rfl | rfl | rfl | rfl | rfl | rfl | rfl | rfl | rfl | rfl | rfl | rfl | rfl | rfl | rfl | rfl | rfl | rfl | rfl | rfl | rfl | rfl <;> rfl) (Nat.le_of_ble_eq_true rfl) (Nat.le_of_ble_eq_true rfl) dL_law_8 (fun q1 f3 hq1 h3 h4 => ?_)
  refine v_widen (k := 67) (n := 5158) (Nat.le_of_ble_eq_true rfl) (Nat.le_of_ble_eq_true rfl) ?_
  refine v_dup hC dL_law_11 rfl ?_
  refine v_xvF hC (X := L1) (Y := [q1]) (rest := [.ref q1]) rfl mi_X12_init (k_X12 List.mem_cons_self h3) mx_X12_init ml_L_12 (by decide) rfl (cells1 := 85) (slots1 := 18286) (by decide) (by decide) (Nat.le_of_ble_eq_true rfl) (Nat.le_of_ble_eq_true rfl) rfl (Nat.le_of_ble_eq_true rfl) dL_law_12 (fun Lm g f4 hp g1 g2 => ?_)
  obtain ⟨-, hFM⟩ := hp
  refine v_astore_n hC dL_law_15 (by decide) (lv' := [(2, .ref q1), (1, .ref q0), (0, .ref b)]) rfl ?_
  refine v_iconst hC dL_law_16 (v := 0) (by decide) ?_
  refine v_istore_n hC dL_law_17 (by decide) (lv' := [(3, .int 0), (2, .ref q1), (1, .ref q0), (0, .ref b)]) rfl ?_
  exact hK q0 q1 L1 Lm f4 (hFX.congr (fun a ha => (g1 a ha).trans (h4 a (ne_in ha hq1)))) (hFM.congr g2)
set_option maxRecDepth 100000 in
theorem law_less {z : Cz} {E : Ez} {b x m : Nat} {n : Nat} {xs : Nat → Int32} (hC : Cx z E cL_law RL 4 14 600000 7302250) (hX : va_X b n xs (zs z) (zs z).heap) (hbl : b < (zs z).heap.size) (hbA : ¬ zA z b) (hn : n < 6) (hR : ∀ (pc : Nat) (L : List Nat) (f : Nat → va_E) (lv : List (Nat × Value)) (c s : Nat), decode cL_law pc = .ok (.ireturn, 1) → c ≤ 600000 → s ≤ 7302250 → V z E 4 c s L f pc lv [.int 1]) (L : List Nat) (f : Nat → va_E) : V z E 4 85 18286 L f 18 [(3, .int 0), (2, .ref m), (1, .ref x), (0, .ref b)] [] := by
  refine v_iload_n hC dL_law_18 rfl ?_
  refine v_aload_n hC dL_law_19 rfl ?_
  refine v_slen hC hX hbl hbA (v := nI n) rfl dL_law_20 ?_
  refine v_bipush hC dL_law_21 (v := 6) (by decide) ?_
  refine v_isub hC dL_law_23 rfl ?_
  refine v_icmp_gt_t hC dL_law_24 (tgt := 1474) (by decide) (pk_sneg (a := n) (b := 6) (by decide) hn) ?_
  refine v_iconst hC dL_law_1474 (v := 1) (by decide) ?_
  exact hR _ _ _ _ _ _ dL_law_1475 (by decide) (by decide)
