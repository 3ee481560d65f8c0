set_option maxRecDepth 100000 in
set_option maxHeartbeats 4000000 in
theorem law_six {z : Cz} {E : Ez} {b x m N : Nat} {xs : Nat → Int32} (hC : Cx z E cL_law RL 4 14 600000 7302250) (hX : va_X b N xs (zs z) (zs z).heap) (hbl : b < (zs z).heap.size) (hbA : ¬ zA z b) (hN : N ≤ 3072) {i : Int32} {c s : Nat} (hi : 0 ≤ i.toInt ∧ i.toInt + 6 ≤ (N : Int)) (hc : c + 27 ≤ 600000) (hs : s + 1953 ≤ 7302250) (hT : ∀ (Lx Lm : List Nat) (f : Nat → va_E), LX E x Lx f → LM E m Lm f → RLn f x m → V z E 4 (c + 27) (s + 1953) (Lx ++ Lm) f 1468 [(3, .int i), (2, .ref m), (1, .ref x), (0, .ref b)] []) {Lx Lm : List Nat} {f : Nat → va_E} (hLX : LX E x Lx f) (hLM : LM E m Lm f) (hRL : RLn f x m) : V z E 4 c s (Lx ++ Lm) f 27 [(3, .int i), (2, .ref m), (1, .ref x), (0, .ref b)] [] := by
  refine v_aload_n hC dL_law_27 rfl ?_
  refine v_iload_n hC dL_law_28 rfl ?_
  obtain ⟨v_1, h_1⟩ : ∃ v9 : Int32, xs (i : Int32).toNatClampNeg = v9 := ⟨_, rfl⟩
  refine v_sld hC hX hbl hbA (vp_in_iff.mpr (by omega)) h_1 dL_law_29 ?_
  refine v_bipush hC dL_law_30 (v := 63) (by decide) ?_
  obtain ⟨v_2, h_2⟩ : ∃ v9 : Int32, v_1 &&& (63 : Int32) = v9 := ⟨_, rfl⟩
  refine v_iand hC dL_law_32 h_2 ?_
  by_cases h9_0 : v_2 = 0
  · refine v_tableIn hC dL_law_33 (off := 175) (tgt := 208) (by rw [h9_0]; decide) (by rw [h9_0]; decide) (by rw [h9_0]; rfl) (by decide) ?_
    exact lc_0 hC hX hbl hbA hN hi hc hs hT hLX hLM hRL
  by_cases h9_1 : v_2 = 1
  · refine v_tableIn hC dL_law_33 (off := 238) (tgt := 271) (by rw [h9_1]; decide) (by rw [h9_1]; decide) (by rw [h9_1]; rfl) (by decide) ?_
    exact lc_1 hC hX hbl hbA hN hi hc hs hT hLX hLM hRL
  by_cases h9_2 : v_2 = 2
  · refine v_tableIn hC dL_law_33 (off := 261) (tgt := 294) (by rw [h9_2]; decide) (by rw [h9_2]; decide) (by rw [h9_2]; rfl) (by decide) ?_
    exact lc_2 hC hX hbl hbA hN hi hc hs hT hLX hLM hRL
  by_cases h9_3 : v_2 = 3
  · refine v_tableIn hC dL_law_33 (off := 274) (tgt := 307) (by rw [h9_3]; decide) (by rw [h9_3]; decide) (by rw [h9_3]; rfl) (by decide) ?_
    exact lc_3 hC hX hbl hbA hN hi hc hs hT hLX hLM hRL
  by_cases h9_4 : v_2 = 4
  · refine v_tableIn hC dL_law_33 (off := 287) (tgt := 320) (by rw [h9_4]; decide) (by rw [h9_4]; decide) (by rw [h9_4]; rfl) (by decide) ?_
    exact lc_4 hC hX hbl hbA hN hi hc hs hT hLX hLM hRL
  by_cases h9_5 : v_2 = 5
  · refine v_tableIn hC dL_law_33 (off := 310) (tgt := 343) (by rw [h9_5]; decide) (by rw [h9_5]; decide) (by rw [h9_5]; rfl) (by decide) ?_
    exact lc_5 hC hX hbl hbA hN hi hc hs hT hLX hLM hRL
  by_cases h9_6 : v_2 = 6
  · refine v_tableIn hC dL_law_33 (off := 323) (tgt := 356) (by rw [h9_6]; decide) (by rw [h9_6]; decide) (by rw [h9_6]; rfl) (by decide) ?_
    exact lc_6 hC hX hbl hbA hN hi hc hs hT hLX hLM hRL
  by_cases h9_7 : v_2 = 7
  · refine v_tableIn hC dL_law_33 (off := 336) (tgt := 369) (by rw [h9_7]; decide) (by rw [h9_7]; decide) (by rw [h9_7]; rfl) (by decide) ?_
    exact lc_7 hC hX hbl hbA hN hi hc hs hT hLX hLM hRL
  by_cases h9_8 : v_2 = 8
  · refine v_tableIn hC dL_law_33 (off := 359) (tgt := 392) (by rw [h9_8]; decide) (by rw [h9_8]; decide) (by rw [h9_8]; rfl) (by decide) ?_
    exact lc_8 hC hX hbl hbA hN hi hc hs hT hLX hLM hRL
  by_cases h9_9 : v_2 = 9
  · refine v_tableIn hC dL_law_33 (off := 392) (tgt := 425) (by rw [h9_9]; decide) (by rw [h9_9]; decide) (by rw [h9_9]; rfl) (by decide) ?_
    exact lc_9 hC hX hbl hbA hN hi hc hs hT hLX hLM hRL
  by_cases h9_10 : v_2 = 10
  · refine v_tableIn hC dL_law_33 (off := 425) (tgt := 458) (by rw [h9_10]; decide) (by rw [h9_10]; decide) (by rw [h9_10]; rfl) (by decide) ?_
    exact lc_10 hC hX hbl hbA hN hi hc hs hT hLX hLM hRL
  by_cases h9_11 : v_2 = 11
  · refine v_tableIn hC dL_law_33 (off := 458) (tgt := 491) (by rw [h9_11]; decide) (by rw [h9_11]; decide) (by rw [h9_11]; rfl) (by decide) ?_
    exact lc_11 hC hX hbl hbA hN hi hc hs hT hLX hLM hRL
  by_cases h9_12 : v_2 = 12
  · refine v_tableIn hC dL_law_33 (off := 481) (tgt := 514) (by rw [h9_12]; decide) (by rw [h9_12]; decide) (by rw [h9_12]; rfl) (by decide) ?_
    exact lc_12 hC hX hbl hbA hN hi hc hs hT hLX hLM hRL
  by_cases h9_13 : v_2 = 13
  · refine v_tableIn hC dL_law_33 (off := 524) (tgt := 557) (by rw [h9_13]; decide) (by rw [h9_13]; decide) (by rw [h9_13]; rfl) (by decide) ?_
    exact lc_13 hC hX hbl hbA hN hi hc hs hT hLX hLM hRL
  by_cases h9_14 : v_2 = 14
  · refine v_tableIn hC dL_law_33 (off := 557) (tgt := 590) (by rw [h9_14]; decide) (by rw [h9_14]; decide) (by rw [h9_14]; rfl) (by decide) ?_
    exact lc_14 hC hX hbl hbA hN hi hc hs hT hLX hLM hRL
  by_cases h9_15 : v_2 = 15
  · refine v_tableIn hC dL_law_33 (off := 580) (tgt := 613) (by rw [h9_15]; decide) (by rw [h9_15]; decide) (by rw [h9_15]; rfl) (by decide) ?_
    exact lc_15 hC hX hbl hbA hN hi hc hs hT hLX hLM hRL
  by_cases h9_16 : v_2 = 16
  · refine v_tableIn hC dL_law_33 (off := 623) (tgt := 656) (by rw [h9_16]; decide) (by rw [h9_16]; decide) (by rw [h9_16]; rfl) (by decide) ?_
    exact lc_16 hC hX hbl hbA hN hi hc hs hT hLX hLM hRL
  by_cases h9_17 : v_2 = 17
  · refine v_tableIn hC dL_law_33 (off := 656) (tgt := 689) (by rw [h9_17]; decide) (by rw [h9_17]; decide) (by rw [h9_17]; rfl) (by decide) ?_
    exact lc_17 hC hX hbl hbA hN hi hc hs hT hLX hLM hRL
  by_cases h9_18 : v_2 = 18
  · refine v_tableIn hC dL_law_33 (off := 689) (tgt := 722) (by rw [h9_18]; decide) (by rw [h9_18]; decide) (by rw [h9_18]; rfl) (by decide) ?_
    exact lc_18 hC hX hbl hbA hN hi hc hs hT hLX hLM hRL
  by_cases h9_19 : v_2 = 19
  · refine v_tableIn hC dL_law_33 (off := 712) (tgt := 745) (by rw [h9_19]; decide) (by rw [h9_19]; decide) (by rw [h9_19]; rfl) (by decide) ?_
    exact lc_19 hC hX hbl hbA hN hi hc hs hT hLX hLM hRL
  by_cases h9_20 : v_2 = 20
  · refine v_tableIn hC dL_law_33 (off := 735) (tgt := 768) (by rw [h9_20]; decide) (by rw [h9_20]; decide) (by rw [h9_20]; rfl) (by decide) ?_
    exact lc_20 hC hX hbl hbA hN hi hc hs hT hLX hLM hRL
  by_cases h9_21 : v_2 = 21
  · refine v_tableIn hC dL_law_33 (off := 768) (tgt := 801) (by rw [h9_21]; decide) (by rw [h9_21]; decide) (by rw [h9_21]; rfl) (by decide) ?_
    exact lc_21 hC hX hbl hbA hN hi hc hs hT hLX hLM hRL
  by_cases h9_22 : v_2 = 22
  · refine v_tableIn hC dL_law_33 (off := 791) (tgt := 824) (by rw [h9_22]; decide) (by rw [h9_22]; decide) (by rw [h9_22]; rfl) (by decide) ?_
    exact lc_22 hC hX hbl hbA hN hi hc hs hT hLX hLM hRL
  by_cases h9_23 : v_2 = 23
  · refine v_tableIn hC dL_law_33 (off := 824) (tgt := 857) (by rw [h9_23]; decide) (by rw [h9_23]; decide) (by rw [h9_23]; rfl) (by decide) ?_
    exact lc_23 hC hX hbl hbA hN hi hc hs hT hLX hLM hRL
  by_cases h9_24 : v_2 = 24
  · refine v_tableIn hC dL_law_33 (off := 867) (tgt := 900) (by rw [h9_24]; decide) (by rw [h9_24]; decide) (by rw [h9_24]; rfl) (by decide) ?_
    exact lc_24 hC hX hbl hbA hN hi hc hs hT hLX hLM hRL
  by_cases h9_25 : v_2 = 25
  · refine v_tableIn hC dL_law_33 (off := 890) (tgt := 923) (by rw [h9_25]; decide) (by rw [h9_25]; decide) (by rw [h9_25]; rfl) (by decide) ?_
    exact lc_25 hC hX hbl hbA hN hi hc hs hT hLX hLM hRL
  by_cases h9_26 : v_2 = 26
  · refine v_tableIn hC dL_law_33 (off := 913) (tgt := 946) (by rw [h9_26]; decide) (by rw [h9_26]; decide) (by rw [h9_26]; rfl) (by decide) ?_
    exact lc_26 hC hX hbl hbA hN hi hc hs hT hLX hLM hRL
  by_cases h9_27 : v_2 = 27
  · refine v_tableIn hC dL_law_33 (off := 946) (tgt := 979) (by rw [h9_27]; decide) (by rw [h9_27]; decide) (by rw [h9_27]; rfl) (by decide) ?_
    exact lc_27 hC hX hbl hbA hN hi hc hs hT hLX hLM hRL
  by_cases h9_28 : v_2 = 28
  · refine v_tableIn hC dL_law_33 (off := 989) (tgt := 1022) (by rw [h9_28]; decide) (by rw [h9_28]; decide) (by rw [h9_28]; rfl) (by decide) ?_
    exact lc_28 hC hX hbl hbA hN hi hc hs hT hLX hLM hRL
  by_cases h9_29 : v_2 = 29
  · refine v_tableIn hC dL_law_33 (off := 1022) (tgt := 1055) (by rw [h9_29]; decide) (by rw [h9_29]; decide) (by rw [h9_29]; rfl) (by decide) ?_
    exact lc_29 hC hX hbl hbA hN hi hc hs hT hLX hLM hRL
  by_cases h9_30 : v_2 = 30
  · refine v_tableIn hC dL_law_33 (off := 1055) (tgt := 1088) (by rw [h9_30]; decide) (by rw [h9_30]; decide) (by rw [h9_30]; rfl) (by decide) ?_
    exact lc_30 hC hX hbl hbA hN hi hc hs hT hLX hLM hRL
  by_cases h9_31 : v_2 = 31
  · refine v_tableIn hC dL_law_33 (off := 1088) (tgt := 1121) (by rw [h9_31]; decide) (by rw [h9_31]; decide) (by rw [h9_31]; rfl) (by decide) ?_
    exact lc_31 hC hX hbl hbA hN hi hc hs hT hLX hLM hRL
  by_cases h9_32 : v_2 = 32
  · refine v_tableIn hC dL_law_33 (off := 1131) (tgt := 1164) (by rw [h9_32]; decide) (by rw [h9_32]; decide) (by rw [h9_32]; rfl) (by decide) ?_
    exact lc_32 hC hX hbl hbA hN hi hc hs hT hLX hLM hRL
  by_cases h9_33 : v_2 = 33
  · refine v_tableIn hC dL_law_33 (off := 1154) (tgt := 1187) (by rw [h9_33]; decide) (by rw [h9_33]; decide) (by rw [h9_33]; rfl) (by decide) ?_
    exact lc_33 hC hX hbl hbA hN hi hc hs hT hLX hLM hRL
  by_cases h9_34 : v_2 = 34
  · refine v_tableIn hC dL_law_33 (off := 1177) (tgt := 1210) (by rw [h9_34]; decide) (by rw [h9_34]; decide) (by rw [h9_34]; rfl) (by decide) ?_
    exact lc_34 hC hX hbl hbA hN hi hc hs hT hLX hLM hRL
  by_cases h9_35 : v_2 = 35
  · refine v_tableIn hC dL_law_33 (off := 1200) (tgt := 1233) (by rw [h9_35]; decide) (by rw [h9_35]; decide) (by rw [h9_35]; rfl) (by decide) ?_
    exact lc_35 hC hX hbl hbA hN hi hc hs hT hLX hLM hRL
  by_cases h9_36 : v_2 = 36
  · refine v_tableIn hC dL_law_33 (off := 1223) (tgt := 1256) (by rw [h9_36]; decide) (by rw [h9_36]; decide) (by rw [h9_36]; rfl) (by decide) ?_
    exact lc_36 hC hX hbl hbA hN hi hc hs hT hLX hLM hRL
  by_cases h9_37 : v_2 = 37
  · refine v_tableIn hC dL_law_33 (off := 1266) (tgt := 1299) (by rw [h9_37]; decide) (by rw [h9_37]; decide) (by rw [h9_37]; rfl) (by decide) ?_
    exact lc_37 hC hX hbl hbA hN hi hc hs hT hLX hLM hRL
  by_cases h9_38 : v_2 = 38
  · refine v_tableIn hC dL_law_33 (off := 1339) (tgt := 1372) (by rw [h9_38]; decide) (by rw [h9_38]; decide) (by rw [h9_38]; rfl) (by decide) ?_
    exact lc_38 hC hX hbl hbA hN hi hc hs hT hLX hLM hRL
  by_cases h9_39 : v_2 = 39
  · refine v_tableIn hC dL_law_33 (off := 1402) (tgt := 1435) (by rw [h9_39]; decide) (by rw [h9_39]; decide) (by rw [h9_39]; rfl) (by decide) ?_
    exact lc_39 hC hX hbl hbA hN hi hc hs hT hLX hLM hRL
  have e_2 := and_v h_2 (by decide)
  simp only [Int32.reduceToInt] at e_2
  simp only [Int32.lt_iff_toInt_lt, Int32.le_iff_toInt_le, Int32.reduceToInt, ← Int32.toInt_inj] at h9_0 h9_1 h9_2 h9_3 h9_4 h9_5 h9_6 h9_7 h9_8 h9_9 h9_10 h9_11 h9_12 h9_13 h9_14 h9_15 h9_16 h9_17 h9_18 h9_19 h9_20 h9_21 h9_22 h9_23 h9_24 h9_25 h9_26 h9_27 h9_28 h9_29 h9_30 h9_31 h9_32 h9_33 h9_34 h9_35 h9_36 h9_37 h9_38 h9_39
  refine v_tableOut hC dL_law_33 (tgt := 1468) (by omega) (by decide) ?_
  refine v_widen (k := c + 27) (n := s + 1953) (by omega) (by omega) ?_
  exact hT _ _ _ hLX hLM hRL
set_option maxRecDepth 100000 in
set_option maxHeartbeats 4000000 in
theorem law_loop {z : Cz} {E : Ez} {b x m N : Nat} {xs : Nat → Int32} (hC : Cx z E cL_law RL 4 14 600000 7302250) (hX : va_X b N xs (zs z) (zs z).heap) (hbl : b < (zs z).heap.size) (hbA : ¬ zA z b) (hN : N ≤ 3072) (hR : ∀ (pc : Nat) (L : List Nat) (f : Nat → va_E) (lv : List (Nat × Value)) (c s : Nat), decode cL_law pc = .ok (.ireturn, 1) → c ≤ 600000 → s ≤ 7302250 → V z E 4 c s L f pc lv [.int 1]) : ∀ (n : Nat) (i : Int32) (c s : Nat) (Lx Lm : List Nat) (f : Nat → va_E) (hi : 0 ≤ i.toInt ∧ i.toInt ≤ (N : Int)) (hc : 6 * (c : Int) ≤ 510 + 27 * i.toInt) (hs : 6 * (s : Int) ≤ 109716 + 1953 * i.toInt) (hLX : LX E x Lx f) (hLM : LM E m Lm f) (hRL : RLn f x m) (hm : (N : Int) - i.toInt < (n : Int)), V z E 4 c s (Lx ++ Lm) f 18 [(3, .int i), (2, .ref m), (1, .ref x), (0, .ref b)] [] := by
  intro n
  induction n with
  | zero =>
    intro i c s Lx Lm f hi hc hs hLX hLM hRL hm
    exfalso; omega
  | succ n ih =>
    intro i c s Lx Lm f hi hc hs hLX hLM hRL hm
    refine v_iload_n hC dL_law_18 rfl ?_
    refine v_aload_n hC dL_law_19 rfl ?_
    obtain ⟨v_1, h_1⟩ : ∃ v9 : Int32, Int32.ofNat N = v9 := ⟨_, rfl⟩
    refine v_slen hC hX hbl hbA h_1 dL_law_20 ?_
    have e_1 : v_1.toInt = (N : Int) := by rw [← h_1]; exact Int32.toInt_ofNat_of_lt (by omega)
    refine v_bipush hC dL_law_21 (v := 6) (by decide) ?_
    obtain ⟨v_2, h_2⟩ : ∃ v9 : Int32, v_1 - (6 : Int32) = v9 := ⟨_, rfl⟩
    refine v_isub hC dL_law_23 h_2 ?_
    have e_6 : (6 : Int32).toInt = 6 := by decide
    have e_2 := sub_v h_2 (by omega) (by omega)
    refine v_icmp_gt hC dL_law_24 (tgt := 1474) (by decide) (fun h_3 => ?_) (fun h_3 => ?_)
    · refine v_iconst hC dL_law_1474 (v := 1) (by decide) ?_
      exact hR _ _ _ _ _ _ dL_law_1475 (by omega) (by omega)
    · simp only [Int32.lt_iff_toInt_lt, Int32.le_iff_toInt_le, Int32.reduceToInt, ← Int32.toInt_inj] at h_3
      refine law_six hC hX hbl hbA hN (by omega) (by omega) (by omega) (fun Lx1 Lm1 f1 hLX1 hLM1 hRL1 => ?_) hLX hLM hRL
      obtain ⟨v_4, h_4⟩ : ∃ v9 : Int32, i + Int32.ofInt 6 = v9 := ⟨_, rfl⟩
      have e_4 := add_v (b := 6) h_4 (by omega) (by omega)
      refine v_iinc hC dL_law_1468 (k := 0) rfl (v := v_4) h_4 (by decide) (lv' := [(3, .int v_4), (2, .ref m), (1, .ref x), (0, .ref b)]) rfl ?_
      refine v_goto hC dL_law_1471 (tgt := 18) (by decide) ?_
      exact ih v_4 _ _ Lx1 Lm1 f1 (by omega) (by omega) (by omega) hLX1 hLM1 hRL1 (by omega)
set_option maxRecDepth 100000 in
set_option maxHeartbeats 4000000 in
theorem law_start {z : Cz} {E : Ez} {b : Nat} (hC : Cx z E cL_law RL 4 14 600000 7302250) (f : Nat → va_E) (hK : ∀ (x m : Nat) (Lx Lm : List Nat) (f : Nat → va_E), LX E x Lx f → LM E m Lm f → RLn f x m → V z E 4 85 18286 (Lx ++ Lm) f 18 [(3, .int 0), (2, .ref m), (1, .ref x), (0, .ref b)] []) : V z E 4 0 0 [] f 0 [(0, .ref b)] [] := by
  refine v_new hC (ci := 11) (fs := [.null, .null, .null, .null, .null, .null, .null, .null, .null, .null, .null, .null, .null, .null]) rfl inX11 tyX11_ok kl_L_7 in_X11 ii_X11 (fun j hj => by rcases (show j = 0 ∨ j = 1 ∨ j = 2 ∨ j = 3 ∨ j = 4 ∨ j = 5 ∨ j = 6 ∨ j = 7 ∨ j = 8 ∨ j = 9 ∨ j = 10 ∨ j = 11 ∨ j = 12 ∨ j = 13 by omega) with rfl | rfl | rfl | rfl | rfl | rfl | rfl | rfl | rfl | rfl | rfl | rfl | rfl | rfl <;> rfl) (Nat.le_of_ble_eq_true rfl) (Nat.le_of_ble_eq_true rfl) dL_law_0 (fun q0 f1 hq0 h1 h2 => ?_)
  refine v_widen (k := 1) (n := 14) (Nat.le_of_ble_eq_true rfl) (Nat.le_of_ble_eq_true rfl) ?_
  refine v_dup hC dL_law_3 rfl ?_
  refine v_xv hC (rest := [.ref q0]) rfl mi_X11_init (kt_X11 (T := fun _ => FREE) (fun _ _ => True.intro) (List.mem_append_right _ List.mem_cons_self) rfl h1) mx_X11_init ml_L_9 (by decide) rfl (cells1 := 66) (slots1 := 5129) (by decide) (by decide) (Nat.le_of_ble_eq_true rfl) (Nat.le_of_ble_eq_true rfl) rfl (Nat.le_of_ble_eq_true rfl) dL_law_4 (fun L1 f2 hp => ?_)
  obtain ⟨T1, -, hW1, hX1, hI1⟩ := hp
  refine v_astore_n hC dL_law_7 (by decide) (lv' := [(1, .ref q0), (0, .ref b)]) rfl ?_
  refine v_new hC (ci := 12) (fs := [.int 0, .null, .null, .null, .null, .int 0, .null, .int 0, .int 0, .int 0, .int 0, .int 0, .int 0, .int 0, .null, .null, .null, .int 0, .null, .null, .int 0, .null, .null, .null, .null, .null, .null, .null, .null]) rfl inX12 tyX12_ok kl_L_10 in_X12 ii_X12 (fun j hj => by rcases (show j = 0 ∨ j = 1 ∨ j = 2 ∨ j = 3 ∨ j = 4 ∨ j = 5 ∨ j = 6 ∨ j = 7 ∨ j = 8 ∨ j = 9 ∨ j = 10 ∨ j = 11 ∨ j = 12 ∨ j = 13 ∨ j = 14 ∨ j = 15 ∨ j = 16 ∨ j = 17 ∨ j = 18 ∨ j = 19 ∨ j = 20 ∨ j = 21 ∨ j = 22 ∨ j = 23 ∨ j = 24 ∨ j = 25 ∨ j = 26 ∨ j = 27 ∨ j = 28 by omega) with rfl | rfl | rfl | rfl | rfl | rfl | rfl | rfl | rfl | rfl | rfl | rfl | rfl | rfl | rfl | rfl | rfl | rfl | rfl | rfl | rfl | rfl | rfl | rfl | rfl | rfl | rfl | rfl | rfl <;> rfl) (Nat.le_of_ble_eq_true rfl) (Nat.le_of_ble_eq_true rfl) dL_law_8 (fun q1 f3 hq1 h3 h4 => ?_)
  refine v_widen (k := 67) (n := 5158) (Nat.le_of_ble_eq_true rfl) (Nat.le_of_ble_eq_true rfl) ?_
  refine v_dup hC dL_law_11 rfl ?_
  refine v_xvF hC (X := L1) (Y := [q1]) (rest := [.ref q1]) rfl mi_X12_init (kt_X12 (T := fun _ => FREE) (fun _ _ => True.intro) List.mem_cons_self rfl h3) mx_X12_init ml_L_12 (by decide) rfl (cells1 := 85) (slots1 := 18286) (by decide) (by decide) (Nat.le_of_ble_eq_true rfl) (Nat.le_of_ble_eq_true rfl) rfl (Nat.le_of_ble_eq_true rfl) dL_law_12 (fun Lm g f4 hp g1 g2 => ?_)
  obtain ⟨T2, -, hW2, qm, hM2, hI2⟩ := hp
  refine v_astore_n hC dL_law_15 (by decide) (lv' := [(2, .ref q1), (1, .ref q0), (0, .ref b)]) rfl ?_
  refine v_iconst hC dL_law_16 (v := 0) (by decide) ?_
  refine v_istore_n hC dL_law_17 (by decide) (lv' := [(3, .int 0), (2, .ref q1), (1, .ref q0), (0, .ref b)]) rfl ?_
  exact hK q0 q1 L1 Lm f4 ⟨T1, hW1.cg (fun a ha => (g1 a ha).trans (h4 a (ne_in ha hq1))), hX1⟩ ⟨T2, qm, hW2.cg g2, hM2⟩ (RLn.start hI1 hI2 (zs_cg hW1 hX1 (fun a ha => (g1 a ha).trans (h4 a (ne_in ha hq1)))) (zm_cg hW2 hM2 g2))
