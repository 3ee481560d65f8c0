set_option maxRecDepth 100000 in
set_option maxHeartbeats 8000000 in
theorem p_X11_lay {l : Launch} {E : Ez} {L : List Nat} {f : Nat → va_E} {T : Nat → va_E → Prop} {a_0 : Nat} {a_1 : Int32} {a_2 : Int32} (hW : WT T L f) (k_0 : isX T L E a_0) : CI l yX11_lay cX11_lay 8 .int 2 0 0 E [.ref a_0, .int a_1, .int a_2] L f (fun r L1 f1 => L = L1 ∧ WT T L f1 ∧ FR [356] f f1 ∧ (¬ r.toInt = 0 ∨ (0 ≤ a_1.toInt ∧ a_1.toInt ≤ 3)) ∧ (¬ r.toInt = 0 ∨ (0 ≤ a_2.toInt ∧ a_2.toInt ≤ 3))) := by
  refine ci_of (by decide) (Nat.le_of_ble_eq_true rfl) (fun z hz hnm hC hR => ?_)
  have hC : Cx z E cX11_lay RX11 8 2 0 0 := hC
  subst hz
  show V z E 8 0 0 L f 0 [(0, .ref a_0), (1, .int a_1), (2, .int a_2)] []
  refine v_iload_n hC dX11_lay_0 rfl ?_
  refine v_si hC (rest := []) mt_X11_isSlot (p_X11_isSlot hW) mx_X11_isSlot ml_X11_353 (by decide) rfl (cells1 := 0) (slots1 := 0) (by decide) (by decide) (Nat.le_of_ble_eq_true rfl) (Nat.le_of_ble_eq_true rfl) rfl (Nat.le_of_ble_eq_true rfl) dX11_lay_1 (fun r_1 L_2 f_3 h_4 => ?_)
  obtain ⟨rfl, rfl, b_5, h_6, x_7⟩ := h_4
  try simp only [Int32.reduceToInt, Int64.reduceToInt] at x_7
  refine v_if_eq hC dX11_lay_4 (tgt := 14) (by decide) (fun h_10 => ?_) (fun h_10 => ?_)
  · simp only [Int32.lt_iff_toInt_lt, Int32.le_iff_toInt_le, Int32.reduceToInt, ← Int32.toInt_inj] at h_10
    refine v_bipush hC dX11_lay_14 (v := (-2)) (by decide) ?_
    exact hR _ _ _ _ _ _ _ dX11_lay_16 rfl (Nat.le_of_ble_eq_true rfl) (Nat.le_of_ble_eq_true rfl) ⟨rfl, hW, FR.rf, (.inl (by decide)), (.inl (by decide))⟩
  · simp only [Int32.lt_iff_toInt_lt, Int32.le_iff_toInt_le, Int32.reduceToInt, ← Int32.toInt_inj] at h_10
    refine v_iload_n hC dX11_lay_7 rfl ?_
    refine v_si hC (rest := []) mt_X11_isCloth (p_X11_isCloth hW) mx_X11_isCloth ml_X11_181 (by decide) rfl (cells1 := 0) (slots1 := 0) (by decide) (by decide) (Nat.le_of_ble_eq_true rfl) (Nat.le_of_ble_eq_true rfl) rfl (Nat.le_of_ble_eq_true rfl) dX11_lay_8 (fun r_11 L_12 f_13 h_14 => ?_)
    obtain ⟨rfl, rfl, b_15, h_16⟩ := h_14
    refine v_if_ne hC dX11_lay_11 (tgt := 17) (by decide) (fun h_19 => ?_) (fun h_19 => ?_)
    · simp only [Int32.lt_iff_toInt_lt, Int32.le_iff_toInt_le, Int32.reduceToInt, ← Int32.toInt_inj] at h_19
      refine v_aload_n hC dX11_lay_17 rfl ?_
      obtain ⟨m_20, q_22, q_23, q_24, q_25, q_26, q_27, q_28, q_29, q_30, q_31, q_32, q_33, q_34, q_35, t_21, k_36, k_37, k_38, k_39, k_40, k_41, k_42, k_43, k_44, k_45, k_46, k_47, k_48, k_49⟩ := id k_0
      have e_50 : f a_0 = ob 11 [.ref q_22, .ref q_23, .ref q_24, .ref q_25, .ref q_26, .ref q_27, .ref q_28, .ref q_29, .ref q_30, .ref q_31, .ref q_32, .ref q_33, .ref q_34, .ref q_35] := hW.at m_20 t_21
      refine v_get hC fl_X11_36 m_20 e_50 rfl dX11_lay_18 ?_
      refine v_iload_n hC dX11_lay_21 rfl ?_
      obtain ⟨m_51, g_53, t_52, k_54⟩ := id k_40
      have e_55 : f q_26 = aR E 6 4 g_53 := hW.at m_51 t_52
      obtain ⟨q_56, h_57, k_58⟩ := k_54 (a_1 : Int32).toNatClampNeg (clamp_lt (vp_in_iff.mpr (by first | omega | (simp only [Int32.lt_iff_toInt_lt, Int32.le_iff_toInt_le, Int32.reduceToInt, ← Int32.toInt_inj, true_and, and_true, or_true, true_or, false_or, or_false, false_and, and_false, not_true_eq_false, not_false_eq_true] <;> omega))))
      refine v_aald hC m_51 e_55 rfl (vp_in_iff.mpr (by first | omega | (simp only [Int32.lt_iff_toInt_lt, Int32.le_iff_toInt_le, Int32.reduceToInt, ← Int32.toInt_inj, true_and, and_true, or_true, true_or, false_or, or_false, false_and, and_false, not_true_eq_false, not_false_eq_true] <;> omega))) (v := .ref q_56) (by rw [h_57]; rfl) dX11_lay_22 ?_
      obtain ⟨m_59, q_61, t_60, k_62⟩ := id k_58
      obtain ⟨v_64, v_66, e_63, b_65, b_67⟩ := hW.at m_59 t_60
      refine v_vi hC (rest := []) m_59 e_63 rfl mi_X5_isThere ms_X5_isThere (p_X5_isThere hW k_58) mx_X5_isThere ml_X11_359 (by decide) rfl (cells1 := 0) (slots1 := 0) (by decide) (by decide) (Nat.le_of_ble_eq_true rfl) (Nat.le_of_ble_eq_true rfl) rfl (Nat.le_of_ble_eq_true rfl) dX11_lay_23 (fun r_68 L_69 f_70 h_71 => ?_)
      obtain ⟨rfl, rfl, b_72, x_73⟩ := h_71
      try simp only [Int32.reduceToInt, Int64.reduceToInt] at x_73
      refine v_if_eq hC dX11_lay_26 (tgt := 37) (by decide) (fun h_76 => ?_) (fun h_76 => ?_)
      · simp only [Int32.lt_iff_toInt_lt, Int32.le_iff_toInt_le, Int32.reduceToInt, ← Int32.toInt_inj] at h_76
        refine v_bipush hC dX11_lay_37 (v := (-6)) (by decide) ?_
        exact hR _ _ _ _ _ _ _ dX11_lay_39 rfl (Nat.le_of_ble_eq_true rfl) (Nat.le_of_ble_eq_true rfl) ⟨rfl, hW, FR.rf, (.inl (by decide)), (.inl (by decide))⟩
      · simp only [Int32.lt_iff_toInt_lt, Int32.le_iff_toInt_le, Int32.reduceToInt, ← Int32.toInt_inj] at h_76
        refine v_aload_n hC dX11_lay_29 rfl ?_
        refine v_iload_n hC dX11_lay_30 rfl ?_
        refine v_vi hC (rest := []) m_20 e_50 rfl mi_X11_hasCloth ms_X11_hasCloth (p_X11_hasCloth hW k_0) mx_X11_hasCloth ml_X11_239 (by decide) rfl (cells1 := 0) (slots1 := 0) (by decide) (by decide) (Nat.le_of_ble_eq_true rfl) (Nat.le_of_ble_eq_true rfl) rfl (Nat.le_of_ble_eq_true rfl) dX11_lay_31 (fun r_77 L_78 f_79 h_80 => ?_)
        obtain ⟨rfl, rfl, b_81, h_82⟩ := h_80
        refine v_if_ne hC dX11_lay_34 (tgt := 40) (by decide) (fun h_85 => ?_) (fun h_85 => ?_)
        · simp only [Int32.lt_iff_toInt_lt, Int32.le_iff_toInt_le, Int32.reduceToInt, ← Int32.toInt_inj] at h_85
          refine v_iconst hC dX11_lay_40 (v := 0) (by decide) ?_
          refine v_istore_n hC dX11_lay_41 (by decide) (lv' := [(3, .int 0), (0, .ref a_0), (1, .int a_1), (2, .int a_2)]) rfl ?_
          refine v_aload_n hC dX11_lay_42 rfl ?_
          refine v_get hC fl_X11_36 m_20 e_50 rfl dX11_lay_43 ?_
          refine v_iload_n hC dX11_lay_46 rfl ?_
          obtain ⟨q_86, h_87, k_88⟩ := k_54 (a_1 : Int32).toNatClampNeg (clamp_lt (vp_in_iff.mpr (by first | omega | (simp only [Int32.lt_iff_toInt_lt, Int32.le_iff_toInt_le, Int32.reduceToInt, ← Int32.toInt_inj, true_and, and_true, or_true, true_or, false_or, or_false, false_and, and_false, not_true_eq_false, not_false_eq_true] <;> omega))))
          refine v_aald hC m_51 e_55 rfl (vp_in_iff.mpr (by first | omega | (simp only [Int32.lt_iff_toInt_lt, Int32.le_iff_toInt_le, Int32.reduceToInt, ← Int32.toInt_inj, true_and, and_true, or_true, true_or, false_or, or_false, false_and, and_false, not_true_eq_false, not_false_eq_true] <;> omega))) (v := .ref q_86) (by rw [h_87]; rfl) dX11_lay_47 ?_
          obtain ⟨m_89, q_91, t_90, k_92⟩ := id k_88
          obtain ⟨v_94, v_96, e_93, b_95, b_97⟩ := hW.at m_89 t_90
          refine v_getN hC fn_X11_375 m_89 e_93 rfl dX11_lay_48 ?_
          refine v_aload_n hC dX11_lay_51 rfl ?_
          refine v_get hC fl_X11_19 m_20 e_50 rfl dX11_lay_52 ?_
          obtain ⟨m_98, q_100, q_101, q_102, q_103, q_104, q_105, t_99, k_106, k_107, k_108, k_109, k_110, k_111⟩ := id k_37
          have e_112 : f q_23 = ob 0 [.ref q_100, .ref q_101, .ref q_102, .ref q_103, .ref q_104, .ref q_105] := hW.at m_98 t_99
          refine v_getN hC fn_X11_116 m_98 e_112 rfl dX11_lay_55 ?_
          obtain ⟨m_113, q_115, q_116, t_114, k_117, k_118⟩ := id k_106
          obtain ⟨v_120, v_122, v_124, e_119, b_121, b_123, b_125⟩ := hW.at m_113 t_114
          refine v_getN hC fn_X11_126 m_113 e_119 rfl dX11_lay_58 ?_
          obtain ⟨v_126, h_127⟩ : ∃ v9 : Int32, (if v_124 < (v_96 : Int32) then v_124 else (v_96 : Int32)) = v9 := ⟨_, rfl⟩
          refine v_mmin hC mm_X11_376 mm_smin mm_i mm_cmin (by decide) (Nat.le_of_ble_eq_true rfl) (Nat.le_of_ble_eq_true rfl) (Nat.le_of_ble_eq_true rfl) h_127 dX11_lay_61 ?_
          have b_128 := min_v h_127
          try simp only [Int32.reduceToInt] at b_128
          refine v_istore hC dX11_lay_64 (by decide) (lv' := [(4, .int v_126), (3, .int 0), (0, .ref a_0), (1, .int a_1), (2, .int a_2)]) rfl ?_
          refine v_iconst hC dX11_lay_66 (v := 0) (by decide) ?_
          refine v_istore hC dX11_lay_67 (by decide) (lv' := [(5, .int 0), (4, .int v_126), (3, .int 0), (0, .ref a_0), (1, .int a_1), (2, .int a_2)]) rfl ?_
          have lp_1300 : ∀ (n_1301 : Nat) (f_1290 : Nat → va_E) (hW_1291 : WT T L f_1290) (hF_1292 : FR [356] f f_1290) (i_1288 : Int32) (b_1299 : (0 ≤ i_1288.toInt ∧ i_1288.toInt ≤ 60)) (i_1289 : Int32) (hm_1303 : 60 - i_1288.toInt < (n_1301 : Int)), V z E 8 0 0 L f_1290 69 [(5, .int i_1288), (4, .int v_126), (3, .int i_1289), (0, .ref a_0), (1, .int a_1), (2, .int a_2)] [] := by
            intro n_1301
            induction n_1301 with
            | zero =>
              intro f_1290 hW_1291 hF_1292 i_1288 b_1299 i_1289 hm_1303
              have hf_1293 := hF_1292.at e_50 rfl
              have hf_1294 := hF_1292.at e_55 rfl
              have hf_1295 := hF_1292.at e_63 rfl
              have hf_1296 := hF_1292.at e_93 rfl
              have hf_1297 := hF_1292.at e_112 rfl
              have hf_1298 := hF_1292.at e_119 rfl
              exfalso; omega
            | succ n_1301 ih_1302 =>
              intro f_1290 hW_1291 hF_1292 i_1288 b_1299 i_1289 hm_1303
              have hf_1293 := hF_1292.at e_50 rfl
              have hf_1294 := hF_1292.at e_55 rfl
              have hf_1295 := hF_1292.at e_63 rfl
              have hf_1296 := hF_1292.at e_93 rfl
              have hf_1297 := hF_1292.at e_112 rfl
              have hf_1298 := hF_1292.at e_119 rfl
              refine v_iload hC dX11_lay_69 rfl ?_
              refine v_iload hC dX11_lay_71 rfl ?_
              refine v_icmp_ge hC dX11_lay_73 (tgt := 166) (by decide) (fun h_1304 => ?_) (fun h_1304 => ?_)
              · simp only [Int32.lt_iff_toInt_lt, Int32.le_iff_toInt_le, Int32.reduceToInt, ← Int32.toInt_inj] at h_1304
                refine v_iload_n hC dX11_lay_166 rfl ?_
                exact hR _ _ _ _ _ _ _ dX11_lay_167 rfl (Nat.le_of_ble_eq_true rfl) (Nat.le_of_ble_eq_true rfl) ⟨rfl, hW_1291, (hF_1292.mono rfl), (.inr (by first | omega | (simp only [Int32.lt_iff_toInt_lt, Int32.le_iff_toInt_le, Int32.reduceToInt, ← Int32.toInt_inj, true_and, and_true, or_true, true_or, false_or, or_false, false_and, and_false, not_true_eq_false, not_false_eq_true] <;> omega))), (.inr (by first | omega | (simp only [Int32.lt_iff_toInt_lt, Int32.le_iff_toInt_le, Int32.reduceToInt, ← Int32.toInt_inj, true_and, and_true, or_true, true_or, false_or, or_false, false_and, and_false, not_true_eq_false, not_false_eq_true] <;> omega)))⟩
              · simp only [Int32.lt_iff_toInt_lt, Int32.le_iff_toInt_le, Int32.reduceToInt, ← Int32.toInt_inj] at h_1304
                refine v_aload_n hC dX11_lay_76 rfl ?_
                refine v_get hC fl_X11_19 m_20 hf_1293 rfl dX11_lay_77 ?_
                refine v_getN hC fn_X11_116 m_98 hf_1297 rfl dX11_lay_80 ?_
                refine v_iload hC dX11_lay_83 rfl ?_
                refine v_vi hC (rest := []) m_113 hf_1298 rfl mi_X4_freePlace ms_X4_freePlace (p_X4_freePlace hW_1291 k_106) mx_X4_freePlace ml_X11_301 (by decide) rfl (cells1 := 0) (slots1 := 0) (by decide) (by decide) (Nat.le_of_ble_eq_true rfl) (Nat.le_of_ble_eq_true rfl) rfl (Nat.le_of_ble_eq_true rfl) dX11_lay_85 (fun r_1305 L_1306 f_1307 h_1308 => ?_)
                obtain ⟨rfl, rfl, h_1309⟩ := h_1308
                refine v_istore hC dX11_lay_88 (by decide) (lv' := [(6, .int r_1305), (5, .int i_1288), (4, .int v_126), (3, .int i_1289), (0, .ref a_0), (1, .int a_1), (2, .int a_2)]) rfl ?_
                refine v_aload_n hC dX11_lay_90 rfl ?_
                refine v_get hC fl_X11_36 m_20 hf_1293 rfl dX11_lay_91 ?_
                refine v_iload_n hC dX11_lay_94 rfl ?_
                obtain ⟨q_1312, h_1313, k_1314⟩ := k_54 (a_1 : Int32).toNatClampNeg (clamp_lt (vp_in_iff.mpr (by first | omega | (simp only [Int32.lt_iff_toInt_lt, Int32.le_iff_toInt_le, Int32.reduceToInt, ← Int32.toInt_inj, true_and, and_true, or_true, true_or, false_or, or_false, false_and, and_false, not_true_eq_false, not_false_eq_true] <;> omega))))
                refine v_aald hC m_51 hf_1294 rfl (vp_in_iff.mpr (by first | omega | (simp only [Int32.lt_iff_toInt_lt, Int32.le_iff_toInt_le, Int32.reduceToInt, ← Int32.toInt_inj, true_and, and_true, or_true, true_or, false_or, or_false, false_and, and_false, not_true_eq_false, not_false_eq_true] <;> omega))) (v := .ref q_1312) (by rw [h_1313]; rfl) dX11_lay_95 ?_
                refine v_iload hC dX11_lay_96 rfl ?_
                obtain ⟨m_1315, q_1317, t_1316, k_1318⟩ := id k_1314
                obtain ⟨v_1320, v_1322, e_1319, b_1321, b_1323⟩ := hW_1291.at m_1315 t_1316
                refine v_vi hC (rest := []) m_1315 e_1319 rfl mi_X5_isZero ms_X5_isZero (p_X5_isZero hW_1291 k_1314) mx_X5_isZero ml_X11_379 (by decide) rfl (cells1 := 0) (slots1 := 0) (by decide) (by decide) (Nat.le_of_ble_eq_true rfl) (Nat.le_of_ble_eq_true rfl) rfl (Nat.le_of_ble_eq_true rfl) dX11_lay_98 (fun r_1324 L_1325 f_1326 h_1327 => ?_)
                obtain ⟨rfl, rfl, b_1328, h_1329⟩ := h_1327
                have jn_1340 : ∀ (v_1341 : Int32) (b_1342 : (0 ≤ v_1341.toInt ∧ v_1341.toInt ≤ 3)), V z E 8 0 0 L f_1290 120 [(6, .int r_1305), (5, .int i_1288), (4, .int v_126), (3, .int i_1289), (0, .ref a_0), (1, .int a_1), (2, .int a_2)] [.int v_1341] := by
                  intro v_1341 b_1342
                  refine v_istore hC dX11_lay_120 (by decide) (lv' := [(7, .int v_1341), (6, .int r_1305), (5, .int i_1288), (4, .int v_126), (3, .int i_1289), (0, .ref a_0), (1, .int a_1), (2, .int a_2)]) rfl ?_
                  refine v_aload_n hC dX11_lay_122 rfl ?_
                  refine v_get hC fl_X11_19 m_20 hf_1293 rfl dX11_lay_123 ?_
                  refine v_getN hC fn_X11_190 m_98 hf_1297 rfl dX11_lay_126 ?_
                  refine v_iload_n hC dX11_lay_129 rfl ?_
                  obtain ⟨m_1343, g_1345, t_1344, k_1346⟩ := id k_111
                  have e_1347 : f_1290 q_105 = aR E 5 4 g_1345 := hW_1291.at m_1343 t_1344
                  obtain ⟨q_1348, h_1349, k_1350⟩ := k_1346 (a_2 : Int32).toNatClampNeg (clamp_lt (vp_in_iff.mpr (by first | omega | (simp only [Int32.lt_iff_toInt_lt, Int32.le_iff_toInt_le, Int32.reduceToInt, ← Int32.toInt_inj, true_and, and_true, or_true, true_or, false_or, or_false, false_and, and_false, not_true_eq_false, not_false_eq_true] <;> omega))))
                  refine v_aald hC m_1343 e_1347 rfl (vp_in_iff.mpr (by first | omega | (simp only [Int32.lt_iff_toInt_lt, Int32.le_iff_toInt_le, Int32.reduceToInt, ← Int32.toInt_inj, true_and, and_true, or_true, true_or, false_or, or_false, false_and, and_false, not_true_eq_false, not_false_eq_true] <;> omega))) (v := .ref q_1348) (by rw [h_1349]; rfl) dX11_lay_130 ?_
                  refine v_iload hC dX11_lay_131 rfl ?_
                  obtain ⟨m_1351, q_1353, t_1352, k_1354⟩ := id k_1350
                  obtain ⟨v_1356, e_1355, b_1357⟩ := hW_1291.at m_1351 t_1352
                  refine v_vi hC (rest := []) m_1351 e_1355 rfl mi_X1_stitchAt ms_X1_stitchAt (p_X1_stitchAt hW_1291 k_1350) mx_X1_stitchAt ml_X11_242 (by decide) rfl (cells1 := 0) (slots1 := 0) (by decide) (by decide) (Nat.le_of_ble_eq_true rfl) (Nat.le_of_ble_eq_true rfl) rfl (Nat.le_of_ble_eq_true rfl) dX11_lay_133 (fun r_1358 L_1359 f_1360 h_1361 => ?_)
                  obtain ⟨rfl, rfl, h_1362⟩ := h_1361
                  refine v_iload hC dX11_lay_136 rfl ?_
                  refine v_icmp_eq hC dX11_lay_138 (tgt := 160) (by decide) (fun h_1365 => ?_) (fun h_1365 => ?_)
                  · simp only [Int32.lt_iff_toInt_lt, Int32.le_iff_toInt_le, Int32.reduceToInt, ← Int32.toInt_inj] at h_1365
                    obtain ⟨v_1366, h_1367⟩ : ∃ v9 : Int32, i_1288 + Int32.ofInt 1 = v9 := ⟨_, rfl⟩
                    have h_1368 := add_v (b := 1) h_1367 (by first | omega | (simp only [Int32.lt_iff_toInt_lt, Int32.le_iff_toInt_le, Int32.reduceToInt, ← Int32.toInt_inj, true_and, and_true, or_true, true_or, false_or, or_false, false_and, and_false, not_true_eq_false, not_false_eq_true] <;> omega)) (by first | omega | (simp only [Int32.lt_iff_toInt_lt, Int32.le_iff_toInt_le, Int32.reduceToInt, ← Int32.toInt_inj, true_and, and_true, or_true, true_or, false_or, or_false, false_and, and_false, not_true_eq_false, not_false_eq_true] <;> omega))
                    simp only [Int32.reduceToInt] at h_1368
                    refine v_iinc hC dX11_lay_160 (k := 2) rfl (v := v_1366) h_1367 (by decide) (lv' := [(5, .int v_1366), (7, .int v_1341), (6, .int r_1305), (4, .int v_126), (3, .int i_1289), (0, .ref a_0), (1, .int a_1), (2, .int a_2)]) rfl ?_
                    refine v_goto hC dX11_lay_163 (tgt := 69) (by decide) ?_
                    refine v_pick [0, 3, 4, 5, 6, 7] rfl ?_
                    exact ih_1302 f_1290 hW_1291 (hF_1292.mono rfl) v_1366 (by first | omega | (simp only [Int32.lt_iff_toInt_lt, Int32.le_iff_toInt_le, Int32.reduceToInt, ← Int32.toInt_inj, true_and, and_true, or_true, true_or, false_or, or_false, false_and, and_false, not_true_eq_false, not_false_eq_true] <;> omega)) i_1289 (by first | omega | (simp only [Int32.lt_iff_toInt_lt, Int32.le_iff_toInt_le, Int32.reduceToInt, ← Int32.toInt_inj, true_and, and_true, or_true, true_or, false_or, or_false, false_and, and_false, not_true_eq_false, not_false_eq_true] <;> omega))
                  · simp only [Int32.lt_iff_toInt_lt, Int32.le_iff_toInt_le, Int32.reduceToInt, ← Int32.toInt_inj] at h_1365
                    refine v_aload_n hC dX11_lay_141 rfl ?_
                    refine v_get hC fl_X11_19 m_20 hf_1293 rfl dX11_lay_142 ?_
                    refine v_getN hC fn_X11_190 m_98 hf_1297 rfl dX11_lay_145 ?_
                    refine v_iload_n hC dX11_lay_148 rfl ?_
                    obtain ⟨q_1369, h_1370, k_1371⟩ := k_1346 (a_2 : Int32).toNatClampNeg (clamp_lt (vp_in_iff.mpr (by first | omega | (simp only [Int32.lt_iff_toInt_lt, Int32.le_iff_toInt_le, Int32.reduceToInt, ← Int32.toInt_inj, true_and, and_true, or_true, true_or, false_or, or_false, false_and, and_false, not_true_eq_false, not_false_eq_true] <;> omega))))
                    refine v_aald hC m_1343 e_1347 rfl (vp_in_iff.mpr (by first | omega | (simp only [Int32.lt_iff_toInt_lt, Int32.le_iff_toInt_le, Int32.reduceToInt, ← Int32.toInt_inj, true_and, and_true, or_true, true_or, false_or, or_false, false_and, and_false, not_true_eq_false, not_false_eq_true] <;> omega))) (v := .ref q_1369) (by rw [h_1370]; rfl) dX11_lay_149 ?_
                    refine v_iload hC dX11_lay_150 rfl ?_
                    refine v_iload hC dX11_lay_152 rfl ?_
                    obtain ⟨m_1372, q_1374, t_1373, k_1375⟩ := id k_1371
                    obtain ⟨v_1377, e_1376, b_1378⟩ := hW_1291.at m_1372 t_1373
                    refine v_vv hC (rest := []) m_1372 e_1376 rfl mi_X1_setStitch ms_X1_setStitch (p_X1_setStitch hW_1291 k_1371) mx_X1_setStitch ml_X11_324 (by decide) rfl (cells1 := 0) (slots1 := 0) (by decide) (by decide) (Nat.le_of_ble_eq_true rfl) (Nat.le_of_ble_eq_true rfl) rfl (Nat.le_of_ble_eq_true rfl) dX11_lay_154 (fun L_1380 f_1381 h_1382 => ?_)
                    obtain ⟨rfl, hW_1383, hF_1384⟩ := h_1382
                    have hf_1385 := hF_1384.at hf_1293 rfl
                    have hf_1386 := hF_1384.at hf_1294 rfl
                    have hf_1387 := hF_1384.at hf_1295 rfl
                    have hf_1388 := hF_1384.at hf_1296 rfl
                    have hf_1389 := hF_1384.at hf_1297 rfl
                    have hf_1390 := hF_1384.at hf_1298 rfl
                    have hf_1391 := hF_1384.at e_1319 rfl
                    have hf_1392 := hF_1384.at e_1347 rfl
                    have hf_1393 := hF_1384.at e_1355 rfl
                    have hf_1394 := hF_1384.at e_1376 rfl
                    obtain ⟨v_1395, h_1396⟩ : ∃ v9 : Int32, i_1289 + Int32.ofInt 1 = v9 := ⟨_, rfl⟩
                    refine v_iinc hC dX11_lay_157 (k := 4) rfl (v := v_1395) h_1396 (by decide) (lv' := [(3, .int v_1395), (7, .int v_1341), (6, .int r_1305), (5, .int i_1288), (4, .int v_126), (0, .ref a_0), (1, .int a_1), (2, .int a_2)]) rfl ?_
                    obtain ⟨v_1397, h_1398⟩ : ∃ v9 : Int32, i_1288 + Int32.ofInt 1 = v9 := ⟨_, rfl⟩
                    have h_1399 := add_v (b := 1) h_1398 (by first | omega | (simp only [Int32.lt_iff_toInt_lt, Int32.le_iff_toInt_le, Int32.reduceToInt, ← Int32.toInt_inj, true_and, and_true, or_true, true_or, false_or, or_false, false_and, and_false, not_true_eq_false, not_false_eq_true] <;> omega)) (by first | omega | (simp only [Int32.lt_iff_toInt_lt, Int32.le_iff_toInt_le, Int32.reduceToInt, ← Int32.toInt_inj, true_and, and_true, or_true, true_or, false_or, or_false, false_and, and_false, not_true_eq_false, not_false_eq_true] <;> omega))
                    simp only [Int32.reduceToInt] at h_1399
                    refine v_iinc hC dX11_lay_160 (k := 3) rfl (v := v_1397) h_1398 (by decide) (lv' := [(5, .int v_1397), (3, .int v_1395), (7, .int v_1341), (6, .int r_1305), (4, .int v_126), (0, .ref a_0), (1, .int a_1), (2, .int a_2)]) rfl ?_
                    refine v_goto hC dX11_lay_163 (tgt := 69) (by decide) ?_
                    refine v_pick [0, 4, 1, 5, 6, 7] rfl ?_
                    exact ih_1302 f_1381 hW_1383 ((hF_1292.tr hF_1384).mono rfl) v_1397 (by first | omega | (simp only [Int32.lt_iff_toInt_lt, Int32.le_iff_toInt_le, Int32.reduceToInt, ← Int32.toInt_inj, true_and, and_true, or_true, true_or, false_or, or_false, false_and, and_false, not_true_eq_false, not_false_eq_true] <;> omega)) v_1395 (by first | omega | (simp only [Int32.lt_iff_toInt_lt, Int32.le_iff_toInt_le, Int32.reduceToInt, ← Int32.toInt_inj, true_and, and_true, or_true, true_or, false_or, or_false, false_and, and_false, not_true_eq_false, not_false_eq_true] <;> omega))
                refine v_if_eq hC dX11_lay_101 (tgt := 108) (by decide) (fun h_1332 => ?_) (fun h_1332 => ?_)
                · simp only [Int32.lt_iff_toInt_lt, Int32.le_iff_toInt_le, Int32.reduceToInt, ← Int32.toInt_inj] at h_1332
                  refine v_aload_n hC dX11_lay_108 rfl ?_
                  refine v_get hC fl_X11_19 m_20 hf_1293 rfl dX11_lay_109 ?_
                  refine v_getN hC fn_X11_116 m_98 hf_1297 rfl dX11_lay_112 ?_
                  refine v_iload hC dX11_lay_115 rfl ?_
                  refine v_vi hC (rest := []) m_113 hf_1298 rfl mi_X4_notPlainAt ms_X4_notPlainAt (p_X4_notPlainAt hW_1291 k_106) mx_X4_notPlainAt ml_X11_382 (by decide) rfl (cells1 := 0) (slots1 := 0) (by decide) (by decide) (Nat.le_of_ble_eq_true rfl) (Nat.le_of_ble_eq_true rfl) rfl (Nat.le_of_ble_eq_true rfl) dX11_lay_117 (fun r_1400 L_1401 f_1402 h_1403 => ?_)
                  obtain ⟨rfl, rfl, b_1404⟩ := h_1403
                  refine v_pick [0, 1, 2, 3, 4, 5, 6] rfl ?_
                  exact jn_1340 r_1400 (by first | omega | (simp only [Int32.lt_iff_toInt_lt, Int32.le_iff_toInt_le, Int32.reduceToInt, ← Int32.toInt_inj, true_and, and_true, or_true, true_or, false_or, or_false, false_and, and_false, not_true_eq_false, not_false_eq_true] <;> omega))
                · simp only [Int32.lt_iff_toInt_lt, Int32.le_iff_toInt_le, Int32.reduceToInt, ← Int32.toInt_inj] at h_1332
                  refine v_iconst hC dX11_lay_104 (v := 0) (by decide) ?_
                  refine v_goto hC dX11_lay_105 (tgt := 120) (by decide) ?_
                  refine v_pick [0, 1, 2, 3, 4, 5, 6] rfl ?_
                  exact jn_1340 0 (by decide)
          refine v_pick [0, 1, 2, 3, 4, 5] rfl ?_
          exact lp_1300 62 f hW FR.rf 0 (by decide) 0 (by decide)
        · simp only [Int32.lt_iff_toInt_lt, Int32.le_iff_toInt_le, Int32.reduceToInt, ← Int32.toInt_inj] at h_85
          refine v_bipush hC dX11_lay_37 (v := (-6)) (by decide) ?_
          exact hR _ _ _ _ _ _ _ dX11_lay_39 rfl (Nat.le_of_ble_eq_true rfl) (Nat.le_of_ble_eq_true rfl) ⟨rfl, hW, FR.rf, (.inl (by decide)), (.inl (by decide))⟩
    · simp only [Int32.lt_iff_toInt_lt, Int32.le_iff_toInt_le, Int32.reduceToInt, ← Int32.toInt_inj] at h_19
      refine v_bipush hC dX11_lay_14 (v := (-2)) (by decide) ?_
      exact hR _ _ _ _ _ _ _ dX11_lay_16 rfl (Nat.le_of_ble_eq_true rfl) (Nat.le_of_ble_eq_true rfl) ⟨rfl, hW, FR.rf, (.inl (by decide)), (.inl (by decide))⟩
