set_option maxRecDepth 100000 in
set_option maxHeartbeats 8000000 in
theorem p_X11_lay {l : Launch} {E : Ez} {L : List Nat} {f : Nat → va_E} {T : Nat → va_E → Prop} {a_0 : Nat} {a_1 : Int32} {a_2 : Int32} (hW : WT T L f) (k_0 : isX T L E a_0) : CI l yX11_lay cX11_lay 8 .int 2 0 0 E [.ref a_0, .int a_1, .int a_2] L f (fun r L1 f1 => L = L1 ∧ WT T L f1 ∧ FR [356] f f1 ∧ (¬ r.toInt = 0 ∨ (0 ≤ a_1.toInt ∧ a_1.toInt ≤ 3)) ∧ (¬ r.toInt = 0 ∨ (0 ≤ a_2.toInt ∧ a_2.toInt ≤ 3))) := by
  refine ci_of (by decide) (Nat.le_of_ble_eq_true rfl) (fun z hz hnm hC hR => ?_)
  have hC : Cx z E cX11_lay RX11 8 2 0 0 := hC
  subst hz
  show V z E 8 0 0 L f 0 [(0, .ref a_0), (1, .int a_1), (2, .int a_2)] []
  refine v_iload_n hC dX11_lay_0 rfl ?_
  refine v_si hC (rest := []) mt_X11_isSlot (p_X11_isSlot hW) mx_X11_isSlot ml_X11_353 (by decide) rfl (cells1 := 0) (slots1 := 0) (by decide) (by decide) (Nat.le_of_ble_eq_true rfl) (Nat.le_of_ble_eq_true rfl) rfl (Nat.le_of_ble_eq_true rfl) dX11_lay_1 (fun r_1 L_2 f_3 h_4 => ?_)
  obtain ⟨rfl, rfl, b_5, h_6, x_7⟩ := h_4
  try simp only [Int32.reduceToInt, Int64.reduceToInt] at x_7
  refine v_if_eq hC dX11_lay_4 (tgt := 14) (by decide) (fun h_10 => ?_) (fun h_10 => ?_)
  · simp only [Int32.lt_iff_toInt_lt, Int32.le_iff_toInt_le, Int32.reduceToInt, ← Int32.toInt_inj] at h_10
    refine v_bipush hC dX11_lay_14 (v := (-2)) (by decide) ?_
    exact hR _ _ _ _ _ _ _ dX11_lay_16 rfl (Nat.le_of_ble_eq_true rfl) (Nat.le_of_ble_eq_true rfl) ⟨rfl, hW, FR.rf, (.inl (by decide)), (.inl (by decide))⟩
  · simp only [Int32.lt_iff_toInt_lt, Int32.le_iff_toInt_le, Int32.reduceToInt, ← Int32.toInt_inj] at h_10
    refine v_iload_n hC dX11_lay_7 rfl ?_
    refine v_si hC (rest := []) mt_X11_isCloth (p_X11_isCloth hW) mx_X11_isCloth ml_X11_181 (by decide) rfl (cells1 := 0) (slots1 := 0) (by decide) (by decide) (Nat.le_of_ble_eq_true rfl) (Nat.le_of_ble_eq_true rfl) rfl (Nat.le_of_ble_eq_true rfl) dX11_lay_8 (fun r_11 L_12 f_13 h_14 => ?_)
    obtain ⟨rfl, rfl, b_15, h_16⟩ := h_14
    refine v_if_ne hC dX11_lay_11 (tgt := 17) (by decide) (fun h_19 => ?_) (fun h_19 => ?_)
    · simp only [Int32.lt_iff_toInt_lt, Int32.le_iff_toInt_le, Int32.reduceToInt, ← Int32.toInt_inj] at h_19
      refine v_aload_n hC dX11_lay_17 rfl ?_
      obtain ⟨m_20, q_22, q_23, q_24, q_25, q_26, q_27, q_28, q_29, q_30, q_31, q_32, q_33, q_34, q_35, t_21, k_36, k_37, k_38, k_39, k_40, k_41, k_42, k_43, k_44, k_45, k_46, k_47, k_48, k_49⟩ := id k_0
      have e_50 : f a_0 = ob 11 [.ref q_22, .ref q_23, .ref q_24, .ref q_25, .ref q_26, .ref q_27, .ref q_28, .ref q_29, .ref q_30, .ref q_31, .ref q_32, .ref q_33, .ref q_34, .ref q_35] := hW.at m_20 t_21
      refine v_get hC fl_X11_36 m_20 e_50 rfl dX11_lay_18 ?_
      refine v_iload_n hC dX11_lay_21 rfl ?_
      obtain ⟨m_51, g_53, t_52, k_54⟩ := id k_40
      have e_55 : f q_26 = aR E 6 4 g_53 := hW.at m_51 t_52
      obtain ⟨q_56, h_57, k_58⟩ := k_54 (a_1 : Int32).toNatClampNeg (clamp_lt (vp_in_iff.mpr (by first | omega | (simp only [Int32.lt_iff_toInt_lt, Int32.le_iff_toInt_le, Int32.reduceToInt, ← Int32.toInt_inj, true_and, and_true, or_true, true_or, false_or, or_false, false_and, and_false, not_true_eq_false, not_false_eq_true] <;> omega))))
      refine v_aald hC m_51 e_55 rfl (vp_in_iff.mpr (by first | omega | (simp only [Int32.lt_iff_toInt_lt, Int32.le_iff_toInt_le, Int32.reduceToInt, ← Int32.toInt_inj, true_and, and_true, or_true, true_or, false_or, or_false, false_and, and_false, not_true_eq_false, not_false_eq_true] <;> omega))) (v := .ref q_56) (by rw [h_57]; rfl) dX11_lay_22 ?_
      obtain ⟨m_59, q_61, t_60, k_62⟩ := id k_58
      obtain ⟨v_64, v_66, e_63, b_65, b_67⟩ := hW.at m_59 t_60
      refine v_vi hC (rest := []) m_59 e_63 rfl mi_X5_isThere ms_X5_isThere (p_X5_isThere hW k_58) mx_X5_isThere ml_X11_359 (by decide) rfl (cells1 := 0) (slots1 := 0) (by decide) (by decide) (Nat.le_of_ble_eq_true rfl) (Nat.le_of_ble_eq_true rfl) rfl (Nat.le_of_ble_eq_true rfl) dX11_lay_23 (fun r_68 L_69 f_70 h_71 => ?_)
      obtain ⟨rfl, rfl, b_72⟩ := h_71
      refine v_if_eq hC dX11_lay_26 (tgt := 37) (by decide) (fun h_75 => ?_) (fun h_75 => ?_)
      · simp only [Int32.lt_iff_toInt_lt, Int32.le_iff_toInt_le, Int32.reduceToInt, ← Int32.toInt_inj] at h_75
        refine v_bipush hC dX11_lay_37 (v := (-6)) (by decide) ?_
        exact hR _ _ _ _ _ _ _ dX11_lay_39 rfl (Nat.le_of_ble_eq_true rfl) (Nat.le_of_ble_eq_true rfl) ⟨rfl, hW, FR.rf, (.inl (by decide)), (.inl (by decide))⟩
      · simp only [Int32.lt_iff_toInt_lt, Int32.le_iff_toInt_le, Int32.reduceToInt, ← Int32.toInt_inj] at h_75
        refine v_aload_n hC dX11_lay_29 rfl ?_
        refine v_iload_n hC dX11_lay_30 rfl ?_
        refine v_vi hC (rest := []) m_20 e_50 rfl mi_X11_hasCloth ms_X11_hasCloth (p_X11_hasCloth hW k_0) mx_X11_hasCloth ml_X11_239 (by decide) rfl (cells1 := 0) (slots1 := 0) (by decide) (by decide) (Nat.le_of_ble_eq_true rfl) (Nat.le_of_ble_eq_true rfl) rfl (Nat.le_of_ble_eq_true rfl) dX11_lay_31 (fun r_76 L_77 f_78 h_79 => ?_)
        obtain ⟨rfl, rfl, b_80, h_81⟩ := h_79
        refine v_if_ne hC dX11_lay_34 (tgt := 40) (by decide) (fun h_84 => ?_) (fun h_84 => ?_)
        · simp only [Int32.lt_iff_toInt_lt, Int32.le_iff_toInt_le, Int32.reduceToInt, ← Int32.toInt_inj] at h_84
          refine v_iconst hC dX11_lay_40 (v := 0) (by decide) ?_
          refine v_istore_n hC dX11_lay_41 (by decide) (lv' := [(3, .int 0), (0, .ref a_0), (1, .int a_1), (2, .int a_2)]) rfl ?_
          refine v_aload_n hC dX11_lay_42 rfl ?_
          refine v_get hC fl_X11_36 m_20 e_50 rfl dX11_lay_43 ?_
          refine v_iload_n hC dX11_lay_46 rfl ?_
          obtain ⟨q_85, h_86, k_87⟩ := k_54 (a_1 : Int32).toNatClampNeg (clamp_lt (vp_in_iff.mpr (by first | omega | (simp only [Int32.lt_iff_toInt_lt, Int32.le_iff_toInt_le, Int32.reduceToInt, ← Int32.toInt_inj, true_and, and_true, or_true, true_or, false_or, or_false, false_and, and_false, not_true_eq_false, not_false_eq_true] <;> omega))))
          refine v_aald hC m_51 e_55 rfl (vp_in_iff.mpr (by first | omega | (simp only [Int32.lt_iff_toInt_lt, Int32.le_iff_toInt_le, Int32.reduceToInt, ← Int32.toInt_inj, true_and, and_true, or_true, true_or, false_or, or_false, false_and, and_false, not_true_eq_false, not_false_eq_true] <;> omega))) (v := .ref q_85) (by rw [h_86]; rfl) dX11_lay_47 ?_
          obtain ⟨m_88, q_90, t_89, k_91⟩ := id k_87
          obtain ⟨v_93, v_95, e_92, b_94, b_96⟩ := hW.at m_88 t_89
          refine v_getN hC fn_X11_375 m_88 e_92 rfl dX11_lay_48 ?_
          refine v_aload_n hC dX11_lay_51 rfl ?_
          refine v_get hC fl_X11_19 m_20 e_50 rfl dX11_lay_52 ?_
          obtain ⟨m_97, q_99, q_100, q_101, q_102, q_103, q_104, t_98, k_105, k_106, k_107, k_108, k_109, k_110⟩ := id k_37
          have e_111 : f q_23 = ob 0 [.ref q_99, .ref q_100, .ref q_101, .ref q_102, .ref q_103, .ref q_104] := hW.at m_97 t_98
          refine v_getN hC fn_X11_116 m_97 e_111 rfl dX11_lay_55 ?_
          obtain ⟨m_112, q_114, q_115, t_113, k_116, k_117⟩ := id k_105
          obtain ⟨v_119, v_121, v_123, e_118, b_120, b_122, b_124⟩ := hW.at m_112 t_113
          refine v_getN hC fn_X11_126 m_112 e_118 rfl dX11_lay_58 ?_
          obtain ⟨v_125, h_126⟩ : ∃ v9 : Int32, (if v_123 < (v_95 : Int32) then v_123 else (v_95 : Int32)) = v9 := ⟨_, rfl⟩
          refine v_mmin hC mm_X11_376 mm_smin mm_i mm_cmin (by decide) (Nat.le_of_ble_eq_true rfl) (Nat.le_of_ble_eq_true rfl) (Nat.le_of_ble_eq_true rfl) h_126 dX11_lay_61 ?_
          have b_127 := min_v h_126
          try simp only [Int32.reduceToInt] at b_127
          refine v_istore hC dX11_lay_64 (by decide) (lv' := [(4, .int v_125), (3, .int 0), (0, .ref a_0), (1, .int a_1), (2, .int a_2)]) rfl ?_
          refine v_iconst hC dX11_lay_66 (v := 0) (by decide) ?_
          refine v_istore hC dX11_lay_67 (by decide) (lv' := [(5, .int 0), (4, .int v_125), (3, .int 0), (0, .ref a_0), (1, .int a_1), (2, .int a_2)]) rfl ?_
          have lp_1299 : ∀ (n_1300 : Nat) (f_1289 : Nat → va_E) (hW_1290 : WT T L f_1289) (hF_1291 : FR [356] f f_1289) (i_1287 : Int32) (b_1298 : (0 ≤ i_1287.toInt ∧ i_1287.toInt ≤ 60)) (i_1288 : Int32) (hm_1302 : 60 - i_1287.toInt < (n_1300 : Int)), V z E 8 0 0 L f_1289 69 [(5, .int i_1287), (4, .int v_125), (3, .int i_1288), (0, .ref a_0), (1, .int a_1), (2, .int a_2)] [] := by
            intro n_1300
            induction n_1300 with
            | zero =>
              intro f_1289 hW_1290 hF_1291 i_1287 b_1298 i_1288 hm_1302
              have hf_1292 := hF_1291.at e_50 rfl
              have hf_1293 := hF_1291.at e_55 rfl
              have hf_1294 := hF_1291.at e_63 rfl
              have hf_1295 := hF_1291.at e_92 rfl
              have hf_1296 := hF_1291.at e_111 rfl
              have hf_1297 := hF_1291.at e_118 rfl
              exfalso; omega
            | succ n_1300 ih_1301 =>
              intro f_1289 hW_1290 hF_1291 i_1287 b_1298 i_1288 hm_1302
              have hf_1292 := hF_1291.at e_50 rfl
              have hf_1293 := hF_1291.at e_55 rfl
              have hf_1294 := hF_1291.at e_63 rfl
              have hf_1295 := hF_1291.at e_92 rfl
              have hf_1296 := hF_1291.at e_111 rfl
              have hf_1297 := hF_1291.at e_118 rfl
              refine v_iload hC dX11_lay_69 rfl ?_
              refine v_iload hC dX11_lay_71 rfl ?_
              refine v_icmp_ge hC dX11_lay_73 (tgt := 166) (by decide) (fun h_1303 => ?_) (fun h_1303 => ?_)
              · simp only [Int32.lt_iff_toInt_lt, Int32.le_iff_toInt_le, Int32.reduceToInt, ← Int32.toInt_inj] at h_1303
                refine v_iload_n hC dX11_lay_166 rfl ?_
                exact hR _ _ _ _ _ _ _ dX11_lay_167 rfl (Nat.le_of_ble_eq_true rfl) (Nat.le_of_ble_eq_true rfl) ⟨rfl, hW_1290, (hF_1291.mono rfl), (.inr (by first | omega | (simp only [Int32.lt_iff_toInt_lt, Int32.le_iff_toInt_le, Int32.reduceToInt, ← Int32.toInt_inj, true_and, and_true, or_true, true_or, false_or, or_false, false_and, and_false, not_true_eq_false, not_false_eq_true] <;> omega))), (.inr (by first | omega | (simp only [Int32.lt_iff_toInt_lt, Int32.le_iff_toInt_le, Int32.reduceToInt, ← Int32.toInt_inj, true_and, and_true, or_true, true_or, false_or, or_false, false_and, and_false, not_true_eq_false, not_false_eq_true] <;> omega)))⟩
              · simp only [Int32.lt_iff_toInt_lt, Int32.le_iff_toInt_le, Int32.reduceToInt, ← Int32.toInt_inj] at h_1303
                refine v_aload_n hC dX11_lay_76 rfl ?_
                refine v_get hC fl_X11_19 m_20 hf_1292 rfl dX11_lay_77 ?_
                refine v_getN hC fn_X11_116 m_97 hf_1296 rfl dX11_lay_80 ?_
                refine v_iload hC dX11_lay_83 rfl ?_
                refine v_vi hC (rest := []) m_112 hf_1297 rfl mi_X4_freePlace ms_X4_freePlace (p_X4_freePlace hW_1290 k_105) mx_X4_freePlace ml_X11_301 (by decide) rfl (cells1 := 0) (slots1 := 0) (by decide) (by decide) (Nat.le_of_ble_eq_true rfl) (Nat.le_of_ble_eq_true rfl) rfl (Nat.le_of_ble_eq_true rfl) dX11_lay_85 (fun r_1304 L_1305 f_1306 h_1307 => ?_)
                obtain ⟨rfl, rfl, h_1308⟩ := h_1307
                refine v_istore hC dX11_lay_88 (by decide) (lv' := [(6, .int r_1304), (5, .int i_1287), (4, .int v_125), (3, .int i_1288), (0, .ref a_0), (1, .int a_1), (2, .int a_2)]) rfl ?_
                refine v_aload_n hC dX11_lay_90 rfl ?_
                refine v_get hC fl_X11_36 m_20 hf_1292 rfl dX11_lay_91 ?_
                refine v_iload_n hC dX11_lay_94 rfl ?_
                obtain ⟨q_1311, h_1312, k_1313⟩ := k_54 (a_1 : Int32).toNatClampNeg (clamp_lt (vp_in_iff.mpr (by first | omega | (simp only [Int32.lt_iff_toInt_lt, Int32.le_iff_toInt_le, Int32.reduceToInt, ← Int32.toInt_inj, true_and, and_true, or_true, true_or, false_or, or_false, false_and, and_false, not_true_eq_false, not_false_eq_true] <;> omega))))
                refine v_aald hC m_51 hf_1293 rfl (vp_in_iff.mpr (by first | omega | (simp only [Int32.lt_iff_toInt_lt, Int32.le_iff_toInt_le, Int32.reduceToInt, ← Int32.toInt_inj, true_and, and_true, or_true, true_or, false_or, or_false, false_and, and_false, not_true_eq_false, not_false_eq_true] <;> omega))) (v := .ref q_1311) (by rw [h_1312]; rfl) dX11_lay_95 ?_
                refine v_iload hC dX11_lay_96 rfl ?_
                obtain ⟨m_1314, q_1316, t_1315, k_1317⟩ := id k_1313
                obtain ⟨v_1319, v_1321, e_1318, b_1320, b_1322⟩ := hW_1290.at m_1314 t_1315
                refine v_vi hC (rest := []) m_1314 e_1318 rfl mi_X5_isZero ms_X5_isZero (p_X5_isZero hW_1290 k_1313) mx_X5_isZero ml_X11_379 (by decide) rfl (cells1 := 0) (slots1 := 0) (by decide) (by decide) (Nat.le_of_ble_eq_true rfl) (Nat.le_of_ble_eq_true rfl) rfl (Nat.le_of_ble_eq_true rfl) dX11_lay_98 (fun r_1323 L_1324 f_1325 h_1326 => ?_)
                obtain ⟨rfl, rfl, b_1327, h_1328⟩ := h_1326
                have jn_1339 : ∀ (v_1340 : Int32) (b_1341 : (0 ≤ v_1340.toInt ∧ v_1340.toInt ≤ 3)), V z E 8 0 0 L f_1289 120 [(6, .int r_1304), (5, .int i_1287), (4, .int v_125), (3, .int i_1288), (0, .ref a_0), (1, .int a_1), (2, .int a_2)] [.int v_1340] := by
                  intro v_1340 b_1341
                  refine v_istore hC dX11_lay_120 (by decide) (lv' := [(7, .int v_1340), (6, .int r_1304), (5, .int i_1287), (4, .int v_125), (3, .int i_1288), (0, .ref a_0), (1, .int a_1), (2, .int a_2)]) rfl ?_
                  refine v_aload_n hC dX11_lay_122 rfl ?_
                  refine v_get hC fl_X11_19 m_20 hf_1292 rfl dX11_lay_123 ?_
                  refine v_getN hC fn_X11_190 m_97 hf_1296 rfl dX11_lay_126 ?_
                  refine v_iload_n hC dX11_lay_129 rfl ?_
                  obtain ⟨m_1342, g_1344, t_1343, k_1345⟩ := id k_110
                  have e_1346 : f_1289 q_104 = aR E 5 4 g_1344 := hW_1290.at m_1342 t_1343
                  obtain ⟨q_1347, h_1348, k_1349⟩ := k_1345 (a_2 : Int32).toNatClampNeg (clamp_lt (vp_in_iff.mpr (by first | omega | (simp only [Int32.lt_iff_toInt_lt, Int32.le_iff_toInt_le, Int32.reduceToInt, ← Int32.toInt_inj, true_and, and_true, or_true, true_or, false_or, or_false, false_and, and_false, not_true_eq_false, not_false_eq_true] <;> omega))))
                  refine v_aald hC m_1342 e_1346 rfl (vp_in_iff.mpr (by first | omega | (simp only [Int32.lt_iff_toInt_lt, Int32.le_iff_toInt_le, Int32.reduceToInt, ← Int32.toInt_inj, true_and, and_true, or_true, true_or, false_or, or_false, false_and, and_false, not_true_eq_false, not_false_eq_true] <;> omega))) (v := .ref q_1347) (by rw [h_1348]; rfl) dX11_lay_130 ?_
                  refine v_iload hC dX11_lay_131 rfl ?_
                  obtain ⟨m_1350, q_1352, t_1351, k_1353⟩ := id k_1349
                  obtain ⟨v_1355, e_1354, b_1356⟩ := hW_1290.at m_1350 t_1351
                  refine v_vi hC (rest := []) m_1350 e_1354 rfl mi_X1_stitchAt ms_X1_stitchAt (p_X1_stitchAt hW_1290 k_1349) mx_X1_stitchAt ml_X11_242 (by decide) rfl (cells1 := 0) (slots1 := 0) (by decide) (by decide) (Nat.le_of_ble_eq_true rfl) (Nat.le_of_ble_eq_true rfl) rfl (Nat.le_of_ble_eq_true rfl) dX11_lay_133 (fun r_1357 L_1358 f_1359 h_1360 => ?_)
                  obtain ⟨rfl, rfl, h_1361⟩ := h_1360
                  refine v_iload hC dX11_lay_136 rfl ?_
                  refine v_icmp_eq hC dX11_lay_138 (tgt := 160) (by decide) (fun h_1364 => ?_) (fun h_1364 => ?_)
                  · simp only [Int32.lt_iff_toInt_lt, Int32.le_iff_toInt_le, Int32.reduceToInt, ← Int32.toInt_inj] at h_1364
                    obtain ⟨v_1365, h_1366⟩ : ∃ v9 : Int32, i_1287 + Int32.ofInt 1 = v9 := ⟨_, rfl⟩
                    have h_1367 := add_v (b := 1) h_1366 (by first | omega | (simp only [Int32.lt_iff_toInt_lt, Int32.le_iff_toInt_le, Int32.reduceToInt, ← Int32.toInt_inj, true_and, and_true, or_true, true_or, false_or, or_false, false_and, and_false, not_true_eq_false, not_false_eq_true] <;> omega)) (by first | omega | (simp only [Int32.lt_iff_toInt_lt, Int32.le_iff_toInt_le, Int32.reduceToInt, ← Int32.toInt_inj, true_and, and_true, or_true, true_or, false_or, or_false, false_and, and_false, not_true_eq_false, not_false_eq_true] <;> omega))
                    simp only [Int32.reduceToInt] at h_1367
                    refine v_iinc hC dX11_lay_160 (k := 2) rfl (v := v_1365) h_1366 (by decide) (lv' := [(5, .int v_1365), (7, .int v_1340), (6, .int r_1304), (4, .int v_125), (3, .int i_1288), (0, .ref a_0), (1, .int a_1), (2, .int a_2)]) rfl ?_
                    refine v_goto hC dX11_lay_163 (tgt := 69) (by decide) ?_
                    refine v_pick [0, 3, 4, 5, 6, 7] rfl ?_
                    exact ih_1301 f_1289 hW_1290 (hF_1291.mono rfl) v_1365 (by first | omega | (simp only [Int32.lt_iff_toInt_lt, Int32.le_iff_toInt_le, Int32.reduceToInt, ← Int32.toInt_inj, true_and, and_true, or_true, true_or, false_or, or_false, false_and, and_false, not_true_eq_false, not_false_eq_true] <;> omega)) i_1288 (by first | omega | (simp only [Int32.lt_iff_toInt_lt, Int32.le_iff_toInt_le, Int32.reduceToInt, ← Int32.toInt_inj, true_and, and_true, or_true, true_or, false_or, or_false, false_and, and_false, not_true_eq_false, not_false_eq_true] <;> omega))
                  · simp only [Int32.lt_iff_toInt_lt, Int32.le_iff_toInt_le, Int32.reduceToInt, ← Int32.toInt_inj] at h_1364
                    refine v_aload_n hC dX11_lay_141 rfl ?_
                    refine v_get hC fl_X11_19 m_20 hf_1292 rfl dX11_lay_142 ?_
                    refine v_getN hC fn_X11_190 m_97 hf_1296 rfl dX11_lay_145 ?_
                    refine v_iload_n hC dX11_lay_148 rfl ?_
                    obtain ⟨q_1368, h_1369, k_1370⟩ := k_1345 (a_2 : Int32).toNatClampNeg (clamp_lt (vp_in_iff.mpr (by first | omega | (simp only [Int32.lt_iff_toInt_lt, Int32.le_iff_toInt_le, Int32.reduceToInt, ← Int32.toInt_inj, true_and, and_true, or_true, true_or, false_or, or_false, false_and, and_false, not_true_eq_false, not_false_eq_true] <;> omega))))
                    refine v_aald hC m_1342 e_1346 rfl (vp_in_iff.mpr (by first | omega | (simp only [Int32.lt_iff_toInt_lt, Int32.le_iff_toInt_le, Int32.reduceToInt, ← Int32.toInt_inj, true_and, and_true, or_true, true_or, false_or, or_false, false_and, and_false, not_true_eq_false, not_false_eq_true] <;> omega))) (v := .ref q_1368) (by rw [h_1369]; rfl) dX11_lay_149 ?_
                    refine v_iload hC dX11_lay_150 rfl ?_
                    refine v_iload hC dX11_lay_152 rfl ?_
                    obtain ⟨m_1371, q_1373, t_1372, k_1374⟩ := id k_1370
                    obtain ⟨v_1376, e_1375, b_1377⟩ := hW_1290.at m_1371 t_1372
                    refine v_vv hC (rest := []) m_1371 e_1375 rfl mi_X1_setStitch ms_X1_setStitch (p_X1_setStitch hW_1290 k_1370) mx_X1_setStitch ml_X11_324 (by decide) rfl (cells1 := 0) (slots1 := 0) (by decide) (by decide) (Nat.le_of_ble_eq_true rfl) (Nat.le_of_ble_eq_true rfl) rfl (Nat.le_of_ble_eq_true rfl) dX11_lay_154 (fun L_1379 f_1380 h_1381 => ?_)
                    obtain ⟨rfl, hW_1382, hF_1383⟩ := h_1381
                    have hf_1384 := hF_1383.at hf_1292 rfl
                    have hf_1385 := hF_1383.at hf_1293 rfl
                    have hf_1386 := hF_1383.at hf_1294 rfl
                    have hf_1387 := hF_1383.at hf_1295 rfl
                    have hf_1388 := hF_1383.at hf_1296 rfl
                    have hf_1389 := hF_1383.at hf_1297 rfl
                    have hf_1390 := hF_1383.at e_1318 rfl
                    have hf_1391 := hF_1383.at e_1346 rfl
                    have hf_1392 := hF_1383.at e_1354 rfl
                    have hf_1393 := hF_1383.at e_1375 rfl
                    obtain ⟨v_1394, h_1395⟩ : ∃ v9 : Int32, i_1288 + Int32.ofInt 1 = v9 := ⟨_, rfl⟩
                    refine v_iinc hC dX11_lay_157 (k := 4) rfl (v := v_1394) h_1395 (by decide) (lv' := [(3, .int v_1394), (7, .int v_1340), (6, .int r_1304), (5, .int i_1287), (4, .int v_125), (0, .ref a_0), (1, .int a_1), (2, .int a_2)]) rfl ?_
                    obtain ⟨v_1396, h_1397⟩ : ∃ v9 : Int32, i_1287 + Int32.ofInt 1 = v9 := ⟨_, rfl⟩
                    have h_1398 := add_v (b := 1) h_1397 (by first | omega | (simp only [Int32.lt_iff_toInt_lt, Int32.le_iff_toInt_le, Int32.reduceToInt, ← Int32.toInt_inj, true_and, and_true, or_true, true_or, false_or, or_false, false_and, and_false, not_true_eq_false, not_false_eq_true] <;> omega)) (by first | omega | (simp only [Int32.lt_iff_toInt_lt, Int32.le_iff_toInt_le, Int32.reduceToInt, ← Int32.toInt_inj, true_and, and_true, or_true, true_or, false_or, or_false, false_and, and_false, not_true_eq_false, not_false_eq_true] <;> omega))
                    simp only [Int32.reduceToInt] at h_1398
                    refine v_iinc hC dX11_lay_160 (k := 3) rfl (v := v_1396) h_1397 (by decide) (lv' := [(5, .int v_1396), (3, .int v_1394), (7, .int v_1340), (6, .int r_1304), (4, .int v_125), (0, .ref a_0), (1, .int a_1), (2, .int a_2)]) rfl ?_
                    refine v_goto hC dX11_lay_163 (tgt := 69) (by decide) ?_
                    refine v_pick [0, 4, 1, 5, 6, 7] rfl ?_
                    exact ih_1301 f_1380 hW_1382 ((hF_1291.tr hF_1383).mono rfl) v_1396 (by first | omega | (simp only [Int32.lt_iff_toInt_lt, Int32.le_iff_toInt_le, Int32.reduceToInt, ← Int32.toInt_inj, true_and, and_true, or_true, true_or, false_or, or_false, false_and, and_false, not_true_eq_false, not_false_eq_true] <;> omega)) v_1394 (by first | omega | (simp only [Int32.lt_iff_toInt_lt, Int32.le_iff_toInt_le, Int32.reduceToInt, ← Int32.toInt_inj, true_and, and_true, or_true, true_or, false_or, or_false, false_and, and_false, not_true_eq_false, not_false_eq_true] <;> omega))
                refine v_if_eq hC dX11_lay_101 (tgt := 108) (by decide) (fun h_1331 => ?_) (fun h_1331 => ?_)
                · simp only [Int32.lt_iff_toInt_lt, Int32.le_iff_toInt_le, Int32.reduceToInt, ← Int32.toInt_inj] at h_1331
                  refine v_aload_n hC dX11_lay_108 rfl ?_
                  refine v_get hC fl_X11_19 m_20 hf_1292 rfl dX11_lay_109 ?_
                  refine v_getN hC fn_X11_116 m_97 hf_1296 rfl dX11_lay_112 ?_
                  refine v_iload hC dX11_lay_115 rfl ?_
                  refine v_vi hC (rest := []) m_112 hf_1297 rfl mi_X4_notPlainAt ms_X4_notPlainAt (p_X4_notPlainAt hW_1290 k_105) mx_X4_notPlainAt ml_X11_382 (by decide) rfl (cells1 := 0) (slots1 := 0) (by decide) (by decide) (Nat.le_of_ble_eq_true rfl) (Nat.le_of_ble_eq_true rfl) rfl (Nat.le_of_ble_eq_true rfl) dX11_lay_117 (fun r_1399 L_1400 f_1401 h_1402 => ?_)
                  obtain ⟨rfl, rfl, b_1403⟩ := h_1402
                  refine v_pick [0, 1, 2, 3, 4, 5, 6] rfl ?_
                  exact jn_1339 r_1399 (by first | omega | (simp only [Int32.lt_iff_toInt_lt, Int32.le_iff_toInt_le, Int32.reduceToInt, ← Int32.toInt_inj, true_and, and_true, or_true, true_or, false_or, or_false, false_and, and_false, not_true_eq_false, not_false_eq_true] <;> omega))
                · simp only [Int32.lt_iff_toInt_lt, Int32.le_iff_toInt_le, Int32.reduceToInt, ← Int32.toInt_inj] at h_1331
                  refine v_iconst hC dX11_lay_104 (v := 0) (by decide) ?_
                  refine v_goto hC dX11_lay_105 (tgt := 120) (by decide) ?_
                  refine v_pick [0, 1, 2, 3, 4, 5, 6] rfl ?_
                  exact jn_1339 0 (by decide)
          refine v_pick [0, 1, 2, 3, 4, 5] rfl ?_
          exact lp_1299 62 f hW FR.rf 0 (by decide) 0 (by decide)
        · simp only [Int32.lt_iff_toInt_lt, Int32.le_iff_toInt_le, Int32.reduceToInt, ← Int32.toInt_inj] at h_84
          refine v_bipush hC dX11_lay_37 (v := (-6)) (by decide) ?_
          exact hR _ _ _ _ _ _ _ dX11_lay_39 rfl (Nat.le_of_ble_eq_true rfl) (Nat.le_of_ble_eq_true rfl) ⟨rfl, hW, FR.rf, (.inl (by decide)), (.inl (by decide))⟩
    · simp only [Int32.lt_iff_toInt_lt, Int32.le_iff_toInt_le, Int32.reduceToInt, ← Int32.toInt_inj] at h_19
      refine v_bipush hC dX11_lay_14 (v := (-2)) (by decide) ?_
      exact hR _ _ _ _ _ _ _ dX11_lay_16 rfl (Nat.le_of_ble_eq_true rfl) (Nat.le_of_ble_eq_true rfl) ⟨rfl, hW, FR.rf, (.inl (by decide)), (.inl (by decide))⟩
