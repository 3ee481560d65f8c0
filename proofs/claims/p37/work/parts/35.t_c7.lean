set_option maxRecDepth 100000 in
set_option maxHeartbeats 8000000 in
theorem p_X11_lay {l : Launch} {E : Ez} {L : List Nat} {f : Nat → va_E} {T : Nat → va_E → Prop} {a_0 : Nat} {a_1 : Int32} {a_2 : Int32} (hW : WT T L f) (k_0 : isX T L E a_0) : CI l yX11_lay cX11_lay 8 .int 2 0 0 E [.ref a_0, .int a_1, .int a_2] L f (fun r L1 f1 => L = L1 ∧ WT T L f1 ∧ FR [356] f f1 ∧ (¬ r.toInt = 0 ∨ (0 ≤ a_1.toInt ∧ a_1.toInt ≤ 3)) ∧ (¬ r.toInt = 0 ∨ (0 ≤ a_2.toInt ∧ a_2.toInt ≤ 3))) := by
  refine ci_of (by decide) (Nat.le_of_ble_eq_true rfl) (fun z hz hnm hC hR => ?_)
  have hC : Cx z E cX11_lay RX11 8 2 0 0 := hC
  subst hz
  show V z E 8 0 0 L f 0 [(0, .ref a_0), (1, .int a_1), (2, .int a_2)] []
  refine v_iload_n hC dX11_lay_0 rfl ?_
  refine v_si hC (rest := []) mt_X11_isSlot (p_X11_isSlot hW) mx_X11_isSlot ml_X11_353 (by decide) rfl (cells1 := 0) (slots1 := 0) (by decide) (by decide) (Nat.le_of_ble_eq_true rfl) (Nat.le_of_ble_eq_true rfl) rfl (Nat.le_of_ble_eq_true rfl) dX11_lay_1 (fun r_1 L_2 f_3 h_4 => ?_)
  obtain ⟨rfl, rfl, b_5, h_6⟩ := h_4
  refine v_if_eq hC dX11_lay_4 (tgt := 14) (by decide) (fun h_9 => ?_) (fun h_9 => ?_)
  · simp only [Int32.lt_iff_toInt_lt, Int32.le_iff_toInt_le, Int32.reduceToInt, ← Int32.toInt_inj] at h_9
    refine v_bipush hC dX11_lay_14 (v := (-2)) (by decide) ?_
    exact hR _ _ _ _ _ _ _ dX11_lay_16 rfl (Nat.le_of_ble_eq_true rfl) (Nat.le_of_ble_eq_true rfl) ⟨rfl, hW, FR.rf, (.inl (by decide)), (.inl (by decide))⟩
  · simp only [Int32.lt_iff_toInt_lt, Int32.le_iff_toInt_le, Int32.reduceToInt, ← Int32.toInt_inj] at h_9
    refine v_iload_n hC dX11_lay_7 rfl ?_
    refine v_si hC (rest := []) mt_X11_isCloth (p_X11_isCloth hW) mx_X11_isCloth ml_X11_181 (by decide) rfl (cells1 := 0) (slots1 := 0) (by decide) (by decide) (Nat.le_of_ble_eq_true rfl) (Nat.le_of_ble_eq_true rfl) rfl (Nat.le_of_ble_eq_true rfl) dX11_lay_8 (fun r_10 L_11 f_12 h_13 => ?_)
    obtain ⟨rfl, rfl, b_14, h_15⟩ := h_13
    refine v_if_ne hC dX11_lay_11 (tgt := 17) (by decide) (fun h_18 => ?_) (fun h_18 => ?_)
    · simp only [Int32.lt_iff_toInt_lt, Int32.le_iff_toInt_le, Int32.reduceToInt, ← Int32.toInt_inj] at h_18
      refine v_aload_n hC dX11_lay_17 rfl ?_
      obtain ⟨m_19, q_21, q_22, q_23, q_24, q_25, q_26, q_27, q_28, q_29, q_30, q_31, q_32, q_33, q_34, t_20, k_35, k_36, k_37, k_38, k_39, k_40, k_41, k_42, k_43, k_44, k_45, k_46, k_47, k_48⟩ := id k_0
      have e_49 : f a_0 = ob 11 [.ref q_21, .ref q_22, .ref q_23, .ref q_24, .ref q_25, .ref q_26, .ref q_27, .ref q_28, .ref q_29, .ref q_30, .ref q_31, .ref q_32, .ref q_33, .ref q_34] := hW.at m_19 t_20
      refine v_get hC fl_X11_36 m_19 e_49 rfl dX11_lay_18 ?_
      refine v_iload_n hC dX11_lay_21 rfl ?_
      obtain ⟨m_50, g_52, t_51, k_53⟩ := id k_39
      have e_54 : f q_25 = aR E 6 4 g_52 := hW.at m_50 t_51
      obtain ⟨q_55, h_56, k_57⟩ := k_53 (a_1 : Int32).toNatClampNeg (clamp_lt (vp_in_iff.mpr (by first | omega | (simp only [Int32.lt_iff_toInt_lt, Int32.le_iff_toInt_le, Int32.reduceToInt, ← Int32.toInt_inj, true_and, and_true, or_true, true_or, false_or, or_false, false_and, and_false, not_true_eq_false, not_false_eq_true] <;> omega))))
      refine v_aald hC m_50 e_54 rfl (vp_in_iff.mpr (by first | omega | (simp only [Int32.lt_iff_toInt_lt, Int32.le_iff_toInt_le, Int32.reduceToInt, ← Int32.toInt_inj, true_and, and_true, or_true, true_or, false_or, or_false, false_and, and_false, not_true_eq_false, not_false_eq_true] <;> omega))) (v := .ref q_55) (by rw [h_56]; rfl) dX11_lay_22 ?_
      obtain ⟨m_58, q_60, t_59, k_61⟩ := id k_57
      obtain ⟨v_63, v_65, e_62, b_64, b_66⟩ := hW.at m_58 t_59
      refine v_vi hC (rest := []) m_58 e_62 rfl mi_X5_isThere ms_X5_isThere (p_X5_isThere hW k_57) mx_X5_isThere ml_X11_359 (by decide) rfl (cells1 := 0) (slots1 := 0) (by decide) (by decide) (Nat.le_of_ble_eq_true rfl) (Nat.le_of_ble_eq_true rfl) rfl (Nat.le_of_ble_eq_true rfl) dX11_lay_23 (fun r_67 L_68 f_69 h_70 => ?_)
      obtain ⟨rfl, rfl, b_71⟩ := h_70
      refine v_if_eq hC dX11_lay_26 (tgt := 37) (by decide) (fun h_74 => ?_) (fun h_74 => ?_)
      · simp only [Int32.lt_iff_toInt_lt, Int32.le_iff_toInt_le, Int32.reduceToInt, ← Int32.toInt_inj] at h_74
        refine v_bipush hC dX11_lay_37 (v := (-6)) (by decide) ?_
        exact hR _ _ _ _ _ _ _ dX11_lay_39 rfl (Nat.le_of_ble_eq_true rfl) (Nat.le_of_ble_eq_true rfl) ⟨rfl, hW, FR.rf, (.inl (by decide)), (.inl (by decide))⟩
      · simp only [Int32.lt_iff_toInt_lt, Int32.le_iff_toInt_le, Int32.reduceToInt, ← Int32.toInt_inj] at h_74
        refine v_aload_n hC dX11_lay_29 rfl ?_
        refine v_iload_n hC dX11_lay_30 rfl ?_
        refine v_vi hC (rest := []) m_19 e_49 rfl mi_X11_hasCloth ms_X11_hasCloth (p_X11_hasCloth hW k_0) mx_X11_hasCloth ml_X11_239 (by decide) rfl (cells1 := 0) (slots1 := 0) (by decide) (by decide) (Nat.le_of_ble_eq_true rfl) (Nat.le_of_ble_eq_true rfl) rfl (Nat.le_of_ble_eq_true rfl) dX11_lay_31 (fun r_75 L_76 f_77 h_78 => ?_)
        obtain ⟨rfl, rfl, b_79, h_80⟩ := h_78
        refine v_if_ne hC dX11_lay_34 (tgt := 40) (by decide) (fun h_83 => ?_) (fun h_83 => ?_)
        · simp only [Int32.lt_iff_toInt_lt, Int32.le_iff_toInt_le, Int32.reduceToInt, ← Int32.toInt_inj] at h_83
          refine v_iconst hC dX11_lay_40 (v := 0) (by decide) ?_
          refine v_istore_n hC dX11_lay_41 (by decide) (lv' := [(3, .int 0), (0, .ref a_0), (1, .int a_1), (2, .int a_2)]) rfl ?_
          refine v_aload_n hC dX11_lay_42 rfl ?_
          refine v_get hC fl_X11_36 m_19 e_49 rfl dX11_lay_43 ?_
          refine v_iload_n hC dX11_lay_46 rfl ?_
          obtain ⟨q_84, h_85, k_86⟩ := k_53 (a_1 : Int32).toNatClampNeg (clamp_lt (vp_in_iff.mpr (by first | omega | (simp only [Int32.lt_iff_toInt_lt, Int32.le_iff_toInt_le, Int32.reduceToInt, ← Int32.toInt_inj, true_and, and_true, or_true, true_or, false_or, or_false, false_and, and_false, not_true_eq_false, not_false_eq_true] <;> omega))))
          refine v_aald hC m_50 e_54 rfl (vp_in_iff.mpr (by first | omega | (simp only [Int32.lt_iff_toInt_lt, Int32.le_iff_toInt_le, Int32.reduceToInt, ← Int32.toInt_inj, true_and, and_true, or_true, true_or, false_or, or_false, false_and, and_false, not_true_eq_false, not_false_eq_true] <;> omega))) (v := .ref q_84) (by rw [h_85]; rfl) dX11_lay_47 ?_
          obtain ⟨m_87, q_89, t_88, k_90⟩ := id k_86
          obtain ⟨v_92, v_94, e_91, b_93, b_95⟩ := hW.at m_87 t_88
          refine v_getN hC fn_X11_375 m_87 e_91 rfl dX11_lay_48 ?_
          refine v_aload_n hC dX11_lay_51 rfl ?_
          refine v_get hC fl_X11_19 m_19 e_49 rfl dX11_lay_52 ?_
          obtain ⟨m_96, q_98, q_99, q_100, q_101, q_102, q_103, t_97, k_104, k_105, k_106, k_107, k_108, k_109⟩ := id k_36
          have e_110 : f q_22 = ob 0 [.ref q_98, .ref q_99, .ref q_100, .ref q_101, .ref q_102, .ref q_103] := hW.at m_96 t_97
          refine v_getN hC fn_X11_116 m_96 e_110 rfl dX11_lay_55 ?_
          obtain ⟨m_111, q_113, q_114, t_112, k_115, k_116⟩ := id k_104
          obtain ⟨v_118, v_120, v_122, e_117, b_119, b_121, b_123⟩ := hW.at m_111 t_112
          refine v_getN hC fn_X11_126 m_111 e_117 rfl dX11_lay_58 ?_
          obtain ⟨v_124, h_125⟩ : ∃ v9 : Int32, (if v_122 < (v_94 : Int32) then v_122 else (v_94 : Int32)) = v9 := ⟨_, rfl⟩
          refine v_mmin hC mm_X11_376 mm_smin mm_i mm_cmin (by decide) (Nat.le_of_ble_eq_true rfl) (Nat.le_of_ble_eq_true rfl) (Nat.le_of_ble_eq_true rfl) h_125 dX11_lay_61 ?_
          have b_126 := min_v h_125
          try simp only [Int32.reduceToInt] at b_126
          refine v_istore hC dX11_lay_64 (by decide) (lv' := [(4, .int v_124), (3, .int 0), (0, .ref a_0), (1, .int a_1), (2, .int a_2)]) rfl ?_
          refine v_iconst hC dX11_lay_66 (v := 0) (by decide) ?_
          refine v_istore hC dX11_lay_67 (by decide) (lv' := [(5, .int 0), (4, .int v_124), (3, .int 0), (0, .ref a_0), (1, .int a_1), (2, .int a_2)]) rfl ?_
          have lp_1298 : ∀ (n_1299 : Nat) (f_1288 : Nat → va_E) (hW_1289 : WT T L f_1288) (hF_1290 : FR [356] f f_1288) (i_1286 : Int32) (b_1297 : (0 ≤ i_1286.toInt ∧ i_1286.toInt ≤ 60)) (i_1287 : Int32) (hm_1301 : 60 - i_1286.toInt < (n_1299 : Int)), V z E 8 0 0 L f_1288 69 [(5, .int i_1286), (4, .int v_124), (3, .int i_1287), (0, .ref a_0), (1, .int a_1), (2, .int a_2)] [] := by
            intro n_1299
            induction n_1299 with
            | zero =>
              intro f_1288 hW_1289 hF_1290 i_1286 b_1297 i_1287 hm_1301
              have hf_1291 := hF_1290.at e_49 rfl
              have hf_1292 := hF_1290.at e_54 rfl
              have hf_1293 := hF_1290.at e_62 rfl
              have hf_1294 := hF_1290.at e_91 rfl
              have hf_1295 := hF_1290.at e_110 rfl
              have hf_1296 := hF_1290.at e_117 rfl
              exfalso; omega
            | succ n_1299 ih_1300 =>
              intro f_1288 hW_1289 hF_1290 i_1286 b_1297 i_1287 hm_1301
              have hf_1291 := hF_1290.at e_49 rfl
              have hf_1292 := hF_1290.at e_54 rfl
              have hf_1293 := hF_1290.at e_62 rfl
              have hf_1294 := hF_1290.at e_91 rfl
              have hf_1295 := hF_1290.at e_110 rfl
              have hf_1296 := hF_1290.at e_117 rfl
              refine v_iload hC dX11_lay_69 rfl ?_
              refine v_iload hC dX11_lay_71 rfl ?_
              refine v_icmp_ge hC dX11_lay_73 (tgt := 166) (by decide) (fun h_1302 => ?_) (fun h_1302 => ?_)
              · simp only [Int32.lt_iff_toInt_lt, Int32.le_iff_toInt_le, Int32.reduceToInt, ← Int32.toInt_inj] at h_1302
                refine v_iload_n hC dX11_lay_166 rfl ?_
                exact hR _ _ _ _ _ _ _ dX11_lay_167 rfl (Nat.le_of_ble_eq_true rfl) (Nat.le_of_ble_eq_true rfl) ⟨rfl, hW_1289, (hF_1290.mono rfl), (.inr (by first | omega | (simp only [Int32.lt_iff_toInt_lt, Int32.le_iff_toInt_le, Int32.reduceToInt, ← Int32.toInt_inj, true_and, and_true, or_true, true_or, false_or, or_false, false_and, and_false, not_true_eq_false, not_false_eq_true] <;> omega))), (.inr (by first | omega | (simp only [Int32.lt_iff_toInt_lt, Int32.le_iff_toInt_le, Int32.reduceToInt, ← Int32.toInt_inj, true_and, and_true, or_true, true_or, false_or, or_false, false_and, and_false, not_true_eq_false, not_false_eq_true] <;> omega)))⟩
              · simp only [Int32.lt_iff_toInt_lt, Int32.le_iff_toInt_le, Int32.reduceToInt, ← Int32.toInt_inj] at h_1302
                refine v_aload_n hC dX11_lay_76 rfl ?_
                refine v_get hC fl_X11_19 m_19 hf_1291 rfl dX11_lay_77 ?_
                refine v_getN hC fn_X11_116 m_96 hf_1295 rfl dX11_lay_80 ?_
                refine v_iload hC dX11_lay_83 rfl ?_
                refine v_vi hC (rest := []) m_111 hf_1296 rfl mi_X4_freePlace ms_X4_freePlace (p_X4_freePlace hW_1289 k_104) mx_X4_freePlace ml_X11_301 (by decide) rfl (cells1 := 0) (slots1 := 0) (by decide) (by decide) (Nat.le_of_ble_eq_true rfl) (Nat.le_of_ble_eq_true rfl) rfl (Nat.le_of_ble_eq_true rfl) dX11_lay_85 (fun r_1303 L_1304 f_1305 h_1306 => ?_)
                obtain ⟨rfl, rfl, h_1307⟩ := h_1306
                refine v_istore hC dX11_lay_88 (by decide) (lv' := [(6, .int r_1303), (5, .int i_1286), (4, .int v_124), (3, .int i_1287), (0, .ref a_0), (1, .int a_1), (2, .int a_2)]) rfl ?_
                refine v_aload_n hC dX11_lay_90 rfl ?_
                refine v_get hC fl_X11_36 m_19 hf_1291 rfl dX11_lay_91 ?_
                refine v_iload_n hC dX11_lay_94 rfl ?_
                obtain ⟨q_1310, h_1311, k_1312⟩ := k_53 (a_1 : Int32).toNatClampNeg (clamp_lt (vp_in_iff.mpr (by first | omega | (simp only [Int32.lt_iff_toInt_lt, Int32.le_iff_toInt_le, Int32.reduceToInt, ← Int32.toInt_inj, true_and, and_true, or_true, true_or, false_or, or_false, false_and, and_false, not_true_eq_false, not_false_eq_true] <;> omega))))
                refine v_aald hC m_50 hf_1292 rfl (vp_in_iff.mpr (by first | omega | (simp only [Int32.lt_iff_toInt_lt, Int32.le_iff_toInt_le, Int32.reduceToInt, ← Int32.toInt_inj, true_and, and_true, or_true, true_or, false_or, or_false, false_and, and_false, not_true_eq_false, not_false_eq_true] <;> omega))) (v := .ref q_1310) (by rw [h_1311]; rfl) dX11_lay_95 ?_
                refine v_iload hC dX11_lay_96 rfl ?_
                obtain ⟨m_1313, q_1315, t_1314, k_1316⟩ := id k_1312
                obtain ⟨v_1318, v_1320, e_1317, b_1319, b_1321⟩ := hW_1289.at m_1313 t_1314
                refine v_vi hC (rest := []) m_1313 e_1317 rfl mi_X5_isZero ms_X5_isZero (p_X5_isZero hW_1289 k_1312) mx_X5_isZero ml_X11_379 (by decide) rfl (cells1 := 0) (slots1 := 0) (by decide) (by decide) (Nat.le_of_ble_eq_true rfl) (Nat.le_of_ble_eq_true rfl) rfl (Nat.le_of_ble_eq_true rfl) dX11_lay_98 (fun r_1322 L_1323 f_1324 h_1325 => ?_)
                obtain ⟨rfl, rfl, b_1326, h_1327⟩ := h_1325
                have jn_1338 : ∀ (v_1339 : Int32) (b_1340 : (0 ≤ v_1339.toInt ∧ v_1339.toInt ≤ 3)), V z E 8 0 0 L f_1288 120 [(6, .int r_1303), (5, .int i_1286), (4, .int v_124), (3, .int i_1287), (0, .ref a_0), (1, .int a_1), (2, .int a_2)] [.int v_1339] := by
                  intro v_1339 b_1340
                  refine v_istore hC dX11_lay_120 (by decide) (lv' := [(7, .int v_1339), (6, .int r_1303), (5, .int i_1286), (4, .int v_124), (3, .int i_1287), (0, .ref a_0), (1, .int a_1), (2, .int a_2)]) rfl ?_
                  refine v_aload_n hC dX11_lay_122 rfl ?_
                  refine v_get hC fl_X11_19 m_19 hf_1291 rfl dX11_lay_123 ?_
                  refine v_getN hC fn_X11_190 m_96 hf_1295 rfl dX11_lay_126 ?_
                  refine v_iload_n hC dX11_lay_129 rfl ?_
                  obtain ⟨m_1341, g_1343, t_1342, k_1344⟩ := id k_109
                  have e_1345 : f_1288 q_103 = aR E 5 4 g_1343 := hW_1289.at m_1341 t_1342
                  obtain ⟨q_1346, h_1347, k_1348⟩ := k_1344 (a_2 : Int32).toNatClampNeg (clamp_lt (vp_in_iff.mpr (by first | omega | (simp only [Int32.lt_iff_toInt_lt, Int32.le_iff_toInt_le, Int32.reduceToInt, ← Int32.toInt_inj, true_and, and_true, or_true, true_or, false_or, or_false, false_and, and_false, not_true_eq_false, not_false_eq_true] <;> omega))))
                  refine v_aald hC m_1341 e_1345 rfl (vp_in_iff.mpr (by first | omega | (simp only [Int32.lt_iff_toInt_lt, Int32.le_iff_toInt_le, Int32.reduceToInt, ← Int32.toInt_inj, true_and, and_true, or_true, true_or, false_or, or_false, false_and, and_false, not_true_eq_false, not_false_eq_true] <;> omega))) (v := .ref q_1346) (by rw [h_1347]; rfl) dX11_lay_130 ?_
                  refine v_iload hC dX11_lay_131 rfl ?_
                  obtain ⟨m_1349, q_1351, t_1350, k_1352⟩ := id k_1348
                  obtain ⟨v_1354, e_1353, b_1355⟩ := hW_1289.at m_1349 t_1350
                  refine v_vi hC (rest := []) m_1349 e_1353 rfl mi_X1_stitchAt ms_X1_stitchAt (p_X1_stitchAt hW_1289 k_1348) mx_X1_stitchAt ml_X11_242 (by decide) rfl (cells1 := 0) (slots1 := 0) (by decide) (by decide) (Nat.le_of_ble_eq_true rfl) (Nat.le_of_ble_eq_true rfl) rfl (Nat.le_of_ble_eq_true rfl) dX11_lay_133 (fun r_1356 L_1357 f_1358 h_1359 => ?_)
                  obtain ⟨rfl, rfl, h_1360⟩ := h_1359
                  refine v_iload hC dX11_lay_136 rfl ?_
                  refine v_icmp_eq hC dX11_lay_138 (tgt := 160) (by decide) (fun h_1363 => ?_) (fun h_1363 => ?_)
                  · simp only [Int32.lt_iff_toInt_lt, Int32.le_iff_toInt_le, Int32.reduceToInt, ← Int32.toInt_inj] at h_1363
                    obtain ⟨v_1364, h_1365⟩ : ∃ v9 : Int32, i_1286 + Int32.ofInt 1 = v9 := ⟨_, rfl⟩
                    have h_1366 := add_v (b := 1) h_1365 (by first | omega | (simp only [Int32.lt_iff_toInt_lt, Int32.le_iff_toInt_le, Int32.reduceToInt, ← Int32.toInt_inj, true_and, and_true, or_true, true_or, false_or, or_false, false_and, and_false, not_true_eq_false, not_false_eq_true] <;> omega)) (by first | omega | (simp only [Int32.lt_iff_toInt_lt, Int32.le_iff_toInt_le, Int32.reduceToInt, ← Int32.toInt_inj, true_and, and_true, or_true, true_or, false_or, or_false, false_and, and_false, not_true_eq_false, not_false_eq_true] <;> omega))
                    simp only [Int32.reduceToInt] at h_1366
                    refine v_iinc hC dX11_lay_160 (k := 2) rfl (v := v_1364) h_1365 (by decide) (lv' := [(5, .int v_1364), (7, .int v_1339), (6, .int r_1303), (4, .int v_124), (3, .int i_1287), (0, .ref a_0), (1, .int a_1), (2, .int a_2)]) rfl ?_
                    refine v_goto hC dX11_lay_163 (tgt := 69) (by decide) ?_
                    refine v_pick [0, 3, 4, 5, 6, 7] rfl ?_
                    exact ih_1300 f_1288 hW_1289 (hF_1290.mono rfl) v_1364 (by first | omega | (simp only [Int32.lt_iff_toInt_lt, Int32.le_iff_toInt_le, Int32.reduceToInt, ← Int32.toInt_inj, true_and, and_true, or_true, true_or, false_or, or_false, false_and, and_false, not_true_eq_false, not_false_eq_true] <;> omega)) i_1287 (by first | omega | (simp only [Int32.lt_iff_toInt_lt, Int32.le_iff_toInt_le, Int32.reduceToInt, ← Int32.toInt_inj, true_and, and_true, or_true, true_or, false_or, or_false, false_and, and_false, not_true_eq_false, not_false_eq_true] <;> omega))
                  · simp only [Int32.lt_iff_toInt_lt, Int32.le_iff_toInt_le, Int32.reduceToInt, ← Int32.toInt_inj] at h_1363
                    refine v_aload_n hC dX11_lay_141 rfl ?_
                    refine v_get hC fl_X11_19 m_19 hf_1291 rfl dX11_lay_142 ?_
                    refine v_getN hC fn_X11_190 m_96 hf_1295 rfl dX11_lay_145 ?_
                    refine v_iload_n hC dX11_lay_148 rfl ?_
                    obtain ⟨q_1367, h_1368, k_1369⟩ := k_1344 (a_2 : Int32).toNatClampNeg (clamp_lt (vp_in_iff.mpr (by first | omega | (simp only [Int32.lt_iff_toInt_lt, Int32.le_iff_toInt_le, Int32.reduceToInt, ← Int32.toInt_inj, true_and, and_true, or_true, true_or, false_or, or_false, false_and, and_false, not_true_eq_false, not_false_eq_true] <;> omega))))
                    refine v_aald hC m_1341 e_1345 rfl (vp_in_iff.mpr (by first | omega | (simp only [Int32.lt_iff_toInt_lt, Int32.le_iff_toInt_le, Int32.reduceToInt, ← Int32.toInt_inj, true_and, and_true, or_true, true_or, false_or, or_false, false_and, and_false, not_true_eq_false, not_false_eq_true] <;> omega))) (v := .ref q_1367) (by rw [h_1368]; rfl) dX11_lay_149 ?_
                    refine v_iload hC dX11_lay_150 rfl ?_
                    refine v_iload hC dX11_lay_152 rfl ?_
                    obtain ⟨m_1370, q_1372, t_1371, k_1373⟩ := id k_1369
                    obtain ⟨v_1375, e_1374, b_1376⟩ := hW_1289.at m_1370 t_1371
                    refine v_vv hC (rest := []) m_1370 e_1374 rfl mi_X1_setStitch ms_X1_setStitch (p_X1_setStitch hW_1289 k_1369) mx_X1_setStitch ml_X11_324 (by decide) rfl (cells1 := 0) (slots1 := 0) (by decide) (by decide) (Nat.le_of_ble_eq_true rfl) (Nat.le_of_ble_eq_true rfl) rfl (Nat.le_of_ble_eq_true rfl) dX11_lay_154 (fun L_1378 f_1379 h_1380 => ?_)
                    obtain ⟨rfl, hW_1381, hF_1382⟩ := h_1380
                    have hf_1383 := hF_1382.at hf_1291 rfl
                    have hf_1384 := hF_1382.at hf_1292 rfl
                    have hf_1385 := hF_1382.at hf_1293 rfl
                    have hf_1386 := hF_1382.at hf_1294 rfl
                    have hf_1387 := hF_1382.at hf_1295 rfl
                    have hf_1388 := hF_1382.at hf_1296 rfl
                    have hf_1389 := hF_1382.at e_1317 rfl
                    have hf_1390 := hF_1382.at e_1345 rfl
                    have hf_1391 := hF_1382.at e_1353 rfl
                    have hf_1392 := hF_1382.at e_1374 rfl
                    obtain ⟨v_1393, h_1394⟩ : ∃ v9 : Int32, i_1287 + Int32.ofInt 1 = v9 := ⟨_, rfl⟩
                    refine v_iinc hC dX11_lay_157 (k := 4) rfl (v := v_1393) h_1394 (by decide) (lv' := [(3, .int v_1393), (7, .int v_1339), (6, .int r_1303), (5, .int i_1286), (4, .int v_124), (0, .ref a_0), (1, .int a_1), (2, .int a_2)]) rfl ?_
                    obtain ⟨v_1395, h_1396⟩ : ∃ v9 : Int32, i_1286 + Int32.ofInt 1 = v9 := ⟨_, rfl⟩
                    have h_1397 := add_v (b := 1) h_1396 (by first | omega | (simp only [Int32.lt_iff_toInt_lt, Int32.le_iff_toInt_le, Int32.reduceToInt, ← Int32.toInt_inj, true_and, and_true, or_true, true_or, false_or, or_false, false_and, and_false, not_true_eq_false, not_false_eq_true] <;> omega)) (by first | omega | (simp only [Int32.lt_iff_toInt_lt, Int32.le_iff_toInt_le, Int32.reduceToInt, ← Int32.toInt_inj, true_and, and_true, or_true, true_or, false_or, or_false, false_and, and_false, not_true_eq_false, not_false_eq_true] <;> omega))
                    simp only [Int32.reduceToInt] at h_1397
                    refine v_iinc hC dX11_lay_160 (k := 3) rfl (v := v_1395) h_1396 (by decide) (lv' := [(5, .int v_1395), (3, .int v_1393), (7, .int v_1339), (6, .int r_1303), (4, .int v_124), (0, .ref a_0), (1, .int a_1), (2, .int a_2)]) rfl ?_
                    refine v_goto hC dX11_lay_163 (tgt := 69) (by decide) ?_
                    refine v_pick [0, 4, 1, 5, 6, 7] rfl ?_
                    exact ih_1300 f_1379 hW_1381 ((hF_1290.tr hF_1382).mono rfl) v_1395 (by first | omega | (simp only [Int32.lt_iff_toInt_lt, Int32.le_iff_toInt_le, Int32.reduceToInt, ← Int32.toInt_inj, true_and, and_true, or_true, true_or, false_or, or_false, false_and, and_false, not_true_eq_false, not_false_eq_true] <;> omega)) v_1393 (by first | omega | (simp only [Int32.lt_iff_toInt_lt, Int32.le_iff_toInt_le, Int32.reduceToInt, ← Int32.toInt_inj, true_and, and_true, or_true, true_or, false_or, or_false, false_and, and_false, not_true_eq_false, not_false_eq_true] <;> omega))
                refine v_if_eq hC dX11_lay_101 (tgt := 108) (by decide) (fun h_1330 => ?_) (fun h_1330 => ?_)
                · simp only [Int32.lt_iff_toInt_lt, Int32.le_iff_toInt_le, Int32.reduceToInt, ← Int32.toInt_inj] at h_1330
                  refine v_aload_n hC dX11_lay_108 rfl ?_
                  refine v_get hC fl_X11_19 m_19 hf_1291 rfl dX11_lay_109 ?_
                  refine v_getN hC fn_X11_116 m_96 hf_1295 rfl dX11_lay_112 ?_
                  refine v_iload hC dX11_lay_115 rfl ?_
                  refine v_vi hC (rest := []) m_111 hf_1296 rfl mi_X4_notPlainAt ms_X4_notPlainAt (p_X4_notPlainAt hW_1289 k_104) mx_X4_notPlainAt ml_X11_382 (by decide) rfl (cells1 := 0) (slots1 := 0) (by decide) (by decide) (Nat.le_of_ble_eq_true rfl) (Nat.le_of_ble_eq_true rfl) rfl (Nat.le_of_ble_eq_true rfl) dX11_lay_117 (fun r_1398 L_1399 f_1400 h_1401 => ?_)
                  obtain ⟨rfl, rfl, b_1402⟩ := h_1401
                  refine v_pick [0, 1, 2, 3, 4, 5, 6] rfl ?_
                  exact jn_1338 r_1398 (by first | omega | (simp only [Int32.lt_iff_toInt_lt, Int32.le_iff_toInt_le, Int32.reduceToInt, ← Int32.toInt_inj, true_and, and_true, or_true, true_or, false_or, or_false, false_and, and_false, not_true_eq_false, not_false_eq_true] <;> omega))
                · simp only [Int32.lt_iff_toInt_lt, Int32.le_iff_toInt_le, Int32.reduceToInt, ← Int32.toInt_inj] at h_1330
                  refine v_iconst hC dX11_lay_104 (v := 0) (by decide) ?_
                  refine v_goto hC dX11_lay_105 (tgt := 120) (by decide) ?_
                  refine v_pick [0, 1, 2, 3, 4, 5, 6] rfl ?_
                  exact jn_1338 0 (by decide)
          refine v_pick [0, 1, 2, 3, 4, 5] rfl ?_
          exact lp_1298 62 f hW FR.rf 0 (by decide) 0 (by decide)
        · simp only [Int32.lt_iff_toInt_lt, Int32.le_iff_toInt_le, Int32.reduceToInt, ← Int32.toInt_inj] at h_83
          refine v_bipush hC dX11_lay_37 (v := (-6)) (by decide) ?_
          exact hR _ _ _ _ _ _ _ dX11_lay_39 rfl (Nat.le_of_ble_eq_true rfl) (Nat.le_of_ble_eq_true rfl) ⟨rfl, hW, FR.rf, (.inl (by decide)), (.inl (by decide))⟩
    · simp only [Int32.lt_iff_toInt_lt, Int32.le_iff_toInt_le, Int32.reduceToInt, ← Int32.toInt_inj] at h_18
      refine v_bipush hC dX11_lay_14 (v := (-2)) (by decide) ?_
      exact hR _ _ _ _ _ _ _ dX11_lay_16 rfl (Nat.le_of_ble_eq_true rfl) (Nat.le_of_ble_eq_true rfl) ⟨rfl, hW, FR.rf, (.inl (by decide)), (.inl (by decide))⟩
