set_option maxRecDepth 100000 in
set_option maxHeartbeats 4000000 in
theorem k_X0 {l : Launch} {E : Ez} {L : List Nat} {f : Nat → va_E} {h : Nat} (m_h : h ∈ L) (e_h : f h = ob 0 [.null, .null, .null, .null, .null, .null]) : CV l yX0_init cX0_init 2 2 26 1947 E [.ref h] L f (fun L1 f1 => (∀ b ∈ L, b ≠ h → b ∈ L1 ∧ f1 b = f b) ∧ FB E h L1 f1) := by
  refine cv_of (by decide) (Nat.le_of_ble_eq_true rfl) (fun z hz hnm hC hR => ?_)
  have hC : Cx z E cX0_init RX0 2 2 26 1947 := hC
  subst hz
  show V z E 2 0 0 L f 0 [(0, .ref h)] []
  refine v_aload_n hC dX0_init_0 rfl ?_
  refine v_objinit hC mo_X0_3 mo_i mo_c (by decide) dX0_init_1 ?_
  refine v_aload_n hC dX0_init_4 rfl ?_
  refine v_new hC (ci := 4) (fs := [.null, .null, .int 0, .int 0, .int 0]) rfl inX4 tyX4_ok kl_X0_9 in_X4 ii_X4 (fun j hj => by rcases (show j = 0 ∨ j = 1 ∨ j = 2 ∨ j = 3 ∨ j = 4 by omega) with rfl | rfl | rfl | rfl | rfl <;> rfl) (Nat.le_of_ble_eq_true rfl) (Nat.le_of_ble_eq_true rfl) dX0_init_5 (fun q_1 f_2 hq_3 hf_4 hk_5 => ?_)
  obtain ⟨L_8, hs_7⟩ : ∃ L9, L9 = L ++ [q_1] := ⟨_, rfl⟩
  rw [← hs_7]
  have hm_6 : q_1 ∈ L_8 := by rw [hs_7]; exact List.mem_append_right _ List.mem_cons_self
  have hm_10 : h ∈ L_8 := by rw [hs_7]; exact List.mem_append_left _ m_h
  have hf_9 := (hk_5 h (ne_in m_h hq_3)).trans e_h
  refine v_widen (k := 1) (n := 5) (Nat.le_of_ble_eq_true rfl) (Nat.le_of_ble_eq_true rfl) ?_
  refine v_dup hC dX0_init_8 rfl ?_
  refine v_xvN hC (rest := [.ref q_1, .ref h]) rfl mi_X4_init (k_X4 hm_6 hf_4) mx_X4_init mn_X0_11 (by decide) rfl (cells1 := 3) (slots1 := 517) (by decide) (by decide) (Nat.le_of_ble_eq_true rfl) (Nat.le_of_ble_eq_true rfl) rfl (Nat.le_of_ble_eq_true rfl) dX0_init_9 (fun L_12 f_13 h_14 => ?_)
  obtain ⟨hk_15, q_16, q_17, hm_18, hf_19, hm_20, hf_21, hm_22, hf_23⟩ := h_14
  have hx_26 := hk_15 h hm_10 (ne_in m_h hq_3)
  have hm_24 := hx_26.1
  have hf_25 := hx_26.2.trans hf_9
  refine v_putF hC (by rw [hnm]; rfl) fl_X0_12 hm_24 hf_25 rfl rfl (Nat.le_of_ble_eq_true rfl) (fs' := [.ref q_1, .null, .null, .null, .null, .null]) rfl dX0_init_12 (fun f_27 hf_28 hk_29 => ?_)
  have hf_30 := (hk_29 q_1 (ne_kd hf_19 hf_25 rfl)).trans hf_19
  have hf_31 := (hk_29 q_16 (ne_kd hf_21 hf_25 rfl)).trans hf_21
  have hf_32 := (hk_29 q_17 (ne_kd hf_23 hf_25 rfl)).trans hf_23
  refine v_aload_n hC dX0_init_15 rfl ?_
  refine v_iconst hC dX0_init_16 (v := 3) (by decide) ?_
  refine v_newaG hC (t := 1) (ty := .int) (N' := 3) (a0 := (3, .inl (fun _ => 0))) rfl ac_int rfl (fun _ => rfl) (by decide) (by decide) (by decide) (Nat.le_of_ble_eq_true rfl) (Nat.le_of_ble_eq_true rfl) dX0_init_17 (fun q_33 f_34 hq_35 hf_36 hk_37 => ?_)
  obtain ⟨L_40, hs_39⟩ : ∃ L9, L9 = L_12 ++ [q_33] := ⟨_, rfl⟩
  rw [← hs_39]
  have hm_38 : q_33 ∈ L_40 := by rw [hs_39]; exact List.mem_append_right _ List.mem_cons_self
  have hm_42 : h ∈ L_40 := by rw [hs_39]; exact List.mem_append_left _ hm_24
  have hf_41 := (hk_37 h (ne_in hm_24 hq_35)).trans hf_28
  have hm_44 : q_1 ∈ L_40 := by rw [hs_39]; exact List.mem_append_left _ hm_18
  have hf_43 := (hk_37 q_1 (ne_in hm_18 hq_35)).trans hf_30
  have hm_46 : q_16 ∈ L_40 := by rw [hs_39]; exact List.mem_append_left _ hm_20
  have hf_45 := (hk_37 q_16 (ne_in hm_20 hq_35)).trans hf_31
  have hm_48 : q_17 ∈ L_40 := by rw [hs_39]; exact List.mem_append_left _ hm_22
  have hf_47 := (hk_37 q_17 (ne_in hm_22 hq_35)).trans hf_32
  refine v_widen (k := 4) (n := 520) (Nat.le_of_ble_eq_true rfl) (Nat.le_of_ble_eq_true rfl) ?_
  refine v_putF hC (by rw [hnm]; rfl) fl_X0_18 hm_42 hf_41 rfl rfl (Nat.le_of_ble_eq_true rfl) (fs' := [.ref q_1, .ref q_33, .null, .null, .null, .null]) rfl dX0_init_19 (fun f_49 hf_50 hk_51 => ?_)
  have hf_52 := (hk_51 q_1 (ne_kd hf_43 hf_41 rfl)).trans hf_43
  have hf_53 := (hk_51 q_16 (ne_kd hf_45 hf_41 rfl)).trans hf_45
  have hf_54 := (hk_51 q_17 (ne_kd hf_47 hf_41 rfl)).trans hf_47
  have hf_55 := (hk_51 q_33 (ne_kd hf_36 hf_41 rfl)).trans hf_36
  refine v_aload_n hC dX0_init_22 rfl ?_
  refine v_bipush hC dX0_init_23 (v := 6) (by decide) ?_
  refine v_newq hC (t := 7) (N' := 6) kl_X0_22 ao_X10 rfl (by decide) (by decide) (by decide) (Nat.le_of_ble_eq_true rfl) (Nat.le_of_ble_eq_true rfl) dX0_init_25 (fun q_56 f_57 hq_58 hf_59 hk_60 => ?_)
  obtain ⟨L_63, hs_62⟩ : ∃ L9, L9 = L_40 ++ [q_56] := ⟨_, rfl⟩
  rw [← hs_62]
  have hm_61 : q_56 ∈ L_63 := by rw [hs_62]; exact List.mem_append_right _ List.mem_cons_self
  have hm_65 : h ∈ L_63 := by rw [hs_62]; exact List.mem_append_left _ hm_42
  have hf_64 := (hk_60 h (ne_in hm_42 hq_58)).trans hf_50
  have hm_67 : q_1 ∈ L_63 := by rw [hs_62]; exact List.mem_append_left _ hm_44
  have hf_66 := (hk_60 q_1 (ne_in hm_44 hq_58)).trans hf_52
  have hm_69 : q_16 ∈ L_63 := by rw [hs_62]; exact List.mem_append_left _ hm_46
  have hf_68 := (hk_60 q_16 (ne_in hm_46 hq_58)).trans hf_53
  have hm_71 : q_17 ∈ L_63 := by rw [hs_62]; exact List.mem_append_left _ hm_48
  have hf_70 := (hk_60 q_17 (ne_in hm_48 hq_58)).trans hf_54
  have hm_73 : q_33 ∈ L_63 := by rw [hs_62]; exact List.mem_append_left _ hm_38
  have hf_72 := (hk_60 q_33 (ne_in hm_38 hq_58)).trans hf_55
  refine v_widen (k := 5) (n := 526) (Nat.le_of_ble_eq_true rfl) (Nat.le_of_ble_eq_true rfl) ?_
  refine v_putF hC (by rw [hnm]; rfl) fl_X0_24 hm_65 hf_64 rfl rfl (Nat.le_of_ble_eq_true rfl) (fs' := [.ref q_1, .ref q_33, .ref q_56, .null, .null, .null]) rfl dX0_init_28 (fun f_74 hf_75 hk_76 => ?_)
  have hf_77 := (hk_76 q_1 (ne_kd hf_66 hf_64 rfl)).trans hf_66
  have hf_78 := (hk_76 q_16 (ne_kd hf_68 hf_64 rfl)).trans hf_68
  have hf_79 := (hk_76 q_17 (ne_kd hf_70 hf_64 rfl)).trans hf_70
  have hf_80 := (hk_76 q_33 (ne_kd hf_72 hf_64 rfl)).trans hf_72
  have hf_81 := (hk_76 q_56 (ne_kd hf_59 hf_64 rfl)).trans hf_59
  refine v_aload_n hC dX0_init_31 rfl ?_
  refine v_new hC (ci := 9) (fs := [.null, .int 0, .int 0]) rfl inX9 tyX9_ok kl_X0_28 in_X9 ii_X9 (fun j hj => by rcases (show j = 0 ∨ j = 1 ∨ j = 2 by omega) with rfl | rfl | rfl <;> rfl) (Nat.le_of_ble_eq_true rfl) (Nat.le_of_ble_eq_true rfl) dX0_init_32 (fun q_82 f_83 hq_84 hf_85 hk_86 => ?_)
  obtain ⟨L_89, hs_88⟩ : ∃ L9, L9 = L_63 ++ [q_82] := ⟨_, rfl⟩
  rw [← hs_88]
  have hm_87 : q_82 ∈ L_89 := by rw [hs_88]; exact List.mem_append_right _ List.mem_cons_self
  have hm_91 : h ∈ L_89 := by rw [hs_88]; exact List.mem_append_left _ hm_65
  have hf_90 := (hk_86 h (ne_in hm_65 hq_84)).trans hf_75
  have hm_93 : q_1 ∈ L_89 := by rw [hs_88]; exact List.mem_append_left _ hm_67
  have hf_92 := (hk_86 q_1 (ne_in hm_67 hq_84)).trans hf_77
  have hm_95 : q_16 ∈ L_89 := by rw [hs_88]; exact List.mem_append_left _ hm_69
  have hf_94 := (hk_86 q_16 (ne_in hm_69 hq_84)).trans hf_78
  have hm_97 : q_17 ∈ L_89 := by rw [hs_88]; exact List.mem_append_left _ hm_71
  have hf_96 := (hk_86 q_17 (ne_in hm_71 hq_84)).trans hf_79
  have hm_99 : q_33 ∈ L_89 := by rw [hs_88]; exact List.mem_append_left _ hm_73
  have hf_98 := (hk_86 q_33 (ne_in hm_73 hq_84)).trans hf_80
  have hm_101 : q_56 ∈ L_89 := by rw [hs_88]; exact List.mem_append_left _ hm_61
  have hf_100 := (hk_86 q_56 (ne_in hm_61 hq_84)).trans hf_81
  refine v_widen (k := 6) (n := 529) (Nat.le_of_ble_eq_true rfl) (Nat.le_of_ble_eq_true rfl) ?_
  refine v_dup hC dX0_init_35 rfl ?_
  refine v_xvN hC (rest := [.ref q_82, .ref h]) rfl mi_X9_init (k_X9 hm_87 hf_85) mx_X9_init mn_X0_30 (by decide) rfl (cells1 := 7) (slots1 := 829) (by decide) (by decide) (Nat.le_of_ble_eq_true rfl) (Nat.le_of_ble_eq_true rfl) rfl (Nat.le_of_ble_eq_true rfl) dX0_init_36 (fun L_103 f_104 h_105 => ?_)
  obtain ⟨hk_106, q_107, hm_108, hf_109, hm_110, hf_111⟩ := h_105
  have hx_114 := hk_106 h hm_91 (ne_in hm_65 hq_84)
  have hm_112 := hx_114.1
  have hf_113 := hx_114.2.trans hf_90
  have hx_117 := hk_106 q_1 hm_93 (ne_in hm_67 hq_84)
  have hm_115 := hx_117.1
  have hf_116 := hx_117.2.trans hf_92
  have hx_120 := hk_106 q_16 hm_95 (ne_in hm_69 hq_84)
  have hm_118 := hx_120.1
  have hf_119 := hx_120.2.trans hf_94
  have hx_123 := hk_106 q_17 hm_97 (ne_in hm_71 hq_84)
  have hm_121 := hx_123.1
  have hf_122 := hx_123.2.trans hf_96
  have hx_126 := hk_106 q_33 hm_99 (ne_in hm_73 hq_84)
  have hm_124 := hx_126.1
  have hf_125 := hx_126.2.trans hf_98
  have hx_129 := hk_106 q_56 hm_101 (ne_in hm_61 hq_84)
  have hm_127 := hx_129.1
  have hf_128 := hx_129.2.trans hf_100
  refine v_putF hC (by rw [hnm]; rfl) fl_X0_31 hm_112 hf_113 rfl rfl (Nat.le_of_ble_eq_true rfl) (fs' := [.ref q_1, .ref q_33, .ref q_56, .ref q_82, .null, .null]) rfl dX0_init_39 (fun f_130 hf_131 hk_132 => ?_)
  have hf_133 := (hk_132 q_1 (ne_kd hf_116 hf_113 rfl)).trans hf_116
  have hf_134 := (hk_132 q_16 (ne_kd hf_119 hf_113 rfl)).trans hf_119
  have hf_135 := (hk_132 q_17 (ne_kd hf_122 hf_113 rfl)).trans hf_122
  have hf_136 := (hk_132 q_33 (ne_kd hf_125 hf_113 rfl)).trans hf_125
  have hf_137 := (hk_132 q_56 (ne_kd hf_128 hf_113 rfl)).trans hf_128
  have hf_138 := (hk_132 q_82 (ne_kd hf_109 hf_113 rfl)).trans hf_109
  have hf_139 := (hk_132 q_107 (ne_kd hf_111 hf_113 rfl)).trans hf_111
  refine v_aload_n hC dX0_init_42 rfl ?_
  refine v_new hC (ci := 3) (fs := [.null, .null, .null, .int 0]) rfl inX3 tyX3_ok kl_X0_35 in_X3 ii_X3 (fun j hj => by rcases (show j = 0 ∨ j = 1 ∨ j = 2 ∨ j = 3 by omega) with rfl | rfl | rfl | rfl <;> rfl) (Nat.le_of_ble_eq_true rfl) (Nat.le_of_ble_eq_true rfl) dX0_init_43 (fun q_140 f_141 hq_142 hf_143 hk_144 => ?_)
  obtain ⟨L_147, hs_146⟩ : ∃ L9, L9 = L_103 ++ [q_140] := ⟨_, rfl⟩
  rw [← hs_146]
  have hm_145 : q_140 ∈ L_147 := by rw [hs_146]; exact List.mem_append_right _ List.mem_cons_self
  have hm_149 : h ∈ L_147 := by rw [hs_146]; exact List.mem_append_left _ hm_112
  have hf_148 := (hk_144 h (ne_in hm_112 hq_142)).trans hf_131
  have hm_151 : q_1 ∈ L_147 := by rw [hs_146]; exact List.mem_append_left _ hm_115
  have hf_150 := (hk_144 q_1 (ne_in hm_115 hq_142)).trans hf_133
  have hm_153 : q_16 ∈ L_147 := by rw [hs_146]; exact List.mem_append_left _ hm_118
  have hf_152 := (hk_144 q_16 (ne_in hm_118 hq_142)).trans hf_134
  have hm_155 : q_17 ∈ L_147 := by rw [hs_146]; exact List.mem_append_left _ hm_121
  have hf_154 := (hk_144 q_17 (ne_in hm_121 hq_142)).trans hf_135
  have hm_157 : q_33 ∈ L_147 := by rw [hs_146]; exact List.mem_append_left _ hm_124
  have hf_156 := (hk_144 q_33 (ne_in hm_124 hq_142)).trans hf_136
  have hm_159 : q_56 ∈ L_147 := by rw [hs_146]; exact List.mem_append_left _ hm_127
  have hf_158 := (hk_144 q_56 (ne_in hm_127 hq_142)).trans hf_137
  have hm_161 : q_82 ∈ L_147 := by rw [hs_146]; exact List.mem_append_left _ hm_108
  have hf_160 := (hk_144 q_82 (ne_in hm_108 hq_142)).trans hf_138
  have hm_163 : q_107 ∈ L_147 := by rw [hs_146]; exact List.mem_append_left _ hm_110
  have hf_162 := (hk_144 q_107 (ne_in hm_110 hq_142)).trans hf_139
  refine v_widen (k := 8) (n := 833) (Nat.le_of_ble_eq_true rfl) (Nat.le_of_ble_eq_true rfl) ?_
  refine v_dup hC dX0_init_46 rfl ?_
  refine v_xvN hC (rest := [.ref q_140, .ref h]) rfl mi_X3_init (k_X3 hm_145 hf_143) mx_X3_init mn_X0_37 (by decide) rfl (cells1 := 11) (slots1 := 869) (by decide) (by decide) (Nat.le_of_ble_eq_true rfl) (Nat.le_of_ble_eq_true rfl) rfl (Nat.le_of_ble_eq_true rfl) dX0_init_47 (fun L_165 f_166 h_167 => ?_)
  obtain ⟨hk_168, q_169, q_170, q_171, hm_172, hf_173, hm_174, hf_175, hm_176, hf_177, hm_178, hf_179⟩ := h_167
  have hx_182 := hk_168 h hm_149 (ne_in hm_112 hq_142)
  have hm_180 := hx_182.1
  have hf_181 := hx_182.2.trans hf_148
  have hx_185 := hk_168 q_1 hm_151 (ne_in hm_115 hq_142)
  have hm_183 := hx_185.1
  have hf_184 := hx_185.2.trans hf_150
  have hx_188 := hk_168 q_16 hm_153 (ne_in hm_118 hq_142)
  have hm_186 := hx_188.1
  have hf_187 := hx_188.2.trans hf_152
  have hx_191 := hk_168 q_17 hm_155 (ne_in hm_121 hq_142)
  have hm_189 := hx_191.1
  have hf_190 := hx_191.2.trans hf_154
  have hx_194 := hk_168 q_33 hm_157 (ne_in hm_124 hq_142)
  have hm_192 := hx_194.1
  have hf_193 := hx_194.2.trans hf_156
  have hx_197 := hk_168 q_56 hm_159 (ne_in hm_127 hq_142)
  have hm_195 := hx_197.1
  have hf_196 := hx_197.2.trans hf_158
  have hx_200 := hk_168 q_82 hm_161 (ne_in hm_108 hq_142)
  have hm_198 := hx_200.1
  have hf_199 := hx_200.2.trans hf_160
  have hx_203 := hk_168 q_107 hm_163 (ne_in hm_110 hq_142)
  have hm_201 := hx_203.1
  have hf_202 := hx_203.2.trans hf_162
  refine v_putF hC (by rw [hnm]; rfl) fl_X0_38 hm_180 hf_181 rfl rfl (Nat.le_of_ble_eq_true rfl) (fs' := [.ref q_1, .ref q_33, .ref q_56, .ref q_82, .ref q_140, .null]) rfl dX0_init_50 (fun f_204 hf_205 hk_206 => ?_)
  have hf_207 := (hk_206 q_1 (ne_kd hf_184 hf_181 rfl)).trans hf_184
  have hf_208 := (hk_206 q_16 (ne_kd hf_187 hf_181 rfl)).trans hf_187
  have hf_209 := (hk_206 q_17 (ne_kd hf_190 hf_181 rfl)).trans hf_190
  have hf_210 := (hk_206 q_33 (ne_kd hf_193 hf_181 rfl)).trans hf_193
  have hf_211 := (hk_206 q_56 (ne_kd hf_196 hf_181 rfl)).trans hf_196
  have hf_212 := (hk_206 q_82 (ne_kd hf_199 hf_181 rfl)).trans hf_199
  have hf_213 := (hk_206 q_107 (ne_kd hf_202 hf_181 rfl)).trans hf_202
  have hf_214 := (hk_206 q_140 (ne_kd hf_173 hf_181 rfl)).trans hf_173
  have hf_215 := (hk_206 q_169 (ne_kd hf_175 hf_181 rfl)).trans hf_175
  have hf_216 := (hk_206 q_170 (ne_kd hf_177 hf_181 rfl)).trans hf_177
  have hf_217 := (hk_206 q_171 (ne_kd hf_179 hf_181 rfl)).trans hf_179
  refine v_aload_n hC dX0_init_53 rfl ?_
  refine v_iconst hC dX0_init_54 (v := 4) (by decide) ?_
  refine v_newq hC (t := 5) (N' := 4) kl_X0_42 ao_X1 rfl (by decide) (by decide) (by decide) (Nat.le_of_ble_eq_true rfl) (Nat.le_of_ble_eq_true rfl) dX0_init_55 (fun q_218 f_219 hq_220 hf_221 hk_222 => ?_)
  obtain ⟨L_225, hs_224⟩ : ∃ L9, L9 = L_165 ++ [q_218] := ⟨_, rfl⟩
  rw [← hs_224]
  have hm_223 : q_218 ∈ L_225 := by rw [hs_224]; exact List.mem_append_right _ List.mem_cons_self
  have hm_227 : h ∈ L_225 := by rw [hs_224]; exact List.mem_append_left _ hm_180
  have hf_226 := (hk_222 h (ne_in hm_180 hq_220)).trans hf_205
  have hm_229 : q_1 ∈ L_225 := by rw [hs_224]; exact List.mem_append_left _ hm_183
  have hf_228 := (hk_222 q_1 (ne_in hm_183 hq_220)).trans hf_207
  have hm_231 : q_16 ∈ L_225 := by rw [hs_224]; exact List.mem_append_left _ hm_186
  have hf_230 := (hk_222 q_16 (ne_in hm_186 hq_220)).trans hf_208
  have hm_233 : q_17 ∈ L_225 := by rw [hs_224]; exact List.mem_append_left _ hm_189
  have hf_232 := (hk_222 q_17 (ne_in hm_189 hq_220)).trans hf_209
  have hm_235 : q_33 ∈ L_225 := by rw [hs_224]; exact List.mem_append_left _ hm_192
  have hf_234 := (hk_222 q_33 (ne_in hm_192 hq_220)).trans hf_210
  have hm_237 : q_56 ∈ L_225 := by rw [hs_224]; exact List.mem_append_left _ hm_195
  have hf_236 := (hk_222 q_56 (ne_in hm_195 hq_220)).trans hf_211
  have hm_239 : q_82 ∈ L_225 := by rw [hs_224]; exact List.mem_append_left _ hm_198
  have hf_238 := (hk_222 q_82 (ne_in hm_198 hq_220)).trans hf_212
  have hm_241 : q_107 ∈ L_225 := by rw [hs_224]; exact List.mem_append_left _ hm_201
  have hf_240 := (hk_222 q_107 (ne_in hm_201 hq_220)).trans hf_213
  have hm_243 : q_140 ∈ L_225 := by rw [hs_224]; exact List.mem_append_left _ hm_172
  have hf_242 := (hk_222 q_140 (ne_in hm_172 hq_220)).trans hf_214
  have hm_245 : q_169 ∈ L_225 := by rw [hs_224]; exact List.mem_append_left _ hm_174
  have hf_244 := (hk_222 q_169 (ne_in hm_174 hq_220)).trans hf_215
  have hm_247 : q_170 ∈ L_225 := by rw [hs_224]; exact List.mem_append_left _ hm_176
  have hf_246 := (hk_222 q_170 (ne_in hm_176 hq_220)).trans hf_216
  have hm_249 : q_171 ∈ L_225 := by rw [hs_224]; exact List.mem_append_left _ hm_178
  have hf_248 := (hk_222 q_171 (ne_in hm_178 hq_220)).trans hf_217
  refine v_widen (k := 12) (n := 873) (Nat.le_of_ble_eq_true rfl) (Nat.le_of_ble_eq_true rfl) ?_
  refine v_putF hC (by rw [hnm]; rfl) fl_X0_44 hm_227 hf_226 rfl rfl (Nat.le_of_ble_eq_true rfl) (fs' := [.ref q_1, .ref q_33, .ref q_56, .ref q_82, .ref q_140, .ref q_218]) rfl dX0_init_58 (fun f_250 hf_251 hk_252 => ?_)
  have hf_253 := (hk_252 q_1 (ne_kd hf_228 hf_226 rfl)).trans hf_228
  have hf_254 := (hk_252 q_16 (ne_kd hf_230 hf_226 rfl)).trans hf_230
  have hf_255 := (hk_252 q_17 (ne_kd hf_232 hf_226 rfl)).trans hf_232
  have hf_256 := (hk_252 q_33 (ne_kd hf_234 hf_226 rfl)).trans hf_234
  have hf_257 := (hk_252 q_56 (ne_kd hf_236 hf_226 rfl)).trans hf_236
  have hf_258 := (hk_252 q_82 (ne_kd hf_238 hf_226 rfl)).trans hf_238
  have hf_259 := (hk_252 q_107 (ne_kd hf_240 hf_226 rfl)).trans hf_240
  have hf_260 := (hk_252 q_140 (ne_kd hf_242 hf_226 rfl)).trans hf_242
  have hf_261 := (hk_252 q_169 (ne_kd hf_244 hf_226 rfl)).trans hf_244
  have hf_262 := (hk_252 q_170 (ne_kd hf_246 hf_226 rfl)).trans hf_246
  have hf_263 := (hk_252 q_171 (ne_kd hf_248 hf_226 rfl)).trans hf_248
  have hf_264 := (hk_252 q_218 (ne_kd hf_221 hf_226 rfl)).trans hf_221
  refine v_iconst hC dX0_init_61 (v := 0) (by decide) ?_
  refine v_istore_n hC dX0_init_62 (by decide) (lv' := [(1, .int 0), (0, .ref h)]) rfl ?_
  refine v_iload_n hC dX0_init_63 rfl ?_
  refine v_bipush hC dX0_init_64 (v := 6) (by decide) ?_
  refine v_icmp_ge_f hC dX0_init_66 (tgt := 88) (by decide) (by decide) ?_
  refine v_aload_n hC dX0_init_69 rfl ?_
  refine v_get hC fl_X0_24 hm_227 hf_251 rfl dX0_init_70 ?_
  refine v_iload_n hC dX0_init_73 rfl ?_
  refine v_new hC (ci := 10) (fs := [.int 0, .int 0, .int 0, .int 0, .int 0, .int 0, .int 0]) rfl inX10 tyX10_ok kl_X0_22 in_X10 ii_X10 (fun j hj => by rcases (show j = 0 ∨ j = 1 ∨ j = 2 ∨ j = 3 ∨ j = 4 ∨ j = 5 ∨ j = 6 by omega) with rfl | rfl | rfl | rfl | rfl | rfl | rfl <;> rfl) (Nat.le_of_ble_eq_true rfl) (Nat.le_of_ble_eq_true rfl) dX0_init_74 (fun q_265 f_266 hq_267 hf_268 hk_269 => ?_)
  obtain ⟨L_272, hs_271⟩ : ∃ L9, L9 = L_225 ++ [q_265] := ⟨_, rfl⟩
  rw [← hs_271]
  have hm_270 : q_265 ∈ L_272 := by rw [hs_271]; exact List.mem_append_right _ List.mem_cons_self
  have hm_274 : h ∈ L_272 := by rw [hs_271]; exact List.mem_append_left _ hm_227
  have hf_273 := (hk_269 h (ne_in hm_227 hq_267)).trans hf_251
  have hm_276 : q_1 ∈ L_272 := by rw [hs_271]; exact List.mem_append_left _ hm_229
  have hf_275 := (hk_269 q_1 (ne_in hm_229 hq_267)).trans hf_253
  have hm_278 : q_16 ∈ L_272 := by rw [hs_271]; exact List.mem_append_left _ hm_231
  have hf_277 := (hk_269 q_16 (ne_in hm_231 hq_267)).trans hf_254
  have hm_280 : q_17 ∈ L_272 := by rw [hs_271]; exact List.mem_append_left _ hm_233
  have hf_279 := (hk_269 q_17 (ne_in hm_233 hq_267)).trans hf_255
  have hm_282 : q_33 ∈ L_272 := by rw [hs_271]; exact List.mem_append_left _ hm_235
  have hf_281 := (hk_269 q_33 (ne_in hm_235 hq_267)).trans hf_256
  have hm_284 : q_56 ∈ L_272 := by rw [hs_271]; exact List.mem_append_left _ hm_237
  have hf_283 := (hk_269 q_56 (ne_in hm_237 hq_267)).trans hf_257
  have hm_286 : q_82 ∈ L_272 := by rw [hs_271]; exact List.mem_append_left _ hm_239
  have hf_285 := (hk_269 q_82 (ne_in hm_239 hq_267)).trans hf_258
  have hm_288 : q_107 ∈ L_272 := by rw [hs_271]; exact List.mem_append_left _ hm_241
  have hf_287 := (hk_269 q_107 (ne_in hm_241 hq_267)).trans hf_259
  have hm_290 : q_140 ∈ L_272 := by rw [hs_271]; exact List.mem_append_left _ hm_243
  have hf_289 := (hk_269 q_140 (ne_in hm_243 hq_267)).trans hf_260
  have hm_292 : q_169 ∈ L_272 := by rw [hs_271]; exact List.mem_append_left _ hm_245
  have hf_291 := (hk_269 q_169 (ne_in hm_245 hq_267)).trans hf_261
  have hm_294 : q_170 ∈ L_272 := by rw [hs_271]; exact List.mem_append_left _ hm_247
  have hf_293 := (hk_269 q_170 (ne_in hm_247 hq_267)).trans hf_262
  have hm_296 : q_171 ∈ L_272 := by rw [hs_271]; exact List.mem_append_left _ hm_249
  have hf_295 := (hk_269 q_171 (ne_in hm_249 hq_267)).trans hf_263
  have hm_298 : q_218 ∈ L_272 := by rw [hs_271]; exact List.mem_append_left _ hm_223
  have hf_297 := (hk_269 q_218 (ne_in hm_223 hq_267)).trans hf_264
  refine v_widen (k := 13) (n := 880) (Nat.le_of_ble_eq_true rfl) (Nat.le_of_ble_eq_true rfl) ?_
  refine v_dup hC dX0_init_77 rfl ?_
  refine v_xvN hC (rest := [.ref q_265, .int 0, .ref q_56]) rfl mi_X10_init (k_X10 hm_270 hf_268) mx_X10_init mn_X0_48 (by decide) rfl (cells1 := 13) (slots1 := 880) (by decide) (by decide) (Nat.le_of_ble_eq_true rfl) (Nat.le_of_ble_eq_true rfl) rfl (Nat.le_of_ble_eq_true rfl) dX0_init_78 (fun L_300 f_301 h_302 => ?_)
  obtain ⟨hk_303, hm_304, hf_305⟩ := h_302
  have hx_308 := hk_303 h hm_274 (ne_in hm_227 hq_267)
  have hm_306 := hx_308.1
  have hf_307 := hx_308.2.trans hf_273
  have hx_311 := hk_303 q_1 hm_276 (ne_in hm_229 hq_267)
  have hm_309 := hx_311.1
  have hf_310 := hx_311.2.trans hf_275
  have hx_314 := hk_303 q_16 hm_278 (ne_in hm_231 hq_267)
  have hm_312 := hx_314.1
  have hf_313 := hx_314.2.trans hf_277
  have hx_317 := hk_303 q_17 hm_280 (ne_in hm_233 hq_267)
  have hm_315 := hx_317.1
  have hf_316 := hx_317.2.trans hf_279
  have hx_320 := hk_303 q_33 hm_282 (ne_in hm_235 hq_267)
  have hm_318 := hx_320.1
  have hf_319 := hx_320.2.trans hf_281
  have hx_323 := hk_303 q_56 hm_284 (ne_in hm_237 hq_267)
  have hm_321 := hx_323.1
  have hf_322 := hx_323.2.trans hf_283
  have hx_326 := hk_303 q_82 hm_286 (ne_in hm_239 hq_267)
  have hm_324 := hx_326.1
  have hf_325 := hx_326.2.trans hf_285
  have hx_329 := hk_303 q_107 hm_288 (ne_in hm_241 hq_267)
  have hm_327 := hx_329.1
  have hf_328 := hx_329.2.trans hf_287
  have hx_332 := hk_303 q_140 hm_290 (ne_in hm_243 hq_267)
  have hm_330 := hx_332.1
  have hf_331 := hx_332.2.trans hf_289
  have hx_335 := hk_303 q_169 hm_292 (ne_in hm_245 hq_267)
  have hm_333 := hx_335.1
  have hf_334 := hx_335.2.trans hf_291
  have hx_338 := hk_303 q_170 hm_294 (ne_in hm_247 hq_267)
  have hm_336 := hx_338.1
  have hf_337 := hx_338.2.trans hf_293
  have hx_341 := hk_303 q_171 hm_296 (ne_in hm_249 hq_267)
  have hm_339 := hx_341.1
  have hf_340 := hx_341.2.trans hf_295
  have hx_344 := hk_303 q_218 hm_298 (ne_in hm_223 hq_267)
  have hm_342 := hx_344.1
  have hf_343 := hx_344.2.trans hf_297
  refine v_aast hC (r := (RX10, TX10, 7)) hm_321 hf_322 (t := 7) rfl hm_304 hf_305 rfl (by unfold vp_in; decide) dX0_init_81 (fun f_345 hf_346 hk_347 => ?_)
  have hf_346 : f_345 q_56 = aR E 7 6 (va_up (fun _ => none) 0 (some q_265)) := hf_346
  have hf_348 := (hk_347 h (ne_kd hf_307 hf_322 rfl)).trans hf_307
  have hf_349 := (hk_347 q_1 (ne_kd hf_310 hf_322 rfl)).trans hf_310
  have hf_350 := (hk_347 q_16 (ne_kd hf_313 hf_322 rfl)).trans hf_313
  have hf_351 := (hk_347 q_17 (ne_kd hf_316 hf_322 rfl)).trans hf_316
  have hf_352 := (hk_347 q_33 (ne_kd hf_319 hf_322 rfl)).trans hf_319
  have hf_353 := (hk_347 q_82 (ne_kd hf_325 hf_322 rfl)).trans hf_325
  have hf_354 := (hk_347 q_107 (ne_kd hf_328 hf_322 rfl)).trans hf_328
  have hf_355 := (hk_347 q_140 (ne_kd hf_331 hf_322 rfl)).trans hf_331
  have hf_356 := (hk_347 q_169 (ne_kd hf_334 hf_322 rfl)).trans hf_334
  have hf_357 := (hk_347 q_170 (ne_kd hf_337 hf_322 rfl)).trans hf_337
  have hf_358 := (hk_347 q_171 (ne_kd hf_340 hf_322 rfl)).trans hf_340
  have hf_359 := (hk_347 q_218 (ne_kd hf_343 hf_322 rfl)).trans hf_343
  have hf_360 := (hk_347 q_265 (ne_kd hf_305 hf_322 rfl)).trans hf_305
  refine v_iinc hC dX0_init_82 (k := 0) rfl (v := 1) (by decide) (by decide) (lv' := [(1, .int 1), (0, .ref h)]) rfl ?_
  refine v_goto hC dX0_init_85 (tgt := 63) (by decide) ?_
  refine v_iload_n hC dX0_init_63 rfl ?_
  refine v_bipush hC dX0_init_64 (v := 6) (by decide) ?_
  refine v_icmp_ge_f hC dX0_init_66 (tgt := 88) (by decide) (by decide) ?_
  refine v_aload_n hC dX0_init_69 rfl ?_
  refine v_get hC fl_X0_24 hm_306 hf_348 rfl dX0_init_70 ?_
  refine v_iload_n hC dX0_init_73 rfl ?_
  refine v_new hC (ci := 10) (fs := [.int 0, .int 0, .int 0, .int 0, .int 0, .int 0, .int 0]) rfl inX10 tyX10_ok kl_X0_22 in_X10 ii_X10 (fun j hj => by rcases (show j = 0 ∨ j = 1 ∨ j = 2 ∨ j = 3 ∨ j = 4 ∨ j = 5 ∨ j = 6 by omega) with rfl | rfl | rfl | rfl | rfl | rfl | rfl <;> rfl) (Nat.le_of_ble_eq_true rfl) (Nat.le_of_ble_eq_true rfl) dX0_init_74 (fun q_361 f_362 hq_363 hf_364 hk_365 => ?_)
  obtain ⟨L_368, hs_367⟩ : ∃ L9, L9 = L_300 ++ [q_361] := ⟨_, rfl⟩
  rw [← hs_367]
  have hm_366 : q_361 ∈ L_368 := by rw [hs_367]; exact List.mem_append_right _ List.mem_cons_self
  have hm_370 : h ∈ L_368 := by rw [hs_367]; exact List.mem_append_left _ hm_306
  have hf_369 := (hk_365 h (ne_in hm_306 hq_363)).trans hf_348
  have hm_372 : q_1 ∈ L_368 := by rw [hs_367]; exact List.mem_append_left _ hm_309
  have hf_371 := (hk_365 q_1 (ne_in hm_309 hq_363)).trans hf_349
  have hm_374 : q_16 ∈ L_368 := by rw [hs_367]; exact List.mem_append_left _ hm_312
  have hf_373 := (hk_365 q_16 (ne_in hm_312 hq_363)).trans hf_350
  have hm_376 : q_17 ∈ L_368 := by rw [hs_367]; exact List.mem_append_left _ hm_315
  have hf_375 := (hk_365 q_17 (ne_in hm_315 hq_363)).trans hf_351
  have hm_378 : q_33 ∈ L_368 := by rw [hs_367]; exact List.mem_append_left _ hm_318
  have hf_377 := (hk_365 q_33 (ne_in hm_318 hq_363)).trans hf_352
  have hm_380 : q_56 ∈ L_368 := by rw [hs_367]; exact List.mem_append_left _ hm_321
  have hf_379 := (hk_365 q_56 (ne_in hm_321 hq_363)).trans hf_346
  have hm_382 : q_82 ∈ L_368 := by rw [hs_367]; exact List.mem_append_left _ hm_324
  have hf_381 := (hk_365 q_82 (ne_in hm_324 hq_363)).trans hf_353
  have hm_384 : q_107 ∈ L_368 := by rw [hs_367]; exact List.mem_append_left _ hm_327
  have hf_383 := (hk_365 q_107 (ne_in hm_327 hq_363)).trans hf_354
  have hm_386 : q_140 ∈ L_368 := by rw [hs_367]; exact List.mem_append_left _ hm_330
  have hf_385 := (hk_365 q_140 (ne_in hm_330 hq_363)).trans hf_355
  have hm_388 : q_169 ∈ L_368 := by rw [hs_367]; exact List.mem_append_left _ hm_333
  have hf_387 := (hk_365 q_169 (ne_in hm_333 hq_363)).trans hf_356
  have hm_390 : q_170 ∈ L_368 := by rw [hs_367]; exact List.mem_append_left _ hm_336
  have hf_389 := (hk_365 q_170 (ne_in hm_336 hq_363)).trans hf_357
  have hm_392 : q_171 ∈ L_368 := by rw [hs_367]; exact List.mem_append_left _ hm_339
  have hf_391 := (hk_365 q_171 (ne_in hm_339 hq_363)).trans hf_358
  have hm_394 : q_218 ∈ L_368 := by rw [hs_367]; exact List.mem_append_left _ hm_342
  have hf_393 := (hk_365 q_218 (ne_in hm_342 hq_363)).trans hf_359
  have hm_396 : q_265 ∈ L_368 := by rw [hs_367]; exact List.mem_append_left _ hm_304
  have hf_395 := (hk_365 q_265 (ne_in hm_304 hq_363)).trans hf_360
  refine v_widen (k := 14) (n := 887) (Nat.le_of_ble_eq_true rfl) (Nat.le_of_ble_eq_true rfl) ?_
  refine v_dup hC dX0_init_77 rfl ?_
  refine v_xvN hC (rest := [.ref q_361, .int 1, .ref q_56]) rfl mi_X10_init (k_X10 hm_366 hf_364) mx_X10_init mn_X0_48 (by decide) rfl (cells1 := 14) (slots1 := 887) (by decide) (by decide) (Nat.le_of_ble_eq_true rfl) (Nat.le_of_ble_eq_true rfl) rfl (Nat.le_of_ble_eq_true rfl) dX0_init_78 (fun L_398 f_399 h_400 => ?_)
  obtain ⟨hk_401, hm_402, hf_403⟩ := h_400
  have hx_406 := hk_401 h hm_370 (ne_in hm_306 hq_363)
  have hm_404 := hx_406.1
  have hf_405 := hx_406.2.trans hf_369
  have hx_409 := hk_401 q_1 hm_372 (ne_in hm_309 hq_363)
  have hm_407 := hx_409.1
  have hf_408 := hx_409.2.trans hf_371
  have hx_412 := hk_401 q_16 hm_374 (ne_in hm_312 hq_363)
  have hm_410 := hx_412.1
  have hf_411 := hx_412.2.trans hf_373
  have hx_415 := hk_401 q_17 hm_376 (ne_in hm_315 hq_363)
  have hm_413 := hx_415.1
  have hf_414 := hx_415.2.trans hf_375
  have hx_418 := hk_401 q_33 hm_378 (ne_in hm_318 hq_363)
  have hm_416 := hx_418.1
  have hf_417 := hx_418.2.trans hf_377
  have hx_421 := hk_401 q_56 hm_380 (ne_in hm_321 hq_363)
  have hm_419 := hx_421.1
  have hf_420 := hx_421.2.trans hf_379
  have hx_424 := hk_401 q_82 hm_382 (ne_in hm_324 hq_363)
  have hm_422 := hx_424.1
  have hf_423 := hx_424.2.trans hf_381
  have hx_427 := hk_401 q_107 hm_384 (ne_in hm_327 hq_363)
  have hm_425 := hx_427.1
  have hf_426 := hx_427.2.trans hf_383
  have hx_430 := hk_401 q_140 hm_386 (ne_in hm_330 hq_363)
  have hm_428 := hx_430.1
  have hf_429 := hx_430.2.trans hf_385
  have hx_433 := hk_401 q_169 hm_388 (ne_in hm_333 hq_363)
  have hm_431 := hx_433.1
  have hf_432 := hx_433.2.trans hf_387
  have hx_436 := hk_401 q_170 hm_390 (ne_in hm_336 hq_363)
  have hm_434 := hx_436.1
  have hf_435 := hx_436.2.trans hf_389
  have hx_439 := hk_401 q_171 hm_392 (ne_in hm_339 hq_363)
  have hm_437 := hx_439.1
  have hf_438 := hx_439.2.trans hf_391
  have hx_442 := hk_401 q_218 hm_394 (ne_in hm_342 hq_363)
  have hm_440 := hx_442.1
  have hf_441 := hx_442.2.trans hf_393
  have hx_445 := hk_401 q_265 hm_396 (ne_in hm_304 hq_363)
  have hm_443 := hx_445.1
  have hf_444 := hx_445.2.trans hf_395
  refine v_aast hC (r := (RX10, TX10, 7)) hm_419 hf_420 (t := 7) rfl hm_402 hf_403 rfl (by unfold vp_in; decide) dX0_init_81 (fun f_446 hf_447 hk_448 => ?_)
  have hf_447 : f_446 q_56 = aR E 7 6 (va_up (va_up (fun _ => none) 0 (some q_265)) 1 (some q_361)) := hf_447
  have hf_449 := (hk_448 h (ne_kd hf_405 hf_420 rfl)).trans hf_405
  have hf_450 := (hk_448 q_1 (ne_kd hf_408 hf_420 rfl)).trans hf_408
  have hf_451 := (hk_448 q_16 (ne_kd hf_411 hf_420 rfl)).trans hf_411
  have hf_452 := (hk_448 q_17 (ne_kd hf_414 hf_420 rfl)).trans hf_414
  have hf_453 := (hk_448 q_33 (ne_kd hf_417 hf_420 rfl)).trans hf_417
  have hf_454 := (hk_448 q_82 (ne_kd hf_423 hf_420 rfl)).trans hf_423
  have hf_455 := (hk_448 q_107 (ne_kd hf_426 hf_420 rfl)).trans hf_426
  have hf_456 := (hk_448 q_140 (ne_kd hf_429 hf_420 rfl)).trans hf_429
  have hf_457 := (hk_448 q_169 (ne_kd hf_432 hf_420 rfl)).trans hf_432
  have hf_458 := (hk_448 q_170 (ne_kd hf_435 hf_420 rfl)).trans hf_435
  have hf_459 := (hk_448 q_171 (ne_kd hf_438 hf_420 rfl)).trans hf_438
  have hf_460 := (hk_448 q_218 (ne_kd hf_441 hf_420 rfl)).trans hf_441
  have hf_461 := (hk_448 q_265 (ne_kd hf_444 hf_420 rfl)).trans hf_444
  have hf_462 := (hk_448 q_361 (ne_kd hf_403 hf_420 rfl)).trans hf_403
  refine v_iinc hC dX0_init_82 (k := 0) rfl (v := 2) (by decide) (by decide) (lv' := [(1, .int 2), (0, .ref h)]) rfl ?_
  refine v_goto hC dX0_init_85 (tgt := 63) (by decide) ?_
  refine v_iload_n hC dX0_init_63 rfl ?_
  refine v_bipush hC dX0_init_64 (v := 6) (by decide) ?_
  refine v_icmp_ge_f hC dX0_init_66 (tgt := 88) (by decide) (by decide) ?_
  refine v_aload_n hC dX0_init_69 rfl ?_
  refine v_get hC fl_X0_24 hm_404 hf_449 rfl dX0_init_70 ?_
  refine v_iload_n hC dX0_init_73 rfl ?_
  refine v_new hC (ci := 10) (fs := [.int 0, .int 0, .int 0, .int 0, .int 0, .int 0, .int 0]) rfl inX10 tyX10_ok kl_X0_22 in_X10 ii_X10 (fun j hj => by rcases (show j = 0 ∨ j = 1 ∨ j = 2 ∨ j = 3 ∨ j = 4 ∨ j = 5 ∨ j = 6 by omega) with rfl | rfl | rfl | rfl | rfl | rfl | rfl <;> rfl) (Nat.le_of_ble_eq_true rfl) (Nat.le_of_ble_eq_true rfl) dX0_init_74 (fun q_463 f_464 hq_465 hf_466 hk_467 => ?_)
  obtain ⟨L_470, hs_469⟩ : ∃ L9, L9 = L_398 ++ [q_463] := ⟨_, rfl⟩
  rw [← hs_469]
  have hm_468 : q_463 ∈ L_470 := by rw [hs_469]; exact List.mem_append_right _ List.mem_cons_self
  have hm_472 : h ∈ L_470 := by rw [hs_469]; exact List.mem_append_left _ hm_404
  have hf_471 := (hk_467 h (ne_in hm_404 hq_465)).trans hf_449
  have hm_474 : q_1 ∈ L_470 := by rw [hs_469]; exact List.mem_append_left _ hm_407
  have hf_473 := (hk_467 q_1 (ne_in hm_407 hq_465)).trans hf_450
  have hm_476 : q_16 ∈ L_470 := by rw [hs_469]; exact List.mem_append_left _ hm_410
  have hf_475 := (hk_467 q_16 (ne_in hm_410 hq_465)).trans hf_451
  have hm_478 : q_17 ∈ L_470 := by rw [hs_469]; exact List.mem_append_left _ hm_413
  have hf_477 := (hk_467 q_17 (ne_in hm_413 hq_465)).trans hf_452
  have hm_480 : q_33 ∈ L_470 := by rw [hs_469]; exact List.mem_append_left _ hm_416
  have hf_479 := (hk_467 q_33 (ne_in hm_416 hq_465)).trans hf_453
  have hm_482 : q_56 ∈ L_470 := by rw [hs_469]; exact List.mem_append_left _ hm_419
  have hf_481 := (hk_467 q_56 (ne_in hm_419 hq_465)).trans hf_447
  have hm_484 : q_82 ∈ L_470 := by rw [hs_469]; exact List.mem_append_left _ hm_422
  have hf_483 := (hk_467 q_82 (ne_in hm_422 hq_465)).trans hf_454
  have hm_486 : q_107 ∈ L_470 := by rw [hs_469]; exact List.mem_append_left _ hm_425
  have hf_485 := (hk_467 q_107 (ne_in hm_425 hq_465)).trans hf_455
  have hm_488 : q_140 ∈ L_470 := by rw [hs_469]; exact List.mem_append_left _ hm_428
  have hf_487 := (hk_467 q_140 (ne_in hm_428 hq_465)).trans hf_456
  have hm_490 : q_169 ∈ L_470 := by rw [hs_469]; exact List.mem_append_left _ hm_431
  have hf_489 := (hk_467 q_169 (ne_in hm_431 hq_465)).trans hf_457
  have hm_492 : q_170 ∈ L_470 := by rw [hs_469]; exact List.mem_append_left _ hm_434
  have hf_491 := (hk_467 q_170 (ne_in hm_434 hq_465)).trans hf_458
  have hm_494 : q_171 ∈ L_470 := by rw [hs_469]; exact List.mem_append_left _ hm_437
  have hf_493 := (hk_467 q_171 (ne_in hm_437 hq_465)).trans hf_459
  have hm_496 : q_218 ∈ L_470 := by rw [hs_469]; exact List.mem_append_left _ hm_440
  have hf_495 := (hk_467 q_218 (ne_in hm_440 hq_465)).trans hf_460
  have hm_498 : q_265 ∈ L_470 := by rw [hs_469]; exact List.mem_append_left _ hm_443
  have hf_497 := (hk_467 q_265 (ne_in hm_443 hq_465)).trans hf_461
  have hm_500 : q_361 ∈ L_470 := by rw [hs_469]; exact List.mem_append_left _ hm_402
  have hf_499 := (hk_467 q_361 (ne_in hm_402 hq_465)).trans hf_462
  refine v_widen (k := 15) (n := 894) (Nat.le_of_ble_eq_true rfl) (Nat.le_of_ble_eq_true rfl) ?_
  refine v_dup hC dX0_init_77 rfl ?_
  refine v_xvN hC (rest := [.ref q_463, .int 2, .ref q_56]) rfl mi_X10_init (k_X10 hm_468 hf_466) mx_X10_init mn_X0_48 (by decide) rfl (cells1 := 15) (slots1 := 894) (by decide) (by decide) (Nat.le_of_ble_eq_true rfl) (Nat.le_of_ble_eq_true rfl) rfl (Nat.le_of_ble_eq_true rfl) dX0_init_78 (fun L_502 f_503 h_504 => ?_)
  obtain ⟨hk_505, hm_506, hf_507⟩ := h_504
  have hx_510 := hk_505 h hm_472 (ne_in hm_404 hq_465)
  have hm_508 := hx_510.1
  have hf_509 := hx_510.2.trans hf_471
  have hx_513 := hk_505 q_1 hm_474 (ne_in hm_407 hq_465)
  have hm_511 := hx_513.1
  have hf_512 := hx_513.2.trans hf_473
  have hx_516 := hk_505 q_16 hm_476 (ne_in hm_410 hq_465)
  have hm_514 := hx_516.1
  have hf_515 := hx_516.2.trans hf_475
  have hx_519 := hk_505 q_17 hm_478 (ne_in hm_413 hq_465)
  have hm_517 := hx_519.1
  have hf_518 := hx_519.2.trans hf_477
  have hx_522 := hk_505 q_33 hm_480 (ne_in hm_416 hq_465)
  have hm_520 := hx_522.1
  have hf_521 := hx_522.2.trans hf_479
  have hx_525 := hk_505 q_56 hm_482 (ne_in hm_419 hq_465)
  have hm_523 := hx_525.1
  have hf_524 := hx_525.2.trans hf_481
  have hx_528 := hk_505 q_82 hm_484 (ne_in hm_422 hq_465)
  have hm_526 := hx_528.1
  have hf_527 := hx_528.2.trans hf_483
  have hx_531 := hk_505 q_107 hm_486 (ne_in hm_425 hq_465)
  have hm_529 := hx_531.1
  have hf_530 := hx_531.2.trans hf_485
  have hx_534 := hk_505 q_140 hm_488 (ne_in hm_428 hq_465)
  have hm_532 := hx_534.1
  have hf_533 := hx_534.2.trans hf_487
  have hx_537 := hk_505 q_169 hm_490 (ne_in hm_431 hq_465)
  have hm_535 := hx_537.1
  have hf_536 := hx_537.2.trans hf_489
  have hx_540 := hk_505 q_170 hm_492 (ne_in hm_434 hq_465)
  have hm_538 := hx_540.1
  have hf_539 := hx_540.2.trans hf_491
  have hx_543 := hk_505 q_171 hm_494 (ne_in hm_437 hq_465)
  have hm_541 := hx_543.1
  have hf_542 := hx_543.2.trans hf_493
  have hx_546 := hk_505 q_218 hm_496 (ne_in hm_440 hq_465)
  have hm_544 := hx_546.1
  have hf_545 := hx_546.2.trans hf_495
  have hx_549 := hk_505 q_265 hm_498 (ne_in hm_443 hq_465)
  have hm_547 := hx_549.1
  have hf_548 := hx_549.2.trans hf_497
  have hx_552 := hk_505 q_361 hm_500 (ne_in hm_402 hq_465)
  have hm_550 := hx_552.1
  have hf_551 := hx_552.2.trans hf_499
  refine v_aast hC (r := (RX10, TX10, 7)) hm_523 hf_524 (t := 7) rfl hm_506 hf_507 rfl (by unfold vp_in; decide) dX0_init_81 (fun f_553 hf_554 hk_555 => ?_)
  have hf_554 : f_553 q_56 = aR E 7 6 (va_up (va_up (va_up (fun _ => none) 0 (some q_265)) 1 (some q_361)) 2 (some q_463)) := hf_554
  have hf_556 := (hk_555 h (ne_kd hf_509 hf_524 rfl)).trans hf_509
  have hf_557 := (hk_555 q_1 (ne_kd hf_512 hf_524 rfl)).trans hf_512
  have hf_558 := (hk_555 q_16 (ne_kd hf_515 hf_524 rfl)).trans hf_515
  have hf_559 := (hk_555 q_17 (ne_kd hf_518 hf_524 rfl)).trans hf_518
  have hf_560 := (hk_555 q_33 (ne_kd hf_521 hf_524 rfl)).trans hf_521
  have hf_561 := (hk_555 q_82 (ne_kd hf_527 hf_524 rfl)).trans hf_527
  have hf_562 := (hk_555 q_107 (ne_kd hf_530 hf_524 rfl)).trans hf_530
  have hf_563 := (hk_555 q_140 (ne_kd hf_533 hf_524 rfl)).trans hf_533
  have hf_564 := (hk_555 q_169 (ne_kd hf_536 hf_524 rfl)).trans hf_536
  have hf_565 := (hk_555 q_170 (ne_kd hf_539 hf_524 rfl)).trans hf_539
  have hf_566 := (hk_555 q_171 (ne_kd hf_542 hf_524 rfl)).trans hf_542
  have hf_567 := (hk_555 q_218 (ne_kd hf_545 hf_524 rfl)).trans hf_545
  have hf_568 := (hk_555 q_265 (ne_kd hf_548 hf_524 rfl)).trans hf_548
  have hf_569 := (hk_555 q_361 (ne_kd hf_551 hf_524 rfl)).trans hf_551
  have hf_570 := (hk_555 q_463 (ne_kd hf_507 hf_524 rfl)).trans hf_507
  refine v_iinc hC dX0_init_82 (k := 0) rfl (v := 3) (by decide) (by decide) (lv' := [(1, .int 3), (0, .ref h)]) rfl ?_
  refine v_goto hC dX0_init_85 (tgt := 63) (by decide) ?_
  refine v_iload_n hC dX0_init_63 rfl ?_
  refine v_bipush hC dX0_init_64 (v := 6) (by decide) ?_
  refine v_icmp_ge_f hC dX0_init_66 (tgt := 88) (by decide) (by decide) ?_
  refine v_aload_n hC dX0_init_69 rfl ?_
  refine v_get hC fl_X0_24 hm_508 hf_556 rfl dX0_init_70 ?_
  refine v_iload_n hC dX0_init_73 rfl ?_
  refine v_new hC (ci := 10) (fs := [.int 0, .int 0, .int 0, .int 0, .int 0, .int 0, .int 0]) rfl inX10 tyX10_ok kl_X0_22 in_X10 ii_X10 (fun j hj => by rcases (show j = 0 ∨ j = 1 ∨ j = 2 ∨ j = 3 ∨ j = 4 ∨ j = 5 ∨ j = 6 by omega) with rfl | rfl | rfl | rfl | rfl | rfl | rfl <;> rfl) (Nat.le_of_ble_eq_true rfl) (Nat.le_of_ble_eq_true rfl) dX0_init_74 (fun q_571 f_572 hq_573 hf_574 hk_575 => ?_)
  obtain ⟨L_578, hs_577⟩ : ∃ L9, L9 = L_502 ++ [q_571] := ⟨_, rfl⟩
  rw [← hs_577]
  have hm_576 : q_571 ∈ L_578 := by rw [hs_577]; exact List.mem_append_right _ List.mem_cons_self
  have hm_580 : h ∈ L_578 := by rw [hs_577]; exact List.mem_append_left _ hm_508
  have hf_579 := (hk_575 h (ne_in hm_508 hq_573)).trans hf_556
  have hm_582 : q_1 ∈ L_578 := by rw [hs_577]; exact List.mem_append_left _ hm_511
  have hf_581 := (hk_575 q_1 (ne_in hm_511 hq_573)).trans hf_557
  have hm_584 : q_16 ∈ L_578 := by rw [hs_577]; exact List.mem_append_left _ hm_514
  have hf_583 := (hk_575 q_16 (ne_in hm_514 hq_573)).trans hf_558
  have hm_586 : q_17 ∈ L_578 := by rw [hs_577]; exact List.mem_append_left _ hm_517
  have hf_585 := (hk_575 q_17 (ne_in hm_517 hq_573)).trans hf_559
  have hm_588 : q_33 ∈ L_578 := by rw [hs_577]; exact List.mem_append_left _ hm_520
  have hf_587 := (hk_575 q_33 (ne_in hm_520 hq_573)).trans hf_560
  have hm_590 : q_56 ∈ L_578 := by rw [hs_577]; exact List.mem_append_left _ hm_523
  have hf_589 := (hk_575 q_56 (ne_in hm_523 hq_573)).trans hf_554
  have hm_592 : q_82 ∈ L_578 := by rw [hs_577]; exact List.mem_append_left _ hm_526
  have hf_591 := (hk_575 q_82 (ne_in hm_526 hq_573)).trans hf_561
  have hm_594 : q_107 ∈ L_578 := by rw [hs_577]; exact List.mem_append_left _ hm_529
  have hf_593 := (hk_575 q_107 (ne_in hm_529 hq_573)).trans hf_562
  have hm_596 : q_140 ∈ L_578 := by rw [hs_577]; exact List.mem_append_left _ hm_532
  have hf_595 := (hk_575 q_140 (ne_in hm_532 hq_573)).trans hf_563
  have hm_598 : q_169 ∈ L_578 := by rw [hs_577]; exact List.mem_append_left _ hm_535
  have hf_597 := (hk_575 q_169 (ne_in hm_535 hq_573)).trans hf_564
  have hm_600 : q_170 ∈ L_578 := by rw [hs_577]; exact List.mem_append_left _ hm_538
  have hf_599 := (hk_575 q_170 (ne_in hm_538 hq_573)).trans hf_565
  have hm_602 : q_171 ∈ L_578 := by rw [hs_577]; exact List.mem_append_left _ hm_541
  have hf_601 := (hk_575 q_171 (ne_in hm_541 hq_573)).trans hf_566
  have hm_604 : q_218 ∈ L_578 := by rw [hs_577]; exact List.mem_append_left _ hm_544
  have hf_603 := (hk_575 q_218 (ne_in hm_544 hq_573)).trans hf_567
  have hm_606 : q_265 ∈ L_578 := by rw [hs_577]; exact List.mem_append_left _ hm_547
  have hf_605 := (hk_575 q_265 (ne_in hm_547 hq_573)).trans hf_568
  have hm_608 : q_361 ∈ L_578 := by rw [hs_577]; exact List.mem_append_left _ hm_550
  have hf_607 := (hk_575 q_361 (ne_in hm_550 hq_573)).trans hf_569
  have hm_610 : q_463 ∈ L_578 := by rw [hs_577]; exact List.mem_append_left _ hm_506
  have hf_609 := (hk_575 q_463 (ne_in hm_506 hq_573)).trans hf_570
  refine v_widen (k := 16) (n := 901) (Nat.le_of_ble_eq_true rfl) (Nat.le_of_ble_eq_true rfl) ?_
  refine v_dup hC dX0_init_77 rfl ?_
  refine v_xvN hC (rest := [.ref q_571, .int 3, .ref q_56]) rfl mi_X10_init (k_X10 hm_576 hf_574) mx_X10_init mn_X0_48 (by decide) rfl (cells1 := 16) (slots1 := 901) (by decide) (by decide) (Nat.le_of_ble_eq_true rfl) (Nat.le_of_ble_eq_true rfl) rfl (Nat.le_of_ble_eq_true rfl) dX0_init_78 (fun L_612 f_613 h_614 => ?_)
  obtain ⟨hk_615, hm_616, hf_617⟩ := h_614
  have hx_620 := hk_615 h hm_580 (ne_in hm_508 hq_573)
  have hm_618 := hx_620.1
  have hf_619 := hx_620.2.trans hf_579
  have hx_623 := hk_615 q_1 hm_582 (ne_in hm_511 hq_573)
  have hm_621 := hx_623.1
  have hf_622 := hx_623.2.trans hf_581
  have hx_626 := hk_615 q_16 hm_584 (ne_in hm_514 hq_573)
  have hm_624 := hx_626.1
  have hf_625 := hx_626.2.trans hf_583
  have hx_629 := hk_615 q_17 hm_586 (ne_in hm_517 hq_573)
  have hm_627 := hx_629.1
  have hf_628 := hx_629.2.trans hf_585
  have hx_632 := hk_615 q_33 hm_588 (ne_in hm_520 hq_573)
  have hm_630 := hx_632.1
  have hf_631 := hx_632.2.trans hf_587
  have hx_635 := hk_615 q_56 hm_590 (ne_in hm_523 hq_573)
  have hm_633 := hx_635.1
  have hf_634 := hx_635.2.trans hf_589
  have hx_638 := hk_615 q_82 hm_592 (ne_in hm_526 hq_573)
  have hm_636 := hx_638.1
  have hf_637 := hx_638.2.trans hf_591
  have hx_641 := hk_615 q_107 hm_594 (ne_in hm_529 hq_573)
  have hm_639 := hx_641.1
  have hf_640 := hx_641.2.trans hf_593
  have hx_644 := hk_615 q_140 hm_596 (ne_in hm_532 hq_573)
  have hm_642 := hx_644.1
  have hf_643 := hx_644.2.trans hf_595
  have hx_647 := hk_615 q_169 hm_598 (ne_in hm_535 hq_573)
  have hm_645 := hx_647.1
  have hf_646 := hx_647.2.trans hf_597
  have hx_650 := hk_615 q_170 hm_600 (ne_in hm_538 hq_573)
  have hm_648 := hx_650.1
  have hf_649 := hx_650.2.trans hf_599
  have hx_653 := hk_615 q_171 hm_602 (ne_in hm_541 hq_573)
  have hm_651 := hx_653.1
  have hf_652 := hx_653.2.trans hf_601
  have hx_656 := hk_615 q_218 hm_604 (ne_in hm_544 hq_573)
  have hm_654 := hx_656.1
  have hf_655 := hx_656.2.trans hf_603
  have hx_659 := hk_615 q_265 hm_606 (ne_in hm_547 hq_573)
  have hm_657 := hx_659.1
  have hf_658 := hx_659.2.trans hf_605
  have hx_662 := hk_615 q_361 hm_608 (ne_in hm_550 hq_573)
  have hm_660 := hx_662.1
  have hf_661 := hx_662.2.trans hf_607
  have hx_665 := hk_615 q_463 hm_610 (ne_in hm_506 hq_573)
  have hm_663 := hx_665.1
  have hf_664 := hx_665.2.trans hf_609
  refine v_aast hC (r := (RX10, TX10, 7)) hm_633 hf_634 (t := 7) rfl hm_616 hf_617 rfl (by unfold vp_in; decide) dX0_init_81 (fun f_666 hf_667 hk_668 => ?_)
  have hf_667 : f_666 q_56 = aR E 7 6 (va_up (va_up (va_up (va_up (fun _ => none) 0 (some q_265)) 1 (some q_361)) 2 (some q_463)) 3 (some q_571)) := hf_667
  have hf_669 := (hk_668 h (ne_kd hf_619 hf_634 rfl)).trans hf_619
  have hf_670 := (hk_668 q_1 (ne_kd hf_622 hf_634 rfl)).trans hf_622
  have hf_671 := (hk_668 q_16 (ne_kd hf_625 hf_634 rfl)).trans hf_625
  have hf_672 := (hk_668 q_17 (ne_kd hf_628 hf_634 rfl)).trans hf_628
  have hf_673 := (hk_668 q_33 (ne_kd hf_631 hf_634 rfl)).trans hf_631
  have hf_674 := (hk_668 q_82 (ne_kd hf_637 hf_634 rfl)).trans hf_637
  have hf_675 := (hk_668 q_107 (ne_kd hf_640 hf_634 rfl)).trans hf_640
  have hf_676 := (hk_668 q_140 (ne_kd hf_643 hf_634 rfl)).trans hf_643
  have hf_677 := (hk_668 q_169 (ne_kd hf_646 hf_634 rfl)).trans hf_646
  have hf_678 := (hk_668 q_170 (ne_kd hf_649 hf_634 rfl)).trans hf_649
  have hf_679 := (hk_668 q_171 (ne_kd hf_652 hf_634 rfl)).trans hf_652
  have hf_680 := (hk_668 q_218 (ne_kd hf_655 hf_634 rfl)).trans hf_655
  have hf_681 := (hk_668 q_265 (ne_kd hf_658 hf_634 rfl)).trans hf_658
  have hf_682 := (hk_668 q_361 (ne_kd hf_661 hf_634 rfl)).trans hf_661
  have hf_683 := (hk_668 q_463 (ne_kd hf_664 hf_634 rfl)).trans hf_664
  have hf_684 := (hk_668 q_571 (ne_kd hf_617 hf_634 rfl)).trans hf_617
  refine v_iinc hC dX0_init_82 (k := 0) rfl (v := 4) (by decide) (by decide) (lv' := [(1, .int 4), (0, .ref h)]) rfl ?_
  refine v_goto hC dX0_init_85 (tgt := 63) (by decide) ?_
  refine v_iload_n hC dX0_init_63 rfl ?_
  refine v_bipush hC dX0_init_64 (v := 6) (by decide) ?_
  refine v_icmp_ge_f hC dX0_init_66 (tgt := 88) (by decide) (by decide) ?_
  refine v_aload_n hC dX0_init_69 rfl ?_
  refine v_get hC fl_X0_24 hm_618 hf_669 rfl dX0_init_70 ?_
  refine v_iload_n hC dX0_init_73 rfl ?_
  refine v_new hC (ci := 10) (fs := [.int 0, .int 0, .int 0, .int 0, .int 0, .int 0, .int 0]) rfl inX10 tyX10_ok kl_X0_22 in_X10 ii_X10 (fun j hj => by rcases (show j = 0 ∨ j = 1 ∨ j = 2 ∨ j = 3 ∨ j = 4 ∨ j = 5 ∨ j = 6 by omega) with rfl | rfl | rfl | rfl | rfl | rfl | rfl <;> rfl) (Nat.le_of_ble_eq_true rfl) (Nat.le_of_ble_eq_true rfl) dX0_init_74 (fun q_685 f_686 hq_687 hf_688 hk_689 => ?_)
  obtain ⟨L_692, hs_691⟩ : ∃ L9, L9 = L_612 ++ [q_685] := ⟨_, rfl⟩
  rw [← hs_691]
  have hm_690 : q_685 ∈ L_692 := by rw [hs_691]; exact List.mem_append_right _ List.mem_cons_self
  have hm_694 : h ∈ L_692 := by rw [hs_691]; exact List.mem_append_left _ hm_618
  have hf_693 := (hk_689 h (ne_in hm_618 hq_687)).trans hf_669
  have hm_696 : q_1 ∈ L_692 := by rw [hs_691]; exact List.mem_append_left _ hm_621
  have hf_695 := (hk_689 q_1 (ne_in hm_621 hq_687)).trans hf_670
  have hm_698 : q_16 ∈ L_692 := by rw [hs_691]; exact List.mem_append_left _ hm_624
  have hf_697 := (hk_689 q_16 (ne_in hm_624 hq_687)).trans hf_671
  have hm_700 : q_17 ∈ L_692 := by rw [hs_691]; exact List.mem_append_left _ hm_627
  have hf_699 := (hk_689 q_17 (ne_in hm_627 hq_687)).trans hf_672
  have hm_702 : q_33 ∈ L_692 := by rw [hs_691]; exact List.mem_append_left _ hm_630
  have hf_701 := (hk_689 q_33 (ne_in hm_630 hq_687)).trans hf_673
  have hm_704 : q_56 ∈ L_692 := by rw [hs_691]; exact List.mem_append_left _ hm_633
  have hf_703 := (hk_689 q_56 (ne_in hm_633 hq_687)).trans hf_667
  have hm_706 : q_82 ∈ L_692 := by rw [hs_691]; exact List.mem_append_left _ hm_636
  have hf_705 := (hk_689 q_82 (ne_in hm_636 hq_687)).trans hf_674
  have hm_708 : q_107 ∈ L_692 := by rw [hs_691]; exact List.mem_append_left _ hm_639
  have hf_707 := (hk_689 q_107 (ne_in hm_639 hq_687)).trans hf_675
  have hm_710 : q_140 ∈ L_692 := by rw [hs_691]; exact List.mem_append_left _ hm_642
  have hf_709 := (hk_689 q_140 (ne_in hm_642 hq_687)).trans hf_676
  have hm_712 : q_169 ∈ L_692 := by rw [hs_691]; exact List.mem_append_left _ hm_645
  have hf_711 := (hk_689 q_169 (ne_in hm_645 hq_687)).trans hf_677
  have hm_714 : q_170 ∈ L_692 := by rw [hs_691]; exact List.mem_append_left _ hm_648
  have hf_713 := (hk_689 q_170 (ne_in hm_648 hq_687)).trans hf_678
  have hm_716 : q_171 ∈ L_692 := by rw [hs_691]; exact List.mem_append_left _ hm_651
  have hf_715 := (hk_689 q_171 (ne_in hm_651 hq_687)).trans hf_679
  have hm_718 : q_218 ∈ L_692 := by rw [hs_691]; exact List.mem_append_left _ hm_654
  have hf_717 := (hk_689 q_218 (ne_in hm_654 hq_687)).trans hf_680
  have hm_720 : q_265 ∈ L_692 := by rw [hs_691]; exact List.mem_append_left _ hm_657
  have hf_719 := (hk_689 q_265 (ne_in hm_657 hq_687)).trans hf_681
  have hm_722 : q_361 ∈ L_692 := by rw [hs_691]; exact List.mem_append_left _ hm_660
  have hf_721 := (hk_689 q_361 (ne_in hm_660 hq_687)).trans hf_682
  have hm_724 : q_463 ∈ L_692 := by rw [hs_691]; exact List.mem_append_left _ hm_663
  have hf_723 := (hk_689 q_463 (ne_in hm_663 hq_687)).trans hf_683
  have hm_726 : q_571 ∈ L_692 := by rw [hs_691]; exact List.mem_append_left _ hm_616
  have hf_725 := (hk_689 q_571 (ne_in hm_616 hq_687)).trans hf_684
  refine v_widen (k := 17) (n := 908) (Nat.le_of_ble_eq_true rfl) (Nat.le_of_ble_eq_true rfl) ?_
  refine v_dup hC dX0_init_77 rfl ?_
  refine v_xvN hC (rest := [.ref q_685, .int 4, .ref q_56]) rfl mi_X10_init (k_X10 hm_690 hf_688) mx_X10_init mn_X0_48 (by decide) rfl (cells1 := 17) (slots1 := 908) (by decide) (by decide) (Nat.le_of_ble_eq_true rfl) (Nat.le_of_ble_eq_true rfl) rfl (Nat.le_of_ble_eq_true rfl) dX0_init_78 (fun L_728 f_729 h_730 => ?_)
  obtain ⟨hk_731, hm_732, hf_733⟩ := h_730
  have hx_736 := hk_731 h hm_694 (ne_in hm_618 hq_687)
  have hm_734 := hx_736.1
  have hf_735 := hx_736.2.trans hf_693
  have hx_739 := hk_731 q_1 hm_696 (ne_in hm_621 hq_687)
  have hm_737 := hx_739.1
  have hf_738 := hx_739.2.trans hf_695
  have hx_742 := hk_731 q_16 hm_698 (ne_in hm_624 hq_687)
  have hm_740 := hx_742.1
  have hf_741 := hx_742.2.trans hf_697
  have hx_745 := hk_731 q_17 hm_700 (ne_in hm_627 hq_687)
  have hm_743 := hx_745.1
  have hf_744 := hx_745.2.trans hf_699
  have hx_748 := hk_731 q_33 hm_702 (ne_in hm_630 hq_687)
  have hm_746 := hx_748.1
  have hf_747 := hx_748.2.trans hf_701
  have hx_751 := hk_731 q_56 hm_704 (ne_in hm_633 hq_687)
  have hm_749 := hx_751.1
  have hf_750 := hx_751.2.trans hf_703
  have hx_754 := hk_731 q_82 hm_706 (ne_in hm_636 hq_687)
  have hm_752 := hx_754.1
  have hf_753 := hx_754.2.trans hf_705
  have hx_757 := hk_731 q_107 hm_708 (ne_in hm_639 hq_687)
  have hm_755 := hx_757.1
  have hf_756 := hx_757.2.trans hf_707
  have hx_760 := hk_731 q_140 hm_710 (ne_in hm_642 hq_687)
  have hm_758 := hx_760.1
  have hf_759 := hx_760.2.trans hf_709
  have hx_763 := hk_731 q_169 hm_712 (ne_in hm_645 hq_687)
  have hm_761 := hx_763.1
  have hf_762 := hx_763.2.trans hf_711
  have hx_766 := hk_731 q_170 hm_714 (ne_in hm_648 hq_687)
  have hm_764 := hx_766.1
  have hf_765 := hx_766.2.trans hf_713
  have hx_769 := hk_731 q_171 hm_716 (ne_in hm_651 hq_687)
  have hm_767 := hx_769.1
  have hf_768 := hx_769.2.trans hf_715
  have hx_772 := hk_731 q_218 hm_718 (ne_in hm_654 hq_687)
  have hm_770 := hx_772.1
  have hf_771 := hx_772.2.trans hf_717
  have hx_775 := hk_731 q_265 hm_720 (ne_in hm_657 hq_687)
  have hm_773 := hx_775.1
  have hf_774 := hx_775.2.trans hf_719
  have hx_778 := hk_731 q_361 hm_722 (ne_in hm_660 hq_687)
  have hm_776 := hx_778.1
  have hf_777 := hx_778.2.trans hf_721
  have hx_781 := hk_731 q_463 hm_724 (ne_in hm_663 hq_687)
  have hm_779 := hx_781.1
  have hf_780 := hx_781.2.trans hf_723
  have hx_784 := hk_731 q_571 hm_726 (ne_in hm_616 hq_687)
  have hm_782 := hx_784.1
  have hf_783 := hx_784.2.trans hf_725
  refine v_aast hC (r := (RX10, TX10, 7)) hm_749 hf_750 (t := 7) rfl hm_732 hf_733 rfl (by unfold vp_in; decide) dX0_init_81 (fun f_785 hf_786 hk_787 => ?_)
  have hf_786 : f_785 q_56 = aR E 7 6 (va_up (va_up (va_up (va_up (va_up (fun _ => none) 0 (some q_265)) 1 (some q_361)) 2 (some q_463)) 3 (some q_571)) 4 (some q_685)) := hf_786
  have hf_788 := (hk_787 h (ne_kd hf_735 hf_750 rfl)).trans hf_735
  have hf_789 := (hk_787 q_1 (ne_kd hf_738 hf_750 rfl)).trans hf_738
  have hf_790 := (hk_787 q_16 (ne_kd hf_741 hf_750 rfl)).trans hf_741
  have hf_791 := (hk_787 q_17 (ne_kd hf_744 hf_750 rfl)).trans hf_744
  have hf_792 := (hk_787 q_33 (ne_kd hf_747 hf_750 rfl)).trans hf_747
  have hf_793 := (hk_787 q_82 (ne_kd hf_753 hf_750 rfl)).trans hf_753
  have hf_794 := (hk_787 q_107 (ne_kd hf_756 hf_750 rfl)).trans hf_756
  have hf_795 := (hk_787 q_140 (ne_kd hf_759 hf_750 rfl)).trans hf_759
  have hf_796 := (hk_787 q_169 (ne_kd hf_762 hf_750 rfl)).trans hf_762
  have hf_797 := (hk_787 q_170 (ne_kd hf_765 hf_750 rfl)).trans hf_765
  have hf_798 := (hk_787 q_171 (ne_kd hf_768 hf_750 rfl)).trans hf_768
  have hf_799 := (hk_787 q_218 (ne_kd hf_771 hf_750 rfl)).trans hf_771
  have hf_800 := (hk_787 q_265 (ne_kd hf_774 hf_750 rfl)).trans hf_774
  have hf_801 := (hk_787 q_361 (ne_kd hf_777 hf_750 rfl)).trans hf_777
  have hf_802 := (hk_787 q_463 (ne_kd hf_780 hf_750 rfl)).trans hf_780
  have hf_803 := (hk_787 q_571 (ne_kd hf_783 hf_750 rfl)).trans hf_783
  have hf_804 := (hk_787 q_685 (ne_kd hf_733 hf_750 rfl)).trans hf_733
  refine v_iinc hC dX0_init_82 (k := 0) rfl (v := 5) (by decide) (by decide) (lv' := [(1, .int 5), (0, .ref h)]) rfl ?_
  refine v_goto hC dX0_init_85 (tgt := 63) (by decide) ?_
  refine v_iload_n hC dX0_init_63 rfl ?_
  refine v_bipush hC dX0_init_64 (v := 6) (by decide) ?_
  refine v_icmp_ge_f hC dX0_init_66 (tgt := 88) (by decide) (by decide) ?_
  refine v_aload_n hC dX0_init_69 rfl ?_
  refine v_get hC fl_X0_24 hm_734 hf_788 rfl dX0_init_70 ?_
  refine v_iload_n hC dX0_init_73 rfl ?_
  refine v_new hC (ci := 10) (fs := [.int 0, .int 0, .int 0, .int 0, .int 0, .int 0, .int 0]) rfl inX10 tyX10_ok kl_X0_22 in_X10 ii_X10 (fun j hj => by rcases (show j = 0 ∨ j = 1 ∨ j = 2 ∨ j = 3 ∨ j = 4 ∨ j = 5 ∨ j = 6 by omega) with rfl | rfl | rfl | rfl | rfl | rfl | rfl <;> rfl) (Nat.le_of_ble_eq_true rfl) (Nat.le_of_ble_eq_true rfl) dX0_init_74 (fun q_805 f_806 hq_807 hf_808 hk_809 => ?_)
  obtain ⟨L_812, hs_811⟩ : ∃ L9, L9 = L_728 ++ [q_805] := ⟨_, rfl⟩
  rw [← hs_811]
  have hm_810 : q_805 ∈ L_812 := by rw [hs_811]; exact List.mem_append_right _ List.mem_cons_self
  have hm_814 : h ∈ L_812 := by rw [hs_811]; exact List.mem_append_left _ hm_734
  have hf_813 := (hk_809 h (ne_in hm_734 hq_807)).trans hf_788
  have hm_816 : q_1 ∈ L_812 := by rw [hs_811]; exact List.mem_append_left _ hm_737
  have hf_815 := (hk_809 q_1 (ne_in hm_737 hq_807)).trans hf_789
  have hm_818 : q_16 ∈ L_812 := by rw [hs_811]; exact List.mem_append_left _ hm_740
  have hf_817 := (hk_809 q_16 (ne_in hm_740 hq_807)).trans hf_790
  have hm_820 : q_17 ∈ L_812 := by rw [hs_811]; exact List.mem_append_left _ hm_743
  have hf_819 := (hk_809 q_17 (ne_in hm_743 hq_807)).trans hf_791
  have hm_822 : q_33 ∈ L_812 := by rw [hs_811]; exact List.mem_append_left _ hm_746
  have hf_821 := (hk_809 q_33 (ne_in hm_746 hq_807)).trans hf_792
  have hm_824 : q_56 ∈ L_812 := by rw [hs_811]; exact List.mem_append_left _ hm_749
  have hf_823 := (hk_809 q_56 (ne_in hm_749 hq_807)).trans hf_786
  have hm_826 : q_82 ∈ L_812 := by rw [hs_811]; exact List.mem_append_left _ hm_752
  have hf_825 := (hk_809 q_82 (ne_in hm_752 hq_807)).trans hf_793
  have hm_828 : q_107 ∈ L_812 := by rw [hs_811]; exact List.mem_append_left _ hm_755
  have hf_827 := (hk_809 q_107 (ne_in hm_755 hq_807)).trans hf_794
  have hm_830 : q_140 ∈ L_812 := by rw [hs_811]; exact List.mem_append_left _ hm_758
  have hf_829 := (hk_809 q_140 (ne_in hm_758 hq_807)).trans hf_795
  have hm_832 : q_169 ∈ L_812 := by rw [hs_811]; exact List.mem_append_left _ hm_761
  have hf_831 := (hk_809 q_169 (ne_in hm_761 hq_807)).trans hf_796
  have hm_834 : q_170 ∈ L_812 := by rw [hs_811]; exact List.mem_append_left _ hm_764
  have hf_833 := (hk_809 q_170 (ne_in hm_764 hq_807)).trans hf_797
  have hm_836 : q_171 ∈ L_812 := by rw [hs_811]; exact List.mem_append_left _ hm_767
  have hf_835 := (hk_809 q_171 (ne_in hm_767 hq_807)).trans hf_798
  have hm_838 : q_218 ∈ L_812 := by rw [hs_811]; exact List.mem_append_left _ hm_770
  have hf_837 := (hk_809 q_218 (ne_in hm_770 hq_807)).trans hf_799
  have hm_840 : q_265 ∈ L_812 := by rw [hs_811]; exact List.mem_append_left _ hm_773
  have hf_839 := (hk_809 q_265 (ne_in hm_773 hq_807)).trans hf_800
  have hm_842 : q_361 ∈ L_812 := by rw [hs_811]; exact List.mem_append_left _ hm_776
  have hf_841 := (hk_809 q_361 (ne_in hm_776 hq_807)).trans hf_801
  have hm_844 : q_463 ∈ L_812 := by rw [hs_811]; exact List.mem_append_left _ hm_779
  have hf_843 := (hk_809 q_463 (ne_in hm_779 hq_807)).trans hf_802
  have hm_846 : q_571 ∈ L_812 := by rw [hs_811]; exact List.mem_append_left _ hm_782
  have hf_845 := (hk_809 q_571 (ne_in hm_782 hq_807)).trans hf_803
  have hm_848 : q_685 ∈ L_812 := by rw [hs_811]; exact List.mem_append_left _ hm_732
  have hf_847 := (hk_809 q_685 (ne_in hm_732 hq_807)).trans hf_804
  refine v_widen (k := 18) (n := 915) (Nat.le_of_ble_eq_true rfl) (Nat.le_of_ble_eq_true rfl) ?_
  refine v_dup hC dX0_init_77 rfl ?_
  refine v_xvN hC (rest := [.ref q_805, .int 5, .ref q_56]) rfl mi_X10_init (k_X10 hm_810 hf_808) mx_X10_init mn_X0_48 (by decide) rfl (cells1 := 18) (slots1 := 915) (by decide) (by decide) (Nat.le_of_ble_eq_true rfl) (Nat.le_of_ble_eq_true rfl) rfl (Nat.le_of_ble_eq_true rfl) dX0_init_78 (fun L_850 f_851 h_852 => ?_)
  obtain ⟨hk_853, hm_854, hf_855⟩ := h_852
  have hx_858 := hk_853 h hm_814 (ne_in hm_734 hq_807)
  have hm_856 := hx_858.1
  have hf_857 := hx_858.2.trans hf_813
  have hx_861 := hk_853 q_1 hm_816 (ne_in hm_737 hq_807)
  have hm_859 := hx_861.1
  have hf_860 := hx_861.2.trans hf_815
  have hx_864 := hk_853 q_16 hm_818 (ne_in hm_740 hq_807)
  have hm_862 := hx_864.1
  have hf_863 := hx_864.2.trans hf_817
  have hx_867 := hk_853 q_17 hm_820 (ne_in hm_743 hq_807)
  have hm_865 := hx_867.1
  have hf_866 := hx_867.2.trans hf_819
  have hx_870 := hk_853 q_33 hm_822 (ne_in hm_746 hq_807)
  have hm_868 := hx_870.1
  have hf_869 := hx_870.2.trans hf_821
  have hx_873 := hk_853 q_56 hm_824 (ne_in hm_749 hq_807)
  have hm_871 := hx_873.1
  have hf_872 := hx_873.2.trans hf_823
  have hx_876 := hk_853 q_82 hm_826 (ne_in hm_752 hq_807)
  have hm_874 := hx_876.1
  have hf_875 := hx_876.2.trans hf_825
  have hx_879 := hk_853 q_107 hm_828 (ne_in hm_755 hq_807)
  have hm_877 := hx_879.1
  have hf_878 := hx_879.2.trans hf_827
  have hx_882 := hk_853 q_140 hm_830 (ne_in hm_758 hq_807)
  have hm_880 := hx_882.1
  have hf_881 := hx_882.2.trans hf_829
  have hx_885 := hk_853 q_169 hm_832 (ne_in hm_761 hq_807)
  have hm_883 := hx_885.1
  have hf_884 := hx_885.2.trans hf_831
  have hx_888 := hk_853 q_170 hm_834 (ne_in hm_764 hq_807)
  have hm_886 := hx_888.1
  have hf_887 := hx_888.2.trans hf_833
  have hx_891 := hk_853 q_171 hm_836 (ne_in hm_767 hq_807)
  have hm_889 := hx_891.1
  have hf_890 := hx_891.2.trans hf_835
  have hx_894 := hk_853 q_218 hm_838 (ne_in hm_770 hq_807)
  have hm_892 := hx_894.1
  have hf_893 := hx_894.2.trans hf_837
  have hx_897 := hk_853 q_265 hm_840 (ne_in hm_773 hq_807)
  have hm_895 := hx_897.1
  have hf_896 := hx_897.2.trans hf_839
  have hx_900 := hk_853 q_361 hm_842 (ne_in hm_776 hq_807)
  have hm_898 := hx_900.1
  have hf_899 := hx_900.2.trans hf_841
  have hx_903 := hk_853 q_463 hm_844 (ne_in hm_779 hq_807)
  have hm_901 := hx_903.1
  have hf_902 := hx_903.2.trans hf_843
  have hx_906 := hk_853 q_571 hm_846 (ne_in hm_782 hq_807)
  have hm_904 := hx_906.1
  have hf_905 := hx_906.2.trans hf_845
  have hx_909 := hk_853 q_685 hm_848 (ne_in hm_732 hq_807)
  have hm_907 := hx_909.1
  have hf_908 := hx_909.2.trans hf_847
  refine v_aast hC (r := (RX10, TX10, 7)) hm_871 hf_872 (t := 7) rfl hm_854 hf_855 rfl (by unfold vp_in; decide) dX0_init_81 (fun f_910 hf_911 hk_912 => ?_)
  have hf_911 : f_910 q_56 = aR E 7 6 (va_up (va_up (va_up (va_up (va_up (va_up (fun _ => none) 0 (some q_265)) 1 (some q_361)) 2 (some q_463)) 3 (some q_571)) 4 (some q_685)) 5 (some q_805)) := hf_911
  have hf_913 := (hk_912 h (ne_kd hf_857 hf_872 rfl)).trans hf_857
  have hf_914 := (hk_912 q_1 (ne_kd hf_860 hf_872 rfl)).trans hf_860
  have hf_915 := (hk_912 q_16 (ne_kd hf_863 hf_872 rfl)).trans hf_863
  have hf_916 := (hk_912 q_17 (ne_kd hf_866 hf_872 rfl)).trans hf_866
  have hf_917 := (hk_912 q_33 (ne_kd hf_869 hf_872 rfl)).trans hf_869
  have hf_918 := (hk_912 q_82 (ne_kd hf_875 hf_872 rfl)).trans hf_875
  have hf_919 := (hk_912 q_107 (ne_kd hf_878 hf_872 rfl)).trans hf_878
  have hf_920 := (hk_912 q_140 (ne_kd hf_881 hf_872 rfl)).trans hf_881
  have hf_921 := (hk_912 q_169 (ne_kd hf_884 hf_872 rfl)).trans hf_884
  have hf_922 := (hk_912 q_170 (ne_kd hf_887 hf_872 rfl)).trans hf_887
  have hf_923 := (hk_912 q_171 (ne_kd hf_890 hf_872 rfl)).trans hf_890
  have hf_924 := (hk_912 q_218 (ne_kd hf_893 hf_872 rfl)).trans hf_893
  have hf_925 := (hk_912 q_265 (ne_kd hf_896 hf_872 rfl)).trans hf_896
  have hf_926 := (hk_912 q_361 (ne_kd hf_899 hf_872 rfl)).trans hf_899
  have hf_927 := (hk_912 q_463 (ne_kd hf_902 hf_872 rfl)).trans hf_902
  have hf_928 := (hk_912 q_571 (ne_kd hf_905 hf_872 rfl)).trans hf_905
  have hf_929 := (hk_912 q_685 (ne_kd hf_908 hf_872 rfl)).trans hf_908
  have hf_930 := (hk_912 q_805 (ne_kd hf_855 hf_872 rfl)).trans hf_855
  refine v_iinc hC dX0_init_82 (k := 0) rfl (v := 6) (by decide) (by decide) (lv' := [(1, .int 6), (0, .ref h)]) rfl ?_
  refine v_goto hC dX0_init_85 (tgt := 63) (by decide) ?_
  refine v_iload_n hC dX0_init_63 rfl ?_
  refine v_bipush hC dX0_init_64 (v := 6) (by decide) ?_
  refine v_icmp_ge_t hC dX0_init_66 (tgt := 88) (by decide) (by decide) ?_
  refine v_iconst hC dX0_init_88 (v := 0) (by decide) ?_
  refine v_istore_n hC dX0_init_89 (by decide) (lv' := [(1, .int 0), (0, .ref h)]) rfl ?_
  refine v_iload_n hC dX0_init_90 rfl ?_
  refine v_iconst hC dX0_init_91 (v := 4) (by decide) ?_
  refine v_icmp_ge_f hC dX0_init_92 (tgt := 114) (by decide) (by decide) ?_
  refine v_aload_n hC dX0_init_95 rfl ?_
  refine v_get hC fl_X0_44 hm_856 hf_913 rfl dX0_init_96 ?_
  refine v_iload_n hC dX0_init_99 rfl ?_
  refine v_new hC (ci := 1) (fs := [.null, .int 0]) rfl inX1 tyX1_ok kl_X0_42 in_X1 ii_X1 (fun j hj => by rcases (show j = 0 ∨ j = 1 by omega) with rfl | rfl <;> rfl) (Nat.le_of_ble_eq_true rfl) (Nat.le_of_ble_eq_true rfl) dX0_init_100 (fun q_931 f_932 hq_933 hf_934 hk_935 => ?_)
  obtain ⟨L_938, hs_937⟩ : ∃ L9, L9 = L_850 ++ [q_931] := ⟨_, rfl⟩
  rw [← hs_937]
  have hm_936 : q_931 ∈ L_938 := by rw [hs_937]; exact List.mem_append_right _ List.mem_cons_self
  have hm_940 : h ∈ L_938 := by rw [hs_937]; exact List.mem_append_left _ hm_856
  have hf_939 := (hk_935 h (ne_in hm_856 hq_933)).trans hf_913
  have hm_942 : q_1 ∈ L_938 := by rw [hs_937]; exact List.mem_append_left _ hm_859
  have hf_941 := (hk_935 q_1 (ne_in hm_859 hq_933)).trans hf_914
  have hm_944 : q_16 ∈ L_938 := by rw [hs_937]; exact List.mem_append_left _ hm_862
  have hf_943 := (hk_935 q_16 (ne_in hm_862 hq_933)).trans hf_915
  have hm_946 : q_17 ∈ L_938 := by rw [hs_937]; exact List.mem_append_left _ hm_865
  have hf_945 := (hk_935 q_17 (ne_in hm_865 hq_933)).trans hf_916
  have hm_948 : q_33 ∈ L_938 := by rw [hs_937]; exact List.mem_append_left _ hm_868
  have hf_947 := (hk_935 q_33 (ne_in hm_868 hq_933)).trans hf_917
  have hm_950 : q_56 ∈ L_938 := by rw [hs_937]; exact List.mem_append_left _ hm_871
  have hf_949 := (hk_935 q_56 (ne_in hm_871 hq_933)).trans hf_911
  have hm_952 : q_82 ∈ L_938 := by rw [hs_937]; exact List.mem_append_left _ hm_874
  have hf_951 := (hk_935 q_82 (ne_in hm_874 hq_933)).trans hf_918
  have hm_954 : q_107 ∈ L_938 := by rw [hs_937]; exact List.mem_append_left _ hm_877
  have hf_953 := (hk_935 q_107 (ne_in hm_877 hq_933)).trans hf_919
  have hm_956 : q_140 ∈ L_938 := by rw [hs_937]; exact List.mem_append_left _ hm_880
  have hf_955 := (hk_935 q_140 (ne_in hm_880 hq_933)).trans hf_920
  have hm_958 : q_169 ∈ L_938 := by rw [hs_937]; exact List.mem_append_left _ hm_883
  have hf_957 := (hk_935 q_169 (ne_in hm_883 hq_933)).trans hf_921
  have hm_960 : q_170 ∈ L_938 := by rw [hs_937]; exact List.mem_append_left _ hm_886
  have hf_959 := (hk_935 q_170 (ne_in hm_886 hq_933)).trans hf_922
  have hm_962 : q_171 ∈ L_938 := by rw [hs_937]; exact List.mem_append_left _ hm_889
  have hf_961 := (hk_935 q_171 (ne_in hm_889 hq_933)).trans hf_923
  have hm_964 : q_218 ∈ L_938 := by rw [hs_937]; exact List.mem_append_left _ hm_892
  have hf_963 := (hk_935 q_218 (ne_in hm_892 hq_933)).trans hf_924
  have hm_966 : q_265 ∈ L_938 := by rw [hs_937]; exact List.mem_append_left _ hm_895
  have hf_965 := (hk_935 q_265 (ne_in hm_895 hq_933)).trans hf_925
  have hm_968 : q_361 ∈ L_938 := by rw [hs_937]; exact List.mem_append_left _ hm_898
  have hf_967 := (hk_935 q_361 (ne_in hm_898 hq_933)).trans hf_926
  have hm_970 : q_463 ∈ L_938 := by rw [hs_937]; exact List.mem_append_left _ hm_901
  have hf_969 := (hk_935 q_463 (ne_in hm_901 hq_933)).trans hf_927
  have hm_972 : q_571 ∈ L_938 := by rw [hs_937]; exact List.mem_append_left _ hm_904
  have hf_971 := (hk_935 q_571 (ne_in hm_904 hq_933)).trans hf_928
  have hm_974 : q_685 ∈ L_938 := by rw [hs_937]; exact List.mem_append_left _ hm_907
  have hf_973 := (hk_935 q_685 (ne_in hm_907 hq_933)).trans hf_929
  have hm_976 : q_805 ∈ L_938 := by rw [hs_937]; exact List.mem_append_left _ hm_854
  have hf_975 := (hk_935 q_805 (ne_in hm_854 hq_933)).trans hf_930
  refine v_widen (k := 19) (n := 917) (Nat.le_of_ble_eq_true rfl) (Nat.le_of_ble_eq_true rfl) ?_
  refine v_dup hC dX0_init_103 rfl ?_
  refine v_xvN hC (rest := [.ref q_931, .int 0, .ref q_218]) rfl mi_X1_init (k_X1 hm_936 hf_934) mx_X1_init mn_X0_49 (by decide) rfl (cells1 := 20) (slots1 := 1173) (by decide) (by decide) (Nat.le_of_ble_eq_true rfl) (Nat.le_of_ble_eq_true rfl) rfl (Nat.le_of_ble_eq_true rfl) dX0_init_104 (fun L_978 f_979 h_980 => ?_)
  obtain ⟨hk_981, q_982, hm_983, hf_984, hm_985, hf_986⟩ := h_980
  have hx_989 := hk_981 h hm_940 (ne_in hm_856 hq_933)
  have hm_987 := hx_989.1
  have hf_988 := hx_989.2.trans hf_939
  have hx_992 := hk_981 q_1 hm_942 (ne_in hm_859 hq_933)
  have hm_990 := hx_992.1
  have hf_991 := hx_992.2.trans hf_941
  have hx_995 := hk_981 q_16 hm_944 (ne_in hm_862 hq_933)
  have hm_993 := hx_995.1
  have hf_994 := hx_995.2.trans hf_943
  have hx_998 := hk_981 q_17 hm_946 (ne_in hm_865 hq_933)
  have hm_996 := hx_998.1
  have hf_997 := hx_998.2.trans hf_945
  have hx_1001 := hk_981 q_33 hm_948 (ne_in hm_868 hq_933)
  have hm_999 := hx_1001.1
  have hf_1000 := hx_1001.2.trans hf_947
  have hx_1004 := hk_981 q_56 hm_950 (ne_in hm_871 hq_933)
  have hm_1002 := hx_1004.1
  have hf_1003 := hx_1004.2.trans hf_949
  have hx_1007 := hk_981 q_82 hm_952 (ne_in hm_874 hq_933)
  have hm_1005 := hx_1007.1
  have hf_1006 := hx_1007.2.trans hf_951
  have hx_1010 := hk_981 q_107 hm_954 (ne_in hm_877 hq_933)
  have hm_1008 := hx_1010.1
  have hf_1009 := hx_1010.2.trans hf_953
  have hx_1013 := hk_981 q_140 hm_956 (ne_in hm_880 hq_933)
  have hm_1011 := hx_1013.1
  have hf_1012 := hx_1013.2.trans hf_955
  have hx_1016 := hk_981 q_169 hm_958 (ne_in hm_883 hq_933)
  have hm_1014 := hx_1016.1
  have hf_1015 := hx_1016.2.trans hf_957
  have hx_1019 := hk_981 q_170 hm_960 (ne_in hm_886 hq_933)
  have hm_1017 := hx_1019.1
  have hf_1018 := hx_1019.2.trans hf_959
  have hx_1022 := hk_981 q_171 hm_962 (ne_in hm_889 hq_933)
  have hm_1020 := hx_1022.1
  have hf_1021 := hx_1022.2.trans hf_961
  have hx_1025 := hk_981 q_218 hm_964 (ne_in hm_892 hq_933)
  have hm_1023 := hx_1025.1
  have hf_1024 := hx_1025.2.trans hf_963
  have hx_1028 := hk_981 q_265 hm_966 (ne_in hm_895 hq_933)
  have hm_1026 := hx_1028.1
  have hf_1027 := hx_1028.2.trans hf_965
  have hx_1031 := hk_981 q_361 hm_968 (ne_in hm_898 hq_933)
  have hm_1029 := hx_1031.1
  have hf_1030 := hx_1031.2.trans hf_967
  have hx_1034 := hk_981 q_463 hm_970 (ne_in hm_901 hq_933)
  have hm_1032 := hx_1034.1
  have hf_1033 := hx_1034.2.trans hf_969
  have hx_1037 := hk_981 q_571 hm_972 (ne_in hm_904 hq_933)
  have hm_1035 := hx_1037.1
  have hf_1036 := hx_1037.2.trans hf_971
  have hx_1040 := hk_981 q_685 hm_974 (ne_in hm_907 hq_933)
  have hm_1038 := hx_1040.1
  have hf_1039 := hx_1040.2.trans hf_973
  have hx_1043 := hk_981 q_805 hm_976 (ne_in hm_854 hq_933)
  have hm_1041 := hx_1043.1
  have hf_1042 := hx_1043.2.trans hf_975
  refine v_aast hC (r := (RX1, TX1, 2)) hm_1023 hf_1024 (t := 5) rfl hm_983 hf_984 rfl (by unfold vp_in; decide) dX0_init_107 (fun f_1044 hf_1045 hk_1046 => ?_)
  have hf_1045 : f_1044 q_218 = aR E 5 4 (va_up (fun _ => none) 0 (some q_931)) := hf_1045
  have hf_1047 := (hk_1046 h (ne_kd hf_988 hf_1024 rfl)).trans hf_988
  have hf_1048 := (hk_1046 q_1 (ne_kd hf_991 hf_1024 rfl)).trans hf_991
  have hf_1049 := (hk_1046 q_16 (ne_kd hf_994 hf_1024 rfl)).trans hf_994
  have hf_1050 := (hk_1046 q_17 (ne_kd hf_997 hf_1024 rfl)).trans hf_997
  have hf_1051 := (hk_1046 q_33 (ne_kd hf_1000 hf_1024 rfl)).trans hf_1000
  have hf_1052 := (hk_1046 q_56 (ne_kd hf_1003 hf_1024 rfl)).trans hf_1003
  have hf_1053 := (hk_1046 q_82 (ne_kd hf_1006 hf_1024 rfl)).trans hf_1006
  have hf_1054 := (hk_1046 q_107 (ne_kd hf_1009 hf_1024 rfl)).trans hf_1009
  have hf_1055 := (hk_1046 q_140 (ne_kd hf_1012 hf_1024 rfl)).trans hf_1012
  have hf_1056 := (hk_1046 q_169 (ne_kd hf_1015 hf_1024 rfl)).trans hf_1015
  have hf_1057 := (hk_1046 q_170 (ne_kd hf_1018 hf_1024 rfl)).trans hf_1018
  have hf_1058 := (hk_1046 q_171 (ne_kd hf_1021 hf_1024 rfl)).trans hf_1021
  have hf_1059 := (hk_1046 q_265 (ne_kd hf_1027 hf_1024 rfl)).trans hf_1027
  have hf_1060 := (hk_1046 q_361 (ne_kd hf_1030 hf_1024 rfl)).trans hf_1030
  have hf_1061 := (hk_1046 q_463 (ne_kd hf_1033 hf_1024 rfl)).trans hf_1033
  have hf_1062 := (hk_1046 q_571 (ne_kd hf_1036 hf_1024 rfl)).trans hf_1036
  have hf_1063 := (hk_1046 q_685 (ne_kd hf_1039 hf_1024 rfl)).trans hf_1039
  have hf_1064 := (hk_1046 q_805 (ne_kd hf_1042 hf_1024 rfl)).trans hf_1042
  have hf_1065 := (hk_1046 q_931 (ne_kd hf_984 hf_1024 rfl)).trans hf_984
  have hf_1066 := (hk_1046 q_982 (ne_kd hf_986 hf_1024 rfl)).trans hf_986
  refine v_iinc hC dX0_init_108 (k := 0) rfl (v := 1) (by decide) (by decide) (lv' := [(1, .int 1), (0, .ref h)]) rfl ?_
  refine v_goto hC dX0_init_111 (tgt := 90) (by decide) ?_
  refine v_iload_n hC dX0_init_90 rfl ?_
  refine v_iconst hC dX0_init_91 (v := 4) (by decide) ?_
  refine v_icmp_ge_f hC dX0_init_92 (tgt := 114) (by decide) (by decide) ?_
  refine v_aload_n hC dX0_init_95 rfl ?_
  refine v_get hC fl_X0_44 hm_987 hf_1047 rfl dX0_init_96 ?_
  refine v_iload_n hC dX0_init_99 rfl ?_
  refine v_new hC (ci := 1) (fs := [.null, .int 0]) rfl inX1 tyX1_ok kl_X0_42 in_X1 ii_X1 (fun j hj => by rcases (show j = 0 ∨ j = 1 by omega) with rfl | rfl <;> rfl) (Nat.le_of_ble_eq_true rfl) (Nat.le_of_ble_eq_true rfl) dX0_init_100 (fun q_1067 f_1068 hq_1069 hf_1070 hk_1071 => ?_)
  obtain ⟨L_1074, hs_1073⟩ : ∃ L9, L9 = L_978 ++ [q_1067] := ⟨_, rfl⟩
  rw [← hs_1073]
  have hm_1072 : q_1067 ∈ L_1074 := by rw [hs_1073]; exact List.mem_append_right _ List.mem_cons_self
  have hm_1076 : h ∈ L_1074 := by rw [hs_1073]; exact List.mem_append_left _ hm_987
  have hf_1075 := (hk_1071 h (ne_in hm_987 hq_1069)).trans hf_1047
  have hm_1078 : q_1 ∈ L_1074 := by rw [hs_1073]; exact List.mem_append_left _ hm_990
  have hf_1077 := (hk_1071 q_1 (ne_in hm_990 hq_1069)).trans hf_1048
  have hm_1080 : q_16 ∈ L_1074 := by rw [hs_1073]; exact List.mem_append_left _ hm_993
  have hf_1079 := (hk_1071 q_16 (ne_in hm_993 hq_1069)).trans hf_1049
  have hm_1082 : q_17 ∈ L_1074 := by rw [hs_1073]; exact List.mem_append_left _ hm_996
  have hf_1081 := (hk_1071 q_17 (ne_in hm_996 hq_1069)).trans hf_1050
  have hm_1084 : q_33 ∈ L_1074 := by rw [hs_1073]; exact List.mem_append_left _ hm_999
  have hf_1083 := (hk_1071 q_33 (ne_in hm_999 hq_1069)).trans hf_1051
  have hm_1086 : q_56 ∈ L_1074 := by rw [hs_1073]; exact List.mem_append_left _ hm_1002
  have hf_1085 := (hk_1071 q_56 (ne_in hm_1002 hq_1069)).trans hf_1052
  have hm_1088 : q_82 ∈ L_1074 := by rw [hs_1073]; exact List.mem_append_left _ hm_1005
  have hf_1087 := (hk_1071 q_82 (ne_in hm_1005 hq_1069)).trans hf_1053
  have hm_1090 : q_107 ∈ L_1074 := by rw [hs_1073]; exact List.mem_append_left _ hm_1008
  have hf_1089 := (hk_1071 q_107 (ne_in hm_1008 hq_1069)).trans hf_1054
  have hm_1092 : q_140 ∈ L_1074 := by rw [hs_1073]; exact List.mem_append_left _ hm_1011
  have hf_1091 := (hk_1071 q_140 (ne_in hm_1011 hq_1069)).trans hf_1055
  have hm_1094 : q_169 ∈ L_1074 := by rw [hs_1073]; exact List.mem_append_left _ hm_1014
  have hf_1093 := (hk_1071 q_169 (ne_in hm_1014 hq_1069)).trans hf_1056
  have hm_1096 : q_170 ∈ L_1074 := by rw [hs_1073]; exact List.mem_append_left _ hm_1017
  have hf_1095 := (hk_1071 q_170 (ne_in hm_1017 hq_1069)).trans hf_1057
  have hm_1098 : q_171 ∈ L_1074 := by rw [hs_1073]; exact List.mem_append_left _ hm_1020
  have hf_1097 := (hk_1071 q_171 (ne_in hm_1020 hq_1069)).trans hf_1058
  have hm_1100 : q_218 ∈ L_1074 := by rw [hs_1073]; exact List.mem_append_left _ hm_1023
  have hf_1099 := (hk_1071 q_218 (ne_in hm_1023 hq_1069)).trans hf_1045
  have hm_1102 : q_265 ∈ L_1074 := by rw [hs_1073]; exact List.mem_append_left _ hm_1026
  have hf_1101 := (hk_1071 q_265 (ne_in hm_1026 hq_1069)).trans hf_1059
  have hm_1104 : q_361 ∈ L_1074 := by rw [hs_1073]; exact List.mem_append_left _ hm_1029
  have hf_1103 := (hk_1071 q_361 (ne_in hm_1029 hq_1069)).trans hf_1060
  have hm_1106 : q_463 ∈ L_1074 := by rw [hs_1073]; exact List.mem_append_left _ hm_1032
  have hf_1105 := (hk_1071 q_463 (ne_in hm_1032 hq_1069)).trans hf_1061
  have hm_1108 : q_571 ∈ L_1074 := by rw [hs_1073]; exact List.mem_append_left _ hm_1035
  have hf_1107 := (hk_1071 q_571 (ne_in hm_1035 hq_1069)).trans hf_1062
  have hm_1110 : q_685 ∈ L_1074 := by rw [hs_1073]; exact List.mem_append_left _ hm_1038
  have hf_1109 := (hk_1071 q_685 (ne_in hm_1038 hq_1069)).trans hf_1063
  have hm_1112 : q_805 ∈ L_1074 := by rw [hs_1073]; exact List.mem_append_left _ hm_1041
  have hf_1111 := (hk_1071 q_805 (ne_in hm_1041 hq_1069)).trans hf_1064
  have hm_1114 : q_931 ∈ L_1074 := by rw [hs_1073]; exact List.mem_append_left _ hm_983
  have hf_1113 := (hk_1071 q_931 (ne_in hm_983 hq_1069)).trans hf_1065
  have hm_1116 : q_982 ∈ L_1074 := by rw [hs_1073]; exact List.mem_append_left _ hm_985
  have hf_1115 := (hk_1071 q_982 (ne_in hm_985 hq_1069)).trans hf_1066
  refine v_widen (k := 21) (n := 1175) (Nat.le_of_ble_eq_true rfl) (Nat.le_of_ble_eq_true rfl) ?_
  refine v_dup hC dX0_init_103 rfl ?_
  refine v_xvN hC (rest := [.ref q_1067, .int 1, .ref q_218]) rfl mi_X1_init (k_X1 hm_1072 hf_1070) mx_X1_init mn_X0_49 (by decide) rfl (cells1 := 22) (slots1 := 1431) (by decide) (by decide) (Nat.le_of_ble_eq_true rfl) (Nat.le_of_ble_eq_true rfl) rfl (Nat.le_of_ble_eq_true rfl) dX0_init_104 (fun L_1118 f_1119 h_1120 => ?_)
  obtain ⟨hk_1121, q_1122, hm_1123, hf_1124, hm_1125, hf_1126⟩ := h_1120
  have hx_1129 := hk_1121 h hm_1076 (ne_in hm_987 hq_1069)
  have hm_1127 := hx_1129.1
  have hf_1128 := hx_1129.2.trans hf_1075
  have hx_1132 := hk_1121 q_1 hm_1078 (ne_in hm_990 hq_1069)
  have hm_1130 := hx_1132.1
  have hf_1131 := hx_1132.2.trans hf_1077
  have hx_1135 := hk_1121 q_16 hm_1080 (ne_in hm_993 hq_1069)
  have hm_1133 := hx_1135.1
  have hf_1134 := hx_1135.2.trans hf_1079
  have hx_1138 := hk_1121 q_17 hm_1082 (ne_in hm_996 hq_1069)
  have hm_1136 := hx_1138.1
  have hf_1137 := hx_1138.2.trans hf_1081
  have hx_1141 := hk_1121 q_33 hm_1084 (ne_in hm_999 hq_1069)
  have hm_1139 := hx_1141.1
  have hf_1140 := hx_1141.2.trans hf_1083
  have hx_1144 := hk_1121 q_56 hm_1086 (ne_in hm_1002 hq_1069)
  have hm_1142 := hx_1144.1
  have hf_1143 := hx_1144.2.trans hf_1085
  have hx_1147 := hk_1121 q_82 hm_1088 (ne_in hm_1005 hq_1069)
  have hm_1145 := hx_1147.1
  have hf_1146 := hx_1147.2.trans hf_1087
  have hx_1150 := hk_1121 q_107 hm_1090 (ne_in hm_1008 hq_1069)
  have hm_1148 := hx_1150.1
  have hf_1149 := hx_1150.2.trans hf_1089
  have hx_1153 := hk_1121 q_140 hm_1092 (ne_in hm_1011 hq_1069)
  have hm_1151 := hx_1153.1
  have hf_1152 := hx_1153.2.trans hf_1091
  have hx_1156 := hk_1121 q_169 hm_1094 (ne_in hm_1014 hq_1069)
  have hm_1154 := hx_1156.1
  have hf_1155 := hx_1156.2.trans hf_1093
  have hx_1159 := hk_1121 q_170 hm_1096 (ne_in hm_1017 hq_1069)
  have hm_1157 := hx_1159.1
  have hf_1158 := hx_1159.2.trans hf_1095
  have hx_1162 := hk_1121 q_171 hm_1098 (ne_in hm_1020 hq_1069)
  have hm_1160 := hx_1162.1
  have hf_1161 := hx_1162.2.trans hf_1097
  have hx_1165 := hk_1121 q_218 hm_1100 (ne_in hm_1023 hq_1069)
  have hm_1163 := hx_1165.1
  have hf_1164 := hx_1165.2.trans hf_1099
  have hx_1168 := hk_1121 q_265 hm_1102 (ne_in hm_1026 hq_1069)
  have hm_1166 := hx_1168.1
  have hf_1167 := hx_1168.2.trans hf_1101
  have hx_1171 := hk_1121 q_361 hm_1104 (ne_in hm_1029 hq_1069)
  have hm_1169 := hx_1171.1
  have hf_1170 := hx_1171.2.trans hf_1103
  have hx_1174 := hk_1121 q_463 hm_1106 (ne_in hm_1032 hq_1069)
  have hm_1172 := hx_1174.1
  have hf_1173 := hx_1174.2.trans hf_1105
  have hx_1177 := hk_1121 q_571 hm_1108 (ne_in hm_1035 hq_1069)
  have hm_1175 := hx_1177.1
  have hf_1176 := hx_1177.2.trans hf_1107
  have hx_1180 := hk_1121 q_685 hm_1110 (ne_in hm_1038 hq_1069)
  have hm_1178 := hx_1180.1
  have hf_1179 := hx_1180.2.trans hf_1109
  have hx_1183 := hk_1121 q_805 hm_1112 (ne_in hm_1041 hq_1069)
  have hm_1181 := hx_1183.1
  have hf_1182 := hx_1183.2.trans hf_1111
  have hx_1186 := hk_1121 q_931 hm_1114 (ne_in hm_983 hq_1069)
  have hm_1184 := hx_1186.1
  have hf_1185 := hx_1186.2.trans hf_1113
  have hx_1189 := hk_1121 q_982 hm_1116 (ne_in hm_985 hq_1069)
  have hm_1187 := hx_1189.1
  have hf_1188 := hx_1189.2.trans hf_1115
  refine v_aast hC (r := (RX1, TX1, 2)) hm_1163 hf_1164 (t := 5) rfl hm_1123 hf_1124 rfl (by unfold vp_in; decide) dX0_init_107 (fun f_1190 hf_1191 hk_1192 => ?_)
  have hf_1191 : f_1190 q_218 = aR E 5 4 (va_up (va_up (fun _ => none) 0 (some q_931)) 1 (some q_1067)) := hf_1191
  have hf_1193 := (hk_1192 h (ne_kd hf_1128 hf_1164 rfl)).trans hf_1128
  have hf_1194 := (hk_1192 q_1 (ne_kd hf_1131 hf_1164 rfl)).trans hf_1131
  have hf_1195 := (hk_1192 q_16 (ne_kd hf_1134 hf_1164 rfl)).trans hf_1134
  have hf_1196 := (hk_1192 q_17 (ne_kd hf_1137 hf_1164 rfl)).trans hf_1137
  have hf_1197 := (hk_1192 q_33 (ne_kd hf_1140 hf_1164 rfl)).trans hf_1140
  have hf_1198 := (hk_1192 q_56 (ne_kd hf_1143 hf_1164 rfl)).trans hf_1143
  have hf_1199 := (hk_1192 q_82 (ne_kd hf_1146 hf_1164 rfl)).trans hf_1146
  have hf_1200 := (hk_1192 q_107 (ne_kd hf_1149 hf_1164 rfl)).trans hf_1149
  have hf_1201 := (hk_1192 q_140 (ne_kd hf_1152 hf_1164 rfl)).trans hf_1152
  have hf_1202 := (hk_1192 q_169 (ne_kd hf_1155 hf_1164 rfl)).trans hf_1155
  have hf_1203 := (hk_1192 q_170 (ne_kd hf_1158 hf_1164 rfl)).trans hf_1158
  have hf_1204 := (hk_1192 q_171 (ne_kd hf_1161 hf_1164 rfl)).trans hf_1161
  have hf_1205 := (hk_1192 q_265 (ne_kd hf_1167 hf_1164 rfl)).trans hf_1167
  have hf_1206 := (hk_1192 q_361 (ne_kd hf_1170 hf_1164 rfl)).trans hf_1170
  have hf_1207 := (hk_1192 q_463 (ne_kd hf_1173 hf_1164 rfl)).trans hf_1173
  have hf_1208 := (hk_1192 q_571 (ne_kd hf_1176 hf_1164 rfl)).trans hf_1176
  have hf_1209 := (hk_1192 q_685 (ne_kd hf_1179 hf_1164 rfl)).trans hf_1179
  have hf_1210 := (hk_1192 q_805 (ne_kd hf_1182 hf_1164 rfl)).trans hf_1182
  have hf_1211 := (hk_1192 q_931 (ne_kd hf_1185 hf_1164 rfl)).trans hf_1185
  have hf_1212 := (hk_1192 q_982 (ne_kd hf_1188 hf_1164 rfl)).trans hf_1188
  have hf_1213 := (hk_1192 q_1067 (ne_kd hf_1124 hf_1164 rfl)).trans hf_1124
  have hf_1214 := (hk_1192 q_1122 (ne_kd hf_1126 hf_1164 rfl)).trans hf_1126
  refine v_iinc hC dX0_init_108 (k := 0) rfl (v := 2) (by decide) (by decide) (lv' := [(1, .int 2), (0, .ref h)]) rfl ?_
  refine v_goto hC dX0_init_111 (tgt := 90) (by decide) ?_
  refine v_iload_n hC dX0_init_90 rfl ?_
  refine v_iconst hC dX0_init_91 (v := 4) (by decide) ?_
  refine v_icmp_ge_f hC dX0_init_92 (tgt := 114) (by decide) (by decide) ?_
  refine v_aload_n hC dX0_init_95 rfl ?_
  refine v_get hC fl_X0_44 hm_1127 hf_1193 rfl dX0_init_96 ?_
  refine v_iload_n hC dX0_init_99 rfl ?_
  refine v_new hC (ci := 1) (fs := [.null, .int 0]) rfl inX1 tyX1_ok kl_X0_42 in_X1 ii_X1 (fun j hj => by rcases (show j = 0 ∨ j = 1 by omega) with rfl | rfl <;> rfl) (Nat.le_of_ble_eq_true rfl) (Nat.le_of_ble_eq_true rfl) dX0_init_100 (fun q_1215 f_1216 hq_1217 hf_1218 hk_1219 => ?_)
  obtain ⟨L_1222, hs_1221⟩ : ∃ L9, L9 = L_1118 ++ [q_1215] := ⟨_, rfl⟩
  rw [← hs_1221]
  have hm_1220 : q_1215 ∈ L_1222 := by rw [hs_1221]; exact List.mem_append_right _ List.mem_cons_self
  have hm_1224 : h ∈ L_1222 := by rw [hs_1221]; exact List.mem_append_left _ hm_1127
  have hf_1223 := (hk_1219 h (ne_in hm_1127 hq_1217)).trans hf_1193
  have hm_1226 : q_1 ∈ L_1222 := by rw [hs_1221]; exact List.mem_append_left _ hm_1130
  have hf_1225 := (hk_1219 q_1 (ne_in hm_1130 hq_1217)).trans hf_1194
  have hm_1228 : q_16 ∈ L_1222 := by rw [hs_1221]; exact List.mem_append_left _ hm_1133
  have hf_1227 := (hk_1219 q_16 (ne_in hm_1133 hq_1217)).trans hf_1195
  have hm_1230 : q_17 ∈ L_1222 := by rw [hs_1221]; exact List.mem_append_left _ hm_1136
  have hf_1229 := (hk_1219 q_17 (ne_in hm_1136 hq_1217)).trans hf_1196
  have hm_1232 : q_33 ∈ L_1222 := by rw [hs_1221]; exact List.mem_append_left _ hm_1139
  have hf_1231 := (hk_1219 q_33 (ne_in hm_1139 hq_1217)).trans hf_1197
  have hm_1234 : q_56 ∈ L_1222 := by rw [hs_1221]; exact List.mem_append_left _ hm_1142
  have hf_1233 := (hk_1219 q_56 (ne_in hm_1142 hq_1217)).trans hf_1198
  have hm_1236 : q_82 ∈ L_1222 := by rw [hs_1221]; exact List.mem_append_left _ hm_1145
  have hf_1235 := (hk_1219 q_82 (ne_in hm_1145 hq_1217)).trans hf_1199
  have hm_1238 : q_107 ∈ L_1222 := by rw [hs_1221]; exact List.mem_append_left _ hm_1148
  have hf_1237 := (hk_1219 q_107 (ne_in hm_1148 hq_1217)).trans hf_1200
  have hm_1240 : q_140 ∈ L_1222 := by rw [hs_1221]; exact List.mem_append_left _ hm_1151
  have hf_1239 := (hk_1219 q_140 (ne_in hm_1151 hq_1217)).trans hf_1201
  have hm_1242 : q_169 ∈ L_1222 := by rw [hs_1221]; exact List.mem_append_left _ hm_1154
  have hf_1241 := (hk_1219 q_169 (ne_in hm_1154 hq_1217)).trans hf_1202
  have hm_1244 : q_170 ∈ L_1222 := by rw [hs_1221]; exact List.mem_append_left _ hm_1157
  have hf_1243 := (hk_1219 q_170 (ne_in hm_1157 hq_1217)).trans hf_1203
  have hm_1246 : q_171 ∈ L_1222 := by rw [hs_1221]; exact List.mem_append_left _ hm_1160
  have hf_1245 := (hk_1219 q_171 (ne_in hm_1160 hq_1217)).trans hf_1204
  have hm_1248 : q_218 ∈ L_1222 := by rw [hs_1221]; exact List.mem_append_left _ hm_1163
  have hf_1247 := (hk_1219 q_218 (ne_in hm_1163 hq_1217)).trans hf_1191
  have hm_1250 : q_265 ∈ L_1222 := by rw [hs_1221]; exact List.mem_append_left _ hm_1166
  have hf_1249 := (hk_1219 q_265 (ne_in hm_1166 hq_1217)).trans hf_1205
  have hm_1252 : q_361 ∈ L_1222 := by rw [hs_1221]; exact List.mem_append_left _ hm_1169
  have hf_1251 := (hk_1219 q_361 (ne_in hm_1169 hq_1217)).trans hf_1206
  have hm_1254 : q_463 ∈ L_1222 := by rw [hs_1221]; exact List.mem_append_left _ hm_1172
  have hf_1253 := (hk_1219 q_463 (ne_in hm_1172 hq_1217)).trans hf_1207
  have hm_1256 : q_571 ∈ L_1222 := by rw [hs_1221]; exact List.mem_append_left _ hm_1175
  have hf_1255 := (hk_1219 q_571 (ne_in hm_1175 hq_1217)).trans hf_1208
  have hm_1258 : q_685 ∈ L_1222 := by rw [hs_1221]; exact List.mem_append_left _ hm_1178
  have hf_1257 := (hk_1219 q_685 (ne_in hm_1178 hq_1217)).trans hf_1209
  have hm_1260 : q_805 ∈ L_1222 := by rw [hs_1221]; exact List.mem_append_left _ hm_1181
  have hf_1259 := (hk_1219 q_805 (ne_in hm_1181 hq_1217)).trans hf_1210
  have hm_1262 : q_931 ∈ L_1222 := by rw [hs_1221]; exact List.mem_append_left _ hm_1184
  have hf_1261 := (hk_1219 q_931 (ne_in hm_1184 hq_1217)).trans hf_1211
  have hm_1264 : q_982 ∈ L_1222 := by rw [hs_1221]; exact List.mem_append_left _ hm_1187
  have hf_1263 := (hk_1219 q_982 (ne_in hm_1187 hq_1217)).trans hf_1212
  have hm_1266 : q_1067 ∈ L_1222 := by rw [hs_1221]; exact List.mem_append_left _ hm_1123
  have hf_1265 := (hk_1219 q_1067 (ne_in hm_1123 hq_1217)).trans hf_1213
  have hm_1268 : q_1122 ∈ L_1222 := by rw [hs_1221]; exact List.mem_append_left _ hm_1125
  have hf_1267 := (hk_1219 q_1122 (ne_in hm_1125 hq_1217)).trans hf_1214
  refine v_widen (k := 23) (n := 1433) (Nat.le_of_ble_eq_true rfl) (Nat.le_of_ble_eq_true rfl) ?_
  refine v_dup hC dX0_init_103 rfl ?_
  refine v_xvN hC (rest := [.ref q_1215, .int 2, .ref q_218]) rfl mi_X1_init (k_X1 hm_1220 hf_1218) mx_X1_init mn_X0_49 (by decide) rfl (cells1 := 24) (slots1 := 1689) (by decide) (by decide) (Nat.le_of_ble_eq_true rfl) (Nat.le_of_ble_eq_true rfl) rfl (Nat.le_of_ble_eq_true rfl) dX0_init_104 (fun L_1270 f_1271 h_1272 => ?_)
  obtain ⟨hk_1273, q_1274, hm_1275, hf_1276, hm_1277, hf_1278⟩ := h_1272
  have hx_1281 := hk_1273 h hm_1224 (ne_in hm_1127 hq_1217)
  have hm_1279 := hx_1281.1
  have hf_1280 := hx_1281.2.trans hf_1223
  have hx_1284 := hk_1273 q_1 hm_1226 (ne_in hm_1130 hq_1217)
  have hm_1282 := hx_1284.1
  have hf_1283 := hx_1284.2.trans hf_1225
  have hx_1287 := hk_1273 q_16 hm_1228 (ne_in hm_1133 hq_1217)
  have hm_1285 := hx_1287.1
  have hf_1286 := hx_1287.2.trans hf_1227
  have hx_1290 := hk_1273 q_17 hm_1230 (ne_in hm_1136 hq_1217)
  have hm_1288 := hx_1290.1
  have hf_1289 := hx_1290.2.trans hf_1229
  have hx_1293 := hk_1273 q_33 hm_1232 (ne_in hm_1139 hq_1217)
  have hm_1291 := hx_1293.1
  have hf_1292 := hx_1293.2.trans hf_1231
  have hx_1296 := hk_1273 q_56 hm_1234 (ne_in hm_1142 hq_1217)
  have hm_1294 := hx_1296.1
  have hf_1295 := hx_1296.2.trans hf_1233
  have hx_1299 := hk_1273 q_82 hm_1236 (ne_in hm_1145 hq_1217)
  have hm_1297 := hx_1299.1
  have hf_1298 := hx_1299.2.trans hf_1235
  have hx_1302 := hk_1273 q_107 hm_1238 (ne_in hm_1148 hq_1217)
  have hm_1300 := hx_1302.1
  have hf_1301 := hx_1302.2.trans hf_1237
  have hx_1305 := hk_1273 q_140 hm_1240 (ne_in hm_1151 hq_1217)
  have hm_1303 := hx_1305.1
  have hf_1304 := hx_1305.2.trans hf_1239
  have hx_1308 := hk_1273 q_169 hm_1242 (ne_in hm_1154 hq_1217)
  have hm_1306 := hx_1308.1
  have hf_1307 := hx_1308.2.trans hf_1241
  have hx_1311 := hk_1273 q_170 hm_1244 (ne_in hm_1157 hq_1217)
  have hm_1309 := hx_1311.1
  have hf_1310 := hx_1311.2.trans hf_1243
  have hx_1314 := hk_1273 q_171 hm_1246 (ne_in hm_1160 hq_1217)
  have hm_1312 := hx_1314.1
  have hf_1313 := hx_1314.2.trans hf_1245
  have hx_1317 := hk_1273 q_218 hm_1248 (ne_in hm_1163 hq_1217)
  have hm_1315 := hx_1317.1
  have hf_1316 := hx_1317.2.trans hf_1247
  have hx_1320 := hk_1273 q_265 hm_1250 (ne_in hm_1166 hq_1217)
  have hm_1318 := hx_1320.1
  have hf_1319 := hx_1320.2.trans hf_1249
  have hx_1323 := hk_1273 q_361 hm_1252 (ne_in hm_1169 hq_1217)
  have hm_1321 := hx_1323.1
  have hf_1322 := hx_1323.2.trans hf_1251
  have hx_1326 := hk_1273 q_463 hm_1254 (ne_in hm_1172 hq_1217)
  have hm_1324 := hx_1326.1
  have hf_1325 := hx_1326.2.trans hf_1253
  have hx_1329 := hk_1273 q_571 hm_1256 (ne_in hm_1175 hq_1217)
  have hm_1327 := hx_1329.1
  have hf_1328 := hx_1329.2.trans hf_1255
  have hx_1332 := hk_1273 q_685 hm_1258 (ne_in hm_1178 hq_1217)
  have hm_1330 := hx_1332.1
  have hf_1331 := hx_1332.2.trans hf_1257
  have hx_1335 := hk_1273 q_805 hm_1260 (ne_in hm_1181 hq_1217)
  have hm_1333 := hx_1335.1
  have hf_1334 := hx_1335.2.trans hf_1259
  have hx_1338 := hk_1273 q_931 hm_1262 (ne_in hm_1184 hq_1217)
  have hm_1336 := hx_1338.1
  have hf_1337 := hx_1338.2.trans hf_1261
  have hx_1341 := hk_1273 q_982 hm_1264 (ne_in hm_1187 hq_1217)
  have hm_1339 := hx_1341.1
  have hf_1340 := hx_1341.2.trans hf_1263
  have hx_1344 := hk_1273 q_1067 hm_1266 (ne_in hm_1123 hq_1217)
  have hm_1342 := hx_1344.1
  have hf_1343 := hx_1344.2.trans hf_1265
  have hx_1347 := hk_1273 q_1122 hm_1268 (ne_in hm_1125 hq_1217)
  have hm_1345 := hx_1347.1
  have hf_1346 := hx_1347.2.trans hf_1267
  refine v_aast hC (r := (RX1, TX1, 2)) hm_1315 hf_1316 (t := 5) rfl hm_1275 hf_1276 rfl (by unfold vp_in; decide) dX0_init_107 (fun f_1348 hf_1349 hk_1350 => ?_)
  have hf_1349 : f_1348 q_218 = aR E 5 4 (va_up (va_up (va_up (fun _ => none) 0 (some q_931)) 1 (some q_1067)) 2 (some q_1215)) := hf_1349
  have hf_1351 := (hk_1350 h (ne_kd hf_1280 hf_1316 rfl)).trans hf_1280
  have hf_1352 := (hk_1350 q_1 (ne_kd hf_1283 hf_1316 rfl)).trans hf_1283
  have hf_1353 := (hk_1350 q_16 (ne_kd hf_1286 hf_1316 rfl)).trans hf_1286
  have hf_1354 := (hk_1350 q_17 (ne_kd hf_1289 hf_1316 rfl)).trans hf_1289
  have hf_1355 := (hk_1350 q_33 (ne_kd hf_1292 hf_1316 rfl)).trans hf_1292
  have hf_1356 := (hk_1350 q_56 (ne_kd hf_1295 hf_1316 rfl)).trans hf_1295
  have hf_1357 := (hk_1350 q_82 (ne_kd hf_1298 hf_1316 rfl)).trans hf_1298
  have hf_1358 := (hk_1350 q_107 (ne_kd hf_1301 hf_1316 rfl)).trans hf_1301
  have hf_1359 := (hk_1350 q_140 (ne_kd hf_1304 hf_1316 rfl)).trans hf_1304
  have hf_1360 := (hk_1350 q_169 (ne_kd hf_1307 hf_1316 rfl)).trans hf_1307
  have hf_1361 := (hk_1350 q_170 (ne_kd hf_1310 hf_1316 rfl)).trans hf_1310
  have hf_1362 := (hk_1350 q_171 (ne_kd hf_1313 hf_1316 rfl)).trans hf_1313
  have hf_1363 := (hk_1350 q_265 (ne_kd hf_1319 hf_1316 rfl)).trans hf_1319
  have hf_1364 := (hk_1350 q_361 (ne_kd hf_1322 hf_1316 rfl)).trans hf_1322
  have hf_1365 := (hk_1350 q_463 (ne_kd hf_1325 hf_1316 rfl)).trans hf_1325
  have hf_1366 := (hk_1350 q_571 (ne_kd hf_1328 hf_1316 rfl)).trans hf_1328
  have hf_1367 := (hk_1350 q_685 (ne_kd hf_1331 hf_1316 rfl)).trans hf_1331
  have hf_1368 := (hk_1350 q_805 (ne_kd hf_1334 hf_1316 rfl)).trans hf_1334
  have hf_1369 := (hk_1350 q_931 (ne_kd hf_1337 hf_1316 rfl)).trans hf_1337
  have hf_1370 := (hk_1350 q_982 (ne_kd hf_1340 hf_1316 rfl)).trans hf_1340
  have hf_1371 := (hk_1350 q_1067 (ne_kd hf_1343 hf_1316 rfl)).trans hf_1343
  have hf_1372 := (hk_1350 q_1122 (ne_kd hf_1346 hf_1316 rfl)).trans hf_1346
  have hf_1373 := (hk_1350 q_1215 (ne_kd hf_1276 hf_1316 rfl)).trans hf_1276
  have hf_1374 := (hk_1350 q_1274 (ne_kd hf_1278 hf_1316 rfl)).trans hf_1278
  refine v_iinc hC dX0_init_108 (k := 0) rfl (v := 3) (by decide) (by decide) (lv' := [(1, .int 3), (0, .ref h)]) rfl ?_
  refine v_goto hC dX0_init_111 (tgt := 90) (by decide) ?_
  refine v_iload_n hC dX0_init_90 rfl ?_
  refine v_iconst hC dX0_init_91 (v := 4) (by decide) ?_
  refine v_icmp_ge_f hC dX0_init_92 (tgt := 114) (by decide) (by decide) ?_
  refine v_aload_n hC dX0_init_95 rfl ?_
  refine v_get hC fl_X0_44 hm_1279 hf_1351 rfl dX0_init_96 ?_
  refine v_iload_n hC dX0_init_99 rfl ?_
  refine v_new hC (ci := 1) (fs := [.null, .int 0]) rfl inX1 tyX1_ok kl_X0_42 in_X1 ii_X1 (fun j hj => by rcases (show j = 0 ∨ j = 1 by omega) with rfl | rfl <;> rfl) (Nat.le_of_ble_eq_true rfl) (Nat.le_of_ble_eq_true rfl) dX0_init_100 (fun q_1375 f_1376 hq_1377 hf_1378 hk_1379 => ?_)
  obtain ⟨L_1382, hs_1381⟩ : ∃ L9, L9 = L_1270 ++ [q_1375] := ⟨_, rfl⟩
  rw [← hs_1381]
  have hm_1380 : q_1375 ∈ L_1382 := by rw [hs_1381]; exact List.mem_append_right _ List.mem_cons_self
  have hm_1384 : h ∈ L_1382 := by rw [hs_1381]; exact List.mem_append_left _ hm_1279
  have hf_1383 := (hk_1379 h (ne_in hm_1279 hq_1377)).trans hf_1351
  have hm_1386 : q_1 ∈ L_1382 := by rw [hs_1381]; exact List.mem_append_left _ hm_1282
  have hf_1385 := (hk_1379 q_1 (ne_in hm_1282 hq_1377)).trans hf_1352
  have hm_1388 : q_16 ∈ L_1382 := by rw [hs_1381]; exact List.mem_append_left _ hm_1285
  have hf_1387 := (hk_1379 q_16 (ne_in hm_1285 hq_1377)).trans hf_1353
  have hm_1390 : q_17 ∈ L_1382 := by rw [hs_1381]; exact List.mem_append_left _ hm_1288
  have hf_1389 := (hk_1379 q_17 (ne_in hm_1288 hq_1377)).trans hf_1354
  have hm_1392 : q_33 ∈ L_1382 := by rw [hs_1381]; exact List.mem_append_left _ hm_1291
  have hf_1391 := (hk_1379 q_33 (ne_in hm_1291 hq_1377)).trans hf_1355
  have hm_1394 : q_56 ∈ L_1382 := by rw [hs_1381]; exact List.mem_append_left _ hm_1294
  have hf_1393 := (hk_1379 q_56 (ne_in hm_1294 hq_1377)).trans hf_1356
  have hm_1396 : q_82 ∈ L_1382 := by rw [hs_1381]; exact List.mem_append_left _ hm_1297
  have hf_1395 := (hk_1379 q_82 (ne_in hm_1297 hq_1377)).trans hf_1357
  have hm_1398 : q_107 ∈ L_1382 := by rw [hs_1381]; exact List.mem_append_left _ hm_1300
  have hf_1397 := (hk_1379 q_107 (ne_in hm_1300 hq_1377)).trans hf_1358
  have hm_1400 : q_140 ∈ L_1382 := by rw [hs_1381]; exact List.mem_append_left _ hm_1303
  have hf_1399 := (hk_1379 q_140 (ne_in hm_1303 hq_1377)).trans hf_1359
  have hm_1402 : q_169 ∈ L_1382 := by rw [hs_1381]; exact List.mem_append_left _ hm_1306
  have hf_1401 := (hk_1379 q_169 (ne_in hm_1306 hq_1377)).trans hf_1360
  have hm_1404 : q_170 ∈ L_1382 := by rw [hs_1381]; exact List.mem_append_left _ hm_1309
  have hf_1403 := (hk_1379 q_170 (ne_in hm_1309 hq_1377)).trans hf_1361
  have hm_1406 : q_171 ∈ L_1382 := by rw [hs_1381]; exact List.mem_append_left _ hm_1312
  have hf_1405 := (hk_1379 q_171 (ne_in hm_1312 hq_1377)).trans hf_1362
  have hm_1408 : q_218 ∈ L_1382 := by rw [hs_1381]; exact List.mem_append_left _ hm_1315
  have hf_1407 := (hk_1379 q_218 (ne_in hm_1315 hq_1377)).trans hf_1349
  have hm_1410 : q_265 ∈ L_1382 := by rw [hs_1381]; exact List.mem_append_left _ hm_1318
  have hf_1409 := (hk_1379 q_265 (ne_in hm_1318 hq_1377)).trans hf_1363
  have hm_1412 : q_361 ∈ L_1382 := by rw [hs_1381]; exact List.mem_append_left _ hm_1321
  have hf_1411 := (hk_1379 q_361 (ne_in hm_1321 hq_1377)).trans hf_1364
  have hm_1414 : q_463 ∈ L_1382 := by rw [hs_1381]; exact List.mem_append_left _ hm_1324
  have hf_1413 := (hk_1379 q_463 (ne_in hm_1324 hq_1377)).trans hf_1365
  have hm_1416 : q_571 ∈ L_1382 := by rw [hs_1381]; exact List.mem_append_left _ hm_1327
  have hf_1415 := (hk_1379 q_571 (ne_in hm_1327 hq_1377)).trans hf_1366
  have hm_1418 : q_685 ∈ L_1382 := by rw [hs_1381]; exact List.mem_append_left _ hm_1330
  have hf_1417 := (hk_1379 q_685 (ne_in hm_1330 hq_1377)).trans hf_1367
  have hm_1420 : q_805 ∈ L_1382 := by rw [hs_1381]; exact List.mem_append_left _ hm_1333
  have hf_1419 := (hk_1379 q_805 (ne_in hm_1333 hq_1377)).trans hf_1368
  have hm_1422 : q_931 ∈ L_1382 := by rw [hs_1381]; exact List.mem_append_left _ hm_1336
  have hf_1421 := (hk_1379 q_931 (ne_in hm_1336 hq_1377)).trans hf_1369
  have hm_1424 : q_982 ∈ L_1382 := by rw [hs_1381]; exact List.mem_append_left _ hm_1339
  have hf_1423 := (hk_1379 q_982 (ne_in hm_1339 hq_1377)).trans hf_1370
  have hm_1426 : q_1067 ∈ L_1382 := by rw [hs_1381]; exact List.mem_append_left _ hm_1342
  have hf_1425 := (hk_1379 q_1067 (ne_in hm_1342 hq_1377)).trans hf_1371
  have hm_1428 : q_1122 ∈ L_1382 := by rw [hs_1381]; exact List.mem_append_left _ hm_1345
  have hf_1427 := (hk_1379 q_1122 (ne_in hm_1345 hq_1377)).trans hf_1372
  have hm_1430 : q_1215 ∈ L_1382 := by rw [hs_1381]; exact List.mem_append_left _ hm_1275
  have hf_1429 := (hk_1379 q_1215 (ne_in hm_1275 hq_1377)).trans hf_1373
  have hm_1432 : q_1274 ∈ L_1382 := by rw [hs_1381]; exact List.mem_append_left _ hm_1277
  have hf_1431 := (hk_1379 q_1274 (ne_in hm_1277 hq_1377)).trans hf_1374
  refine v_widen (k := 25) (n := 1691) (Nat.le_of_ble_eq_true rfl) (Nat.le_of_ble_eq_true rfl) ?_
  refine v_dup hC dX0_init_103 rfl ?_
  refine v_xvN hC (rest := [.ref q_1375, .int 3, .ref q_218]) rfl mi_X1_init (k_X1 hm_1380 hf_1378) mx_X1_init mn_X0_49 (by decide) rfl (cells1 := 26) (slots1 := 1947) (by decide) (by decide) (Nat.le_of_ble_eq_true rfl) (Nat.le_of_ble_eq_true rfl) rfl (Nat.le_of_ble_eq_true rfl) dX0_init_104 (fun L_1434 f_1435 h_1436 => ?_)
  obtain ⟨hk_1437, q_1438, hm_1439, hf_1440, hm_1441, hf_1442⟩ := h_1436
  have hx_1445 := hk_1437 h hm_1384 (ne_in hm_1279 hq_1377)
  have hm_1443 := hx_1445.1
  have hf_1444 := hx_1445.2.trans hf_1383
  have hx_1448 := hk_1437 q_1 hm_1386 (ne_in hm_1282 hq_1377)
  have hm_1446 := hx_1448.1
  have hf_1447 := hx_1448.2.trans hf_1385
  have hx_1451 := hk_1437 q_16 hm_1388 (ne_in hm_1285 hq_1377)
  have hm_1449 := hx_1451.1
  have hf_1450 := hx_1451.2.trans hf_1387
  have hx_1454 := hk_1437 q_17 hm_1390 (ne_in hm_1288 hq_1377)
  have hm_1452 := hx_1454.1
  have hf_1453 := hx_1454.2.trans hf_1389
  have hx_1457 := hk_1437 q_33 hm_1392 (ne_in hm_1291 hq_1377)
  have hm_1455 := hx_1457.1
  have hf_1456 := hx_1457.2.trans hf_1391
  have hx_1460 := hk_1437 q_56 hm_1394 (ne_in hm_1294 hq_1377)
  have hm_1458 := hx_1460.1
  have hf_1459 := hx_1460.2.trans hf_1393
  have hx_1463 := hk_1437 q_82 hm_1396 (ne_in hm_1297 hq_1377)
  have hm_1461 := hx_1463.1
  have hf_1462 := hx_1463.2.trans hf_1395
  have hx_1466 := hk_1437 q_107 hm_1398 (ne_in hm_1300 hq_1377)
  have hm_1464 := hx_1466.1
  have hf_1465 := hx_1466.2.trans hf_1397
  have hx_1469 := hk_1437 q_140 hm_1400 (ne_in hm_1303 hq_1377)
  have hm_1467 := hx_1469.1
  have hf_1468 := hx_1469.2.trans hf_1399
  have hx_1472 := hk_1437 q_169 hm_1402 (ne_in hm_1306 hq_1377)
  have hm_1470 := hx_1472.1
  have hf_1471 := hx_1472.2.trans hf_1401
  have hx_1475 := hk_1437 q_170 hm_1404 (ne_in hm_1309 hq_1377)
  have hm_1473 := hx_1475.1
  have hf_1474 := hx_1475.2.trans hf_1403
  have hx_1478 := hk_1437 q_171 hm_1406 (ne_in hm_1312 hq_1377)
  have hm_1476 := hx_1478.1
  have hf_1477 := hx_1478.2.trans hf_1405
  have hx_1481 := hk_1437 q_218 hm_1408 (ne_in hm_1315 hq_1377)
  have hm_1479 := hx_1481.1
  have hf_1480 := hx_1481.2.trans hf_1407
  have hx_1484 := hk_1437 q_265 hm_1410 (ne_in hm_1318 hq_1377)
  have hm_1482 := hx_1484.1
  have hf_1483 := hx_1484.2.trans hf_1409
  have hx_1487 := hk_1437 q_361 hm_1412 (ne_in hm_1321 hq_1377)
  have hm_1485 := hx_1487.1
  have hf_1486 := hx_1487.2.trans hf_1411
  have hx_1490 := hk_1437 q_463 hm_1414 (ne_in hm_1324 hq_1377)
  have hm_1488 := hx_1490.1
  have hf_1489 := hx_1490.2.trans hf_1413
  have hx_1493 := hk_1437 q_571 hm_1416 (ne_in hm_1327 hq_1377)
  have hm_1491 := hx_1493.1
  have hf_1492 := hx_1493.2.trans hf_1415
  have hx_1496 := hk_1437 q_685 hm_1418 (ne_in hm_1330 hq_1377)
  have hm_1494 := hx_1496.1
  have hf_1495 := hx_1496.2.trans hf_1417
  have hx_1499 := hk_1437 q_805 hm_1420 (ne_in hm_1333 hq_1377)
  have hm_1497 := hx_1499.1
  have hf_1498 := hx_1499.2.trans hf_1419
  have hx_1502 := hk_1437 q_931 hm_1422 (ne_in hm_1336 hq_1377)
  have hm_1500 := hx_1502.1
  have hf_1501 := hx_1502.2.trans hf_1421
  have hx_1505 := hk_1437 q_982 hm_1424 (ne_in hm_1339 hq_1377)
  have hm_1503 := hx_1505.1
  have hf_1504 := hx_1505.2.trans hf_1423
  have hx_1508 := hk_1437 q_1067 hm_1426 (ne_in hm_1342 hq_1377)
  have hm_1506 := hx_1508.1
  have hf_1507 := hx_1508.2.trans hf_1425
  have hx_1511 := hk_1437 q_1122 hm_1428 (ne_in hm_1345 hq_1377)
  have hm_1509 := hx_1511.1
  have hf_1510 := hx_1511.2.trans hf_1427
  have hx_1514 := hk_1437 q_1215 hm_1430 (ne_in hm_1275 hq_1377)
  have hm_1512 := hx_1514.1
  have hf_1513 := hx_1514.2.trans hf_1429
  have hx_1517 := hk_1437 q_1274 hm_1432 (ne_in hm_1277 hq_1377)
  have hm_1515 := hx_1517.1
  have hf_1516 := hx_1517.2.trans hf_1431
  refine v_aast hC (r := (RX1, TX1, 2)) hm_1479 hf_1480 (t := 5) rfl hm_1439 hf_1440 rfl (by unfold vp_in; decide) dX0_init_107 (fun f_1518 hf_1519 hk_1520 => ?_)
  have hf_1519 : f_1518 q_218 = aR E 5 4 (va_up (va_up (va_up (va_up (fun _ => none) 0 (some q_931)) 1 (some q_1067)) 2 (some q_1215)) 3 (some q_1375)) := hf_1519
  have hf_1521 := (hk_1520 h (ne_kd hf_1444 hf_1480 rfl)).trans hf_1444
  have hf_1522 := (hk_1520 q_1 (ne_kd hf_1447 hf_1480 rfl)).trans hf_1447
  have hf_1523 := (hk_1520 q_16 (ne_kd hf_1450 hf_1480 rfl)).trans hf_1450
  have hf_1524 := (hk_1520 q_17 (ne_kd hf_1453 hf_1480 rfl)).trans hf_1453
  have hf_1525 := (hk_1520 q_33 (ne_kd hf_1456 hf_1480 rfl)).trans hf_1456
  have hf_1526 := (hk_1520 q_56 (ne_kd hf_1459 hf_1480 rfl)).trans hf_1459
  have hf_1527 := (hk_1520 q_82 (ne_kd hf_1462 hf_1480 rfl)).trans hf_1462
  have hf_1528 := (hk_1520 q_107 (ne_kd hf_1465 hf_1480 rfl)).trans hf_1465
  have hf_1529 := (hk_1520 q_140 (ne_kd hf_1468 hf_1480 rfl)).trans hf_1468
  have hf_1530 := (hk_1520 q_169 (ne_kd hf_1471 hf_1480 rfl)).trans hf_1471
  have hf_1531 := (hk_1520 q_170 (ne_kd hf_1474 hf_1480 rfl)).trans hf_1474
  have hf_1532 := (hk_1520 q_171 (ne_kd hf_1477 hf_1480 rfl)).trans hf_1477
  have hf_1533 := (hk_1520 q_265 (ne_kd hf_1483 hf_1480 rfl)).trans hf_1483
  have hf_1534 := (hk_1520 q_361 (ne_kd hf_1486 hf_1480 rfl)).trans hf_1486
  have hf_1535 := (hk_1520 q_463 (ne_kd hf_1489 hf_1480 rfl)).trans hf_1489
  have hf_1536 := (hk_1520 q_571 (ne_kd hf_1492 hf_1480 rfl)).trans hf_1492
  have hf_1537 := (hk_1520 q_685 (ne_kd hf_1495 hf_1480 rfl)).trans hf_1495
  have hf_1538 := (hk_1520 q_805 (ne_kd hf_1498 hf_1480 rfl)).trans hf_1498
  have hf_1539 := (hk_1520 q_931 (ne_kd hf_1501 hf_1480 rfl)).trans hf_1501
  have hf_1540 := (hk_1520 q_982 (ne_kd hf_1504 hf_1480 rfl)).trans hf_1504
  have hf_1541 := (hk_1520 q_1067 (ne_kd hf_1507 hf_1480 rfl)).trans hf_1507
  have hf_1542 := (hk_1520 q_1122 (ne_kd hf_1510 hf_1480 rfl)).trans hf_1510
  have hf_1543 := (hk_1520 q_1215 (ne_kd hf_1513 hf_1480 rfl)).trans hf_1513
  have hf_1544 := (hk_1520 q_1274 (ne_kd hf_1516 hf_1480 rfl)).trans hf_1516
  have hf_1545 := (hk_1520 q_1375 (ne_kd hf_1440 hf_1480 rfl)).trans hf_1440
  have hf_1546 := (hk_1520 q_1438 (ne_kd hf_1442 hf_1480 rfl)).trans hf_1442
  refine v_iinc hC dX0_init_108 (k := 0) rfl (v := 4) (by decide) (by decide) (lv' := [(1, .int 4), (0, .ref h)]) rfl ?_
  refine v_goto hC dX0_init_111 (tgt := 90) (by decide) ?_
  refine v_iload_n hC dX0_init_90 rfl ?_
  refine v_iconst hC dX0_init_91 (v := 4) (by decide) ?_
  refine v_icmp_ge_t hC dX0_init_92 (tgt := 114) (by decide) (by decide) ?_
  have hkp_1547 : ∀ b ∈ L, b ≠ h → b ∈ L_1434 ∧ f_1518 b = f b := by
    intro b hb0 hn0
    have e1 := hk_5 b (ne_in hb0 hq_3)
    have b1 : b ∈ L_8 := by rw [hs_7]; exact List.mem_append_left _ hb0
    have e2 := (hk_15 b b1 (ne_in hb0 hq_3)).2
    have b2 := (hk_15 b b1 (ne_in hb0 hq_3)).1
    have e3 := hk_29 b hn0
    have e4 := hk_37 b (ne_in b2 hq_35)
    have b4 : b ∈ L_40 := by rw [hs_39]; exact List.mem_append_left _ b2
    have e5 := hk_51 b hn0
    have e6 := hk_60 b (ne_in b4 hq_58)
    have b6 : b ∈ L_63 := by rw [hs_62]; exact List.mem_append_left _ b4
    have e7 := hk_76 b hn0
    have e8 := hk_86 b (ne_in b6 hq_84)
    have b8 : b ∈ L_89 := by rw [hs_88]; exact List.mem_append_left _ b6
    have e9 := (hk_106 b b8 (ne_in b6 hq_84)).2
    have b9 := (hk_106 b b8 (ne_in b6 hq_84)).1
    have e10 := hk_132 b hn0
    have e11 := hk_144 b (ne_in b9 hq_142)
    have b11 : b ∈ L_147 := by rw [hs_146]; exact List.mem_append_left _ b9
    have e12 := (hk_168 b b11 (ne_in b9 hq_142)).2
    have b12 := (hk_168 b b11 (ne_in b9 hq_142)).1
    have e13 := hk_206 b hn0
    have e14 := hk_222 b (ne_in b12 hq_220)
    have b14 : b ∈ L_225 := by rw [hs_224]; exact List.mem_append_left _ b12
    have e15 := hk_252 b hn0
    have e16 := hk_269 b (ne_in b14 hq_267)
    have b16 : b ∈ L_272 := by rw [hs_271]; exact List.mem_append_left _ b14
    have e17 := (hk_303 b b16 (ne_in b14 hq_267)).2
    have b17 := (hk_303 b b16 (ne_in b14 hq_267)).1
    have e18 := hk_347 b (ne_in b4 hq_58)
    have e19 := hk_365 b (ne_in b17 hq_363)
    have b19 : b ∈ L_368 := by rw [hs_367]; exact List.mem_append_left _ b17
    have e20 := (hk_401 b b19 (ne_in b17 hq_363)).2
    have b20 := (hk_401 b b19 (ne_in b17 hq_363)).1
    have e21 := hk_448 b (ne_in b4 hq_58)
    have e22 := hk_467 b (ne_in b20 hq_465)
    have b22 : b ∈ L_470 := by rw [hs_469]; exact List.mem_append_left _ b20
    have e23 := (hk_505 b b22 (ne_in b20 hq_465)).2
    have b23 := (hk_505 b b22 (ne_in b20 hq_465)).1
    have e24 := hk_555 b (ne_in b4 hq_58)
    have e25 := hk_575 b (ne_in b23 hq_573)
    have b25 : b ∈ L_578 := by rw [hs_577]; exact List.mem_append_left _ b23
    have e26 := (hk_615 b b25 (ne_in b23 hq_573)).2
    have b26 := (hk_615 b b25 (ne_in b23 hq_573)).1
    have e27 := hk_668 b (ne_in b4 hq_58)
    have e28 := hk_689 b (ne_in b26 hq_687)
    have b28 : b ∈ L_692 := by rw [hs_691]; exact List.mem_append_left _ b26
    have e29 := (hk_731 b b28 (ne_in b26 hq_687)).2
    have b29 := (hk_731 b b28 (ne_in b26 hq_687)).1
    have e30 := hk_787 b (ne_in b4 hq_58)
    have e31 := hk_809 b (ne_in b29 hq_807)
    have b31 : b ∈ L_812 := by rw [hs_811]; exact List.mem_append_left _ b29
    have e32 := (hk_853 b b31 (ne_in b29 hq_807)).2
    have b32 := (hk_853 b b31 (ne_in b29 hq_807)).1
    have e33 := hk_912 b (ne_in b4 hq_58)
    have e34 := hk_935 b (ne_in b32 hq_933)
    have b34 : b ∈ L_938 := by rw [hs_937]; exact List.mem_append_left _ b32
    have e35 := (hk_981 b b34 (ne_in b32 hq_933)).2
    have b35 := (hk_981 b b34 (ne_in b32 hq_933)).1
    have e36 := hk_1046 b (ne_in b12 hq_220)
    have e37 := hk_1071 b (ne_in b35 hq_1069)
    have b37 : b ∈ L_1074 := by rw [hs_1073]; exact List.mem_append_left _ b35
    have e38 := (hk_1121 b b37 (ne_in b35 hq_1069)).2
    have b38 := (hk_1121 b b37 (ne_in b35 hq_1069)).1
    have e39 := hk_1192 b (ne_in b12 hq_220)
    have e40 := hk_1219 b (ne_in b38 hq_1217)
    have b40 : b ∈ L_1222 := by rw [hs_1221]; exact List.mem_append_left _ b38
    have e41 := (hk_1273 b b40 (ne_in b38 hq_1217)).2
    have b41 := (hk_1273 b b40 (ne_in b38 hq_1217)).1
    have e42 := hk_1350 b (ne_in b12 hq_220)
    have e43 := hk_1379 b (ne_in b41 hq_1377)
    have b43 : b ∈ L_1382 := by rw [hs_1381]; exact List.mem_append_left _ b41
    have e44 := (hk_1437 b b43 (ne_in b41 hq_1377)).2
    have b44 := (hk_1437 b b43 (ne_in b41 hq_1377)).1
    have e45 := hk_1520 b (ne_in b12 hq_220)
    exact ⟨b44, (e45.trans (e44.trans (e43.trans (e42.trans (e41.trans (e40.trans (e39.trans (e38.trans (e37.trans (e36.trans (e35.trans (e34.trans (e33.trans (e32.trans (e31.trans (e30.trans (e29.trans (e28.trans (e27.trans (e26.trans (e25.trans (e24.trans (e23.trans (e22.trans (e21.trans (e20.trans (e19.trans (e18.trans (e17.trans (e16.trans (e15.trans (e14.trans (e13.trans (e12.trans (e11.trans (e10.trans (e9.trans (e8.trans (e7.trans (e6.trans (e5.trans (e4.trans (e3.trans (e2.trans e1))))))))))))))))))))))))))))))))))))))))))))⟩
  have hp_1548 : ∀ i : Nat, i < 6 → ∃ q : Nat, (va_up (va_up (va_up (va_up (va_up (va_up (fun _ => none) 0 (some q_265)) 1 (some q_361)) 2 (some q_463)) 3 (some q_571)) 4 (some q_685)) 5 (some q_805)) i = some q ∧ (q ∈ L_1434 ∧ f_1518 q = ob 10 [.int 0, .int 0, .int 1, .int 1, .int 1, .int 0, .int 0]) := fun i hi => by
    rcases (show i = 0 ∨ i = 1 ∨ i = 2 ∨ i = 3 ∨ i = 4 ∨ i = 5 by omega) with rfl | rfl | rfl | rfl | rfl | rfl
    · exact ⟨q_265, rfl, hm_1482, hf_1533⟩
    · exact ⟨q_361, rfl, hm_1485, hf_1534⟩
    · exact ⟨q_463, rfl, hm_1488, hf_1535⟩
    · exact ⟨q_571, rfl, hm_1491, hf_1536⟩
    · exact ⟨q_685, rfl, hm_1494, hf_1537⟩
    · exact ⟨q_805, rfl, hm_1497, hf_1538⟩
  have hp_1549 : ∀ i : Nat, i < 4 → ∃ q s : Nat, (va_up (va_up (va_up (va_up (fun _ => none) 0 (some q_931)) 1 (some q_1067)) 2 (some q_1215)) 3 (some q_1375)) i = some q ∧ (q ∈ L_1434 ∧ f_1518 q = ob 1 [.ref s, .int 0]) ∧ (s ∈ L_1434 ∧ f_1518 s = aB E 256 (fun _ => 0)) := fun i hi => by
    rcases (show i = 0 ∨ i = 1 ∨ i = 2 ∨ i = 3 by omega) with rfl | rfl | rfl | rfl
    · exact ⟨q_931, q_982, rfl, ⟨hm_1500, hf_1539⟩, hm_1503, hf_1540⟩
    · exact ⟨q_1067, q_1122, rfl, ⟨hm_1506, hf_1541⟩, hm_1509, hf_1542⟩
    · exact ⟨q_1215, q_1274, rfl, ⟨hm_1512, hf_1543⟩, hm_1515, hf_1544⟩
    · exact ⟨q_1375, q_1438, rfl, ⟨hm_1439, hf_1545⟩, hm_1441, hf_1546⟩
  exact hR _ _ _ _ _ _ dX0_init_114 (Nat.le_of_ble_eq_true rfl) (Nat.le_of_ble_eq_true rfl) ⟨hkp_1547, q_1, q_16, q_17, q_33, q_56, q_82, q_107, q_140, q_169, q_170, q_171, q_218, (va_up (va_up (va_up (va_up (va_up (va_up (fun _ => none) 0 (some q_265)) 1 (some q_361)) 2 (some q_463)) 3 (some q_571)) 4 (some q_685)) 5 (some q_805)), (va_up (va_up (va_up (va_up (fun _ => none) 0 (some q_931)) 1 (some q_1067)) 2 (some q_1215)) 3 (some q_1375)), ⟨hm_1443, hf_1521⟩, ⟨hm_1446, hf_1522⟩, ⟨hm_1449, hf_1523⟩, ⟨hm_1452, hf_1524⟩, ⟨hm_1455, hf_1525⟩, ⟨hm_1458, hf_1526⟩, ⟨hm_1461, hf_1527⟩, ⟨hm_1464, hf_1528⟩, ⟨hm_1467, hf_1529⟩, ⟨hm_1470, hf_1530⟩, ⟨hm_1473, hf_1531⟩, ⟨hm_1476, hf_1532⟩, ⟨hm_1479, hf_1519⟩, hp_1548, hp_1549⟩
