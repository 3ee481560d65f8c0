set_option maxRecDepth 100000 in
set_option maxHeartbeats 4000000 in
theorem k_X11 {l : Launch} {E : Ez} {L : List Nat} {f : Nat → va_E} {h : Nat} (m_h : h ∈ L) (e_h : f h = ob 11 [.null, .null, .null, .null, .null, .null, .null, .null, .null, .null, .null, .null, .null, .null]) : CV l yX11_init cX11_init 2 3 65 5115 E [.ref h] L f (fun L1 f1 => (∀ b ∈ L, b ≠ h → b ∈ L1 ∧ f1 b = f b) ∧ FX E h L1 f1) := by
  refine cv_of (by decide) (Nat.le_of_ble_eq_true rfl) (fun z hz hnm hC hR => ?_)
  have hC : Cx z E cX11_init RX11 2 3 65 5115 := hC
  subst hz
  show V z E 2 0 0 L f 0 [(0, .ref h)] []
  refine v_aload_n hC dX11_init_0 rfl ?_
  refine v_objinit hC mo_X11_3 mo_i mo_c (by decide) dX11_init_1 ?_
  refine v_aload_n hC dX11_init_4 rfl ?_
  refine v_new hC (ci := 7) (fs := [.null, .int 0, .int 0, .int 0, .int 0, .int 0, .int 0]) rfl inX7 tyX7_ok kl_X11_9 in_X7 ii_X7 (fun j hj => by rcases (show j = 0 ∨ j = 1 ∨ j = 2 ∨ j = 3 ∨ j = 4 ∨ j = 5 ∨ j = 6 by omega) with rfl | rfl | rfl | rfl | rfl | rfl | rfl <;> rfl) (Nat.le_of_ble_eq_true rfl) (Nat.le_of_ble_eq_true rfl) dX11_init_5 (fun q_1 f_2 hq_3 hf_4 hk_5 => ?_)
  obtain ⟨L_8, hs_7⟩ : ∃ L9, L9 = L ++ [q_1] := ⟨_, rfl⟩
  rw [← hs_7]
  have hm_6 : q_1 ∈ L_8 := by rw [hs_7]; exact List.mem_append_right _ List.mem_cons_self
  have hm_10 : h ∈ L_8 := by rw [hs_7]; exact List.mem_append_left _ m_h
  have hf_9 := (hk_5 h (ne_in m_h hq_3)).trans e_h
  refine v_widen (k := 1) (n := 7) (Nat.le_of_ble_eq_true rfl) (Nat.le_of_ble_eq_true rfl) ?_
  refine v_dup hC dX11_init_8 rfl ?_
  refine v_xvN hC (rest := [.ref q_1, .ref h]) rfl mi_X7_init (k_X7 hm_6 hf_4) mx_X7_init mn_X11_11 (by decide) rfl (cells1 := 2) (slots1 := 607) (by decide) (by decide) (Nat.le_of_ble_eq_true rfl) (Nat.le_of_ble_eq_true rfl) rfl (Nat.le_of_ble_eq_true rfl) dX11_init_9 (fun L_12 f_13 h_14 => ?_)
  obtain ⟨hk_15, q_16, hm_17, hf_18, hm_19, hf_20⟩ := h_14
  have hx_23 := hk_15 h hm_10 (ne_in m_h hq_3)
  have hm_21 := hx_23.1
  have hf_22 := hx_23.2.trans hf_9
  refine v_putF hC (by rw [hnm]; rfl) fl_X11_12 hm_21 hf_22 rfl rfl (Nat.le_of_ble_eq_true rfl) (fs' := [.ref q_1, .null, .null, .null, .null, .null, .null, .null, .null, .null, .null, .null, .null, .null]) rfl dX11_init_12 (fun f_24 hf_25 hk_26 => ?_)
  have hf_27 := (hk_26 q_1 (ne_kd hf_18 hf_22 rfl)).trans hf_18
  have hf_28 := (hk_26 q_16 (ne_kd hf_20 hf_22 rfl)).trans hf_20
  refine v_aload_n hC dX11_init_15 rfl ?_
  refine v_new hC (ci := 0) (fs := [.null, .null, .null, .null, .null, .null]) rfl inX0 tyX0_ok kl_X11_16 in_X0 ii_X0 (fun j hj => by rcases (show j = 0 ∨ j = 1 ∨ j = 2 ∨ j = 3 ∨ j = 4 ∨ j = 5 by omega) with rfl | rfl | rfl | rfl | rfl | rfl <;> rfl) (Nat.le_of_ble_eq_true rfl) (Nat.le_of_ble_eq_true rfl) dX11_init_16 (fun q_29 f_30 hq_31 hf_32 hk_33 => ?_)
  obtain ⟨L_36, hs_35⟩ : ∃ L9, L9 = L_12 ++ [q_29] := ⟨_, rfl⟩
  rw [← hs_35]
  have hm_34 : q_29 ∈ L_36 := by rw [hs_35]; exact List.mem_append_right _ List.mem_cons_self
  have hm_38 : h ∈ L_36 := by rw [hs_35]; exact List.mem_append_left _ hm_21
  have hf_37 := (hk_33 h (ne_in hm_21 hq_31)).trans hf_25
  have hm_40 : q_1 ∈ L_36 := by rw [hs_35]; exact List.mem_append_left _ hm_17
  have hf_39 := (hk_33 q_1 (ne_in hm_17 hq_31)).trans hf_27
  have hm_42 : q_16 ∈ L_36 := by rw [hs_35]; exact List.mem_append_left _ hm_19
  have hf_41 := (hk_33 q_16 (ne_in hm_19 hq_31)).trans hf_28
  refine v_widen (k := 3) (n := 613) (Nat.le_of_ble_eq_true rfl) (Nat.le_of_ble_eq_true rfl) ?_
  refine v_dup hC dX11_init_19 rfl ?_
  refine v_xv hC (rest := [.ref q_29, .ref h]) rfl mi_X0_init (k_X0 hm_34 hf_32) mx_X0_init ml_X11_18 (by decide) rfl (cells1 := 29) (slots1 := 2560) (by decide) (by decide) (Nat.le_of_ble_eq_true rfl) (Nat.le_of_ble_eq_true rfl) rfl (Nat.le_of_ble_eq_true rfl) dX11_init_20 (fun L_44 f_45 h_46 => ?_)
  obtain ⟨hk_47, hB_48⟩ := h_46
  have hx_51 := hk_47 h hm_38 (ne_in hm_21 hq_31)
  have hm_49 := hx_51.1
  have hf_50 := hx_51.2.trans hf_37
  have hx_54 := hk_47 q_1 hm_40 (ne_in hm_17 hq_31)
  have hm_52 := hx_54.1
  have hf_53 := hx_54.2.trans hf_39
  have hx_57 := hk_47 q_16 hm_42 (ne_in hm_19 hq_31)
  have hm_55 := hx_57.1
  have hf_56 := hx_57.2.trans hf_41
  refine v_putF hC (by rw [hnm]; rfl) fl_X11_19 hm_49 hf_50 rfl rfl (Nat.le_of_ble_eq_true rfl) (fs' := [.ref q_1, .ref q_29, .null, .null, .null, .null, .null, .null, .null, .null, .null, .null, .null, .null]) rfl dX11_init_23 (fun f_58 hf_59 hk_60 => ?_)
  have hf_61 := (hk_60 q_1 (ne_kd hf_53 hf_50 rfl)).trans hf_53
  have hf_62 := (hk_60 q_16 (ne_kd hf_56 hf_50 rfl)).trans hf_56
  refine v_aload_n hC dX11_init_26 rfl ?_
  refine v_iconst hC dX11_init_27 (v := 3) (by decide) ?_
  refine v_newq hC (t := 4) (N' := 3) kl_X11_16 ao_X0 rfl (by decide) (by decide) (by decide) (Nat.le_of_ble_eq_true rfl) (Nat.le_of_ble_eq_true rfl) dX11_init_28 (fun q_63 f_64 hq_65 hf_66 hk_67 => ?_)
  obtain ⟨L_70, hs_69⟩ : ∃ L9, L9 = L_44 ++ [q_63] := ⟨_, rfl⟩
  rw [← hs_69]
  have hm_68 : q_63 ∈ L_70 := by rw [hs_69]; exact List.mem_append_right _ List.mem_cons_self
  have hm_72 : h ∈ L_70 := by rw [hs_69]; exact List.mem_append_left _ hm_49
  have hf_71 := (hk_67 h (ne_in hm_49 hq_65)).trans hf_59
  have hm_74 : q_1 ∈ L_70 := by rw [hs_69]; exact List.mem_append_left _ hm_52
  have hf_73 := (hk_67 q_1 (ne_in hm_52 hq_65)).trans hf_61
  have hm_76 : q_16 ∈ L_70 := by rw [hs_69]; exact List.mem_append_left _ hm_55
  have hf_75 := (hk_67 q_16 (ne_in hm_55 hq_65)).trans hf_62
  refine v_widen (k := 30) (n := 2563) (Nat.le_of_ble_eq_true rfl) (Nat.le_of_ble_eq_true rfl) ?_
  refine v_putF hC (by rw [hnm]; rfl) fl_X11_23 hm_72 hf_71 rfl rfl (Nat.le_of_ble_eq_true rfl) (fs' := [.ref q_1, .ref q_29, .ref q_63, .null, .null, .null, .null, .null, .null, .null, .null, .null, .null, .null]) rfl dX11_init_31 (fun f_77 hf_78 hk_79 => ?_)
  have hf_80 := (hk_79 q_1 (ne_kd hf_73 hf_71 rfl)).trans hf_73
  have hf_81 := (hk_79 q_16 (ne_kd hf_75 hf_71 rfl)).trans hf_75
  have hf_82 := (hk_79 q_63 (ne_kd hf_66 hf_71 rfl)).trans hf_66
  refine v_aload_n hC dX11_init_34 rfl ?_
  refine v_new hC (ci := 2) (fs := [.null, .int 0]) rfl inX2 tyX2_ok kl_X11_27 in_X2 ii_X2 (fun j hj => by rcases (show j = 0 ∨ j = 1 by omega) with rfl | rfl <;> rfl) (Nat.le_of_ble_eq_true rfl) (Nat.le_of_ble_eq_true rfl) dX11_init_35 (fun q_83 f_84 hq_85 hf_86 hk_87 => ?_)
  obtain ⟨L_90, hs_89⟩ : ∃ L9, L9 = L_70 ++ [q_83] := ⟨_, rfl⟩
  rw [← hs_89]
  have hm_88 : q_83 ∈ L_90 := by rw [hs_89]; exact List.mem_append_right _ List.mem_cons_self
  have hm_92 : h ∈ L_90 := by rw [hs_89]; exact List.mem_append_left _ hm_72
  have hf_91 := (hk_87 h (ne_in hm_72 hq_85)).trans hf_78
  have hm_94 : q_1 ∈ L_90 := by rw [hs_89]; exact List.mem_append_left _ hm_74
  have hf_93 := (hk_87 q_1 (ne_in hm_74 hq_85)).trans hf_80
  have hm_96 : q_16 ∈ L_90 := by rw [hs_89]; exact List.mem_append_left _ hm_76
  have hf_95 := (hk_87 q_16 (ne_in hm_76 hq_85)).trans hf_81
  have hm_98 : q_63 ∈ L_90 := by rw [hs_89]; exact List.mem_append_left _ hm_68
  have hf_97 := (hk_87 q_63 (ne_in hm_68 hq_85)).trans hf_82
  refine v_widen (k := 31) (n := 2565) (Nat.le_of_ble_eq_true rfl) (Nat.le_of_ble_eq_true rfl) ?_
  refine v_dup hC dX11_init_38 rfl ?_
  refine v_xvN hC (rest := [.ref q_83, .ref h]) rfl mi_X2_init (k_X2 hm_88 hf_86) mx_X2_init mn_X11_29 (by decide) rfl (cells1 := 32) (slots1 := 2616) (by decide) (by decide) (Nat.le_of_ble_eq_true rfl) (Nat.le_of_ble_eq_true rfl) rfl (Nat.le_of_ble_eq_true rfl) dX11_init_39 (fun L_100 f_101 h_102 => ?_)
  obtain ⟨hk_103, q_104, hm_105, hf_106, hm_107, hf_108⟩ := h_102
  have hx_111 := hk_103 h hm_92 (ne_in hm_72 hq_85)
  have hm_109 := hx_111.1
  have hf_110 := hx_111.2.trans hf_91
  have hx_114 := hk_103 q_1 hm_94 (ne_in hm_74 hq_85)
  have hm_112 := hx_114.1
  have hf_113 := hx_114.2.trans hf_93
  have hx_117 := hk_103 q_16 hm_96 (ne_in hm_76 hq_85)
  have hm_115 := hx_117.1
  have hf_116 := hx_117.2.trans hf_95
  have hx_120 := hk_103 q_63 hm_98 (ne_in hm_68 hq_85)
  have hm_118 := hx_120.1
  have hf_119 := hx_120.2.trans hf_97
  refine v_putF hC (by rw [hnm]; rfl) fl_X11_30 hm_109 hf_110 rfl rfl (Nat.le_of_ble_eq_true rfl) (fs' := [.ref q_1, .ref q_29, .ref q_63, .ref q_83, .null, .null, .null, .null, .null, .null, .null, .null, .null, .null]) rfl dX11_init_42 (fun f_121 hf_122 hk_123 => ?_)
  have hf_124 := (hk_123 q_1 (ne_kd hf_113 hf_110 rfl)).trans hf_113
  have hf_125 := (hk_123 q_16 (ne_kd hf_116 hf_110 rfl)).trans hf_116
  have hf_126 := (hk_123 q_63 (ne_kd hf_119 hf_110 rfl)).trans hf_119
  have hf_127 := (hk_123 q_83 (ne_kd hf_106 hf_110 rfl)).trans hf_106
  have hf_128 := (hk_123 q_104 (ne_kd hf_108 hf_110 rfl)).trans hf_108
  refine v_aload_n hC dX11_init_45 rfl ?_
  refine v_iconst hC dX11_init_46 (v := 4) (by decide) ?_
  refine v_newq hC (t := 6) (N' := 4) kl_X11_34 ao_X5 rfl (by decide) (by decide) (by decide) (Nat.le_of_ble_eq_true rfl) (Nat.le_of_ble_eq_true rfl) dX11_init_47 (fun q_129 f_130 hq_131 hf_132 hk_133 => ?_)
  obtain ⟨L_136, hs_135⟩ : ∃ L9, L9 = L_100 ++ [q_129] := ⟨_, rfl⟩
  rw [← hs_135]
  have hm_134 : q_129 ∈ L_136 := by rw [hs_135]; exact List.mem_append_right _ List.mem_cons_self
  have hm_138 : h ∈ L_136 := by rw [hs_135]; exact List.mem_append_left _ hm_109
  have hf_137 := (hk_133 h (ne_in hm_109 hq_131)).trans hf_122
  have hm_140 : q_1 ∈ L_136 := by rw [hs_135]; exact List.mem_append_left _ hm_112
  have hf_139 := (hk_133 q_1 (ne_in hm_112 hq_131)).trans hf_124
  have hm_142 : q_16 ∈ L_136 := by rw [hs_135]; exact List.mem_append_left _ hm_115
  have hf_141 := (hk_133 q_16 (ne_in hm_115 hq_131)).trans hf_125
  have hm_144 : q_63 ∈ L_136 := by rw [hs_135]; exact List.mem_append_left _ hm_118
  have hf_143 := (hk_133 q_63 (ne_in hm_118 hq_131)).trans hf_126
  have hm_146 : q_83 ∈ L_136 := by rw [hs_135]; exact List.mem_append_left _ hm_105
  have hf_145 := (hk_133 q_83 (ne_in hm_105 hq_131)).trans hf_127
  have hm_148 : q_104 ∈ L_136 := by rw [hs_135]; exact List.mem_append_left _ hm_107
  have hf_147 := (hk_133 q_104 (ne_in hm_107 hq_131)).trans hf_128
  refine v_widen (k := 33) (n := 2620) (Nat.le_of_ble_eq_true rfl) (Nat.le_of_ble_eq_true rfl) ?_
  refine v_putF hC (by rw [hnm]; rfl) fl_X11_36 hm_138 hf_137 rfl rfl (Nat.le_of_ble_eq_true rfl) (fs' := [.ref q_1, .ref q_29, .ref q_63, .ref q_83, .ref q_129, .null, .null, .null, .null, .null, .null, .null, .null, .null]) rfl dX11_init_50 (fun f_149 hf_150 hk_151 => ?_)
  have hf_152 := (hk_151 q_1 (ne_kd hf_139 hf_137 rfl)).trans hf_139
  have hf_153 := (hk_151 q_16 (ne_kd hf_141 hf_137 rfl)).trans hf_141
  have hf_154 := (hk_151 q_63 (ne_kd hf_143 hf_137 rfl)).trans hf_143
  have hf_155 := (hk_151 q_83 (ne_kd hf_145 hf_137 rfl)).trans hf_145
  have hf_156 := (hk_151 q_104 (ne_kd hf_147 hf_137 rfl)).trans hf_147
  have hf_157 := (hk_151 q_129 (ne_kd hf_132 hf_137 rfl)).trans hf_132
  refine v_aload_n hC dX11_init_53 rfl ?_
  refine v_new hC (ci := 4) (fs := [.null, .null, .int 0, .int 0, .int 0]) rfl inX4 tyX4_ok kl_X11_40 in_X4 ii_X4 (fun j hj => by rcases (show j = 0 ∨ j = 1 ∨ j = 2 ∨ j = 3 ∨ j = 4 by omega) with rfl | rfl | rfl | rfl | rfl <;> rfl) (Nat.le_of_ble_eq_true rfl) (Nat.le_of_ble_eq_true rfl) dX11_init_54 (fun q_158 f_159 hq_160 hf_161 hk_162 => ?_)
  obtain ⟨L_165, hs_164⟩ : ∃ L9, L9 = L_136 ++ [q_158] := ⟨_, rfl⟩
  rw [← hs_164]
  have hm_163 : q_158 ∈ L_165 := by rw [hs_164]; exact List.mem_append_right _ List.mem_cons_self
  have hm_167 : h ∈ L_165 := by rw [hs_164]; exact List.mem_append_left _ hm_138
  have hf_166 := (hk_162 h (ne_in hm_138 hq_160)).trans hf_150
  have hm_169 : q_1 ∈ L_165 := by rw [hs_164]; exact List.mem_append_left _ hm_140
  have hf_168 := (hk_162 q_1 (ne_in hm_140 hq_160)).trans hf_152
  have hm_171 : q_16 ∈ L_165 := by rw [hs_164]; exact List.mem_append_left _ hm_142
  have hf_170 := (hk_162 q_16 (ne_in hm_142 hq_160)).trans hf_153
  have hm_173 : q_63 ∈ L_165 := by rw [hs_164]; exact List.mem_append_left _ hm_144
  have hf_172 := (hk_162 q_63 (ne_in hm_144 hq_160)).trans hf_154
  have hm_175 : q_83 ∈ L_165 := by rw [hs_164]; exact List.mem_append_left _ hm_146
  have hf_174 := (hk_162 q_83 (ne_in hm_146 hq_160)).trans hf_155
  have hm_177 : q_104 ∈ L_165 := by rw [hs_164]; exact List.mem_append_left _ hm_148
  have hf_176 := (hk_162 q_104 (ne_in hm_148 hq_160)).trans hf_156
  have hm_179 : q_129 ∈ L_165 := by rw [hs_164]; exact List.mem_append_left _ hm_134
  have hf_178 := (hk_162 q_129 (ne_in hm_134 hq_160)).trans hf_157
  refine v_widen (k := 34) (n := 2625) (Nat.le_of_ble_eq_true rfl) (Nat.le_of_ble_eq_true rfl) ?_
  refine v_dup hC dX11_init_57 rfl ?_
  refine v_xvN hC (rest := [.ref q_158, .ref h]) rfl mi_X4_init (k_X4 hm_163 hf_161) mx_X4_init mn_X11_42 (by decide) rfl (cells1 := 36) (slots1 := 3137) (by decide) (by decide) (Nat.le_of_ble_eq_true rfl) (Nat.le_of_ble_eq_true rfl) rfl (Nat.le_of_ble_eq_true rfl) dX11_init_58 (fun L_181 f_182 h_183 => ?_)
  obtain ⟨hk_184, q_185, q_186, hm_187, hf_188, hm_189, hf_190, hm_191, hf_192⟩ := h_183
  have hx_195 := hk_184 h hm_167 (ne_in hm_138 hq_160)
  have hm_193 := hx_195.1
  have hf_194 := hx_195.2.trans hf_166
  have hx_198 := hk_184 q_1 hm_169 (ne_in hm_140 hq_160)
  have hm_196 := hx_198.1
  have hf_197 := hx_198.2.trans hf_168
  have hx_201 := hk_184 q_16 hm_171 (ne_in hm_142 hq_160)
  have hm_199 := hx_201.1
  have hf_200 := hx_201.2.trans hf_170
  have hx_204 := hk_184 q_63 hm_173 (ne_in hm_144 hq_160)
  have hm_202 := hx_204.1
  have hf_203 := hx_204.2.trans hf_172
  have hx_207 := hk_184 q_83 hm_175 (ne_in hm_146 hq_160)
  have hm_205 := hx_207.1
  have hf_206 := hx_207.2.trans hf_174
  have hx_210 := hk_184 q_104 hm_177 (ne_in hm_148 hq_160)
  have hm_208 := hx_210.1
  have hf_209 := hx_210.2.trans hf_176
  have hx_213 := hk_184 q_129 hm_179 (ne_in hm_134 hq_160)
  have hm_211 := hx_213.1
  have hf_212 := hx_213.2.trans hf_178
  refine v_putF hC (by rw [hnm]; rfl) fl_X11_43 hm_193 hf_194 rfl rfl (Nat.le_of_ble_eq_true rfl) (fs' := [.ref q_1, .ref q_29, .ref q_63, .ref q_83, .ref q_129, .ref q_158, .null, .null, .null, .null, .null, .null, .null, .null]) rfl dX11_init_61 (fun f_214 hf_215 hk_216 => ?_)
  have hf_217 := (hk_216 q_1 (ne_kd hf_197 hf_194 rfl)).trans hf_197
  have hf_218 := (hk_216 q_16 (ne_kd hf_200 hf_194 rfl)).trans hf_200
  have hf_219 := (hk_216 q_63 (ne_kd hf_203 hf_194 rfl)).trans hf_203
  have hf_220 := (hk_216 q_83 (ne_kd hf_206 hf_194 rfl)).trans hf_206
  have hf_221 := (hk_216 q_104 (ne_kd hf_209 hf_194 rfl)).trans hf_209
  have hf_222 := (hk_216 q_129 (ne_kd hf_212 hf_194 rfl)).trans hf_212
  have hf_223 := (hk_216 q_158 (ne_kd hf_188 hf_194 rfl)).trans hf_188
  have hf_224 := (hk_216 q_185 (ne_kd hf_190 hf_194 rfl)).trans hf_190
  have hf_225 := (hk_216 q_186 (ne_kd hf_192 hf_194 rfl)).trans hf_192
  refine v_aload_n hC dX11_init_64 rfl ?_
  refine v_iconst hC dX11_init_65 (v := 3) (by decide) ?_
  refine v_newaG hC (t := 1) (ty := .int) (N' := 3) (a0 := (3, .inl (fun _ => 0))) rfl ac_int rfl (fun _ => rfl) (by decide) (by decide) (by decide) (Nat.le_of_ble_eq_true rfl) (Nat.le_of_ble_eq_true rfl) dX11_init_66 (fun q_226 f_227 hq_228 hf_229 hk_230 => ?_)
  obtain ⟨L_233, hs_232⟩ : ∃ L9, L9 = L_181 ++ [q_226] := ⟨_, rfl⟩
  rw [← hs_232]
  have hm_231 : q_226 ∈ L_233 := by rw [hs_232]; exact List.mem_append_right _ List.mem_cons_self
  have hm_235 : h ∈ L_233 := by rw [hs_232]; exact List.mem_append_left _ hm_193
  have hf_234 := (hk_230 h (ne_in hm_193 hq_228)).trans hf_215
  have hm_237 : q_1 ∈ L_233 := by rw [hs_232]; exact List.mem_append_left _ hm_196
  have hf_236 := (hk_230 q_1 (ne_in hm_196 hq_228)).trans hf_217
  have hm_239 : q_16 ∈ L_233 := by rw [hs_232]; exact List.mem_append_left _ hm_199
  have hf_238 := (hk_230 q_16 (ne_in hm_199 hq_228)).trans hf_218
  have hm_241 : q_63 ∈ L_233 := by rw [hs_232]; exact List.mem_append_left _ hm_202
  have hf_240 := (hk_230 q_63 (ne_in hm_202 hq_228)).trans hf_219
  have hm_243 : q_83 ∈ L_233 := by rw [hs_232]; exact List.mem_append_left _ hm_205
  have hf_242 := (hk_230 q_83 (ne_in hm_205 hq_228)).trans hf_220
  have hm_245 : q_104 ∈ L_233 := by rw [hs_232]; exact List.mem_append_left _ hm_208
  have hf_244 := (hk_230 q_104 (ne_in hm_208 hq_228)).trans hf_221
  have hm_247 : q_129 ∈ L_233 := by rw [hs_232]; exact List.mem_append_left _ hm_211
  have hf_246 := (hk_230 q_129 (ne_in hm_211 hq_228)).trans hf_222
  have hm_249 : q_158 ∈ L_233 := by rw [hs_232]; exact List.mem_append_left _ hm_187
  have hf_248 := (hk_230 q_158 (ne_in hm_187 hq_228)).trans hf_223
  have hm_251 : q_185 ∈ L_233 := by rw [hs_232]; exact List.mem_append_left _ hm_189
  have hf_250 := (hk_230 q_185 (ne_in hm_189 hq_228)).trans hf_224
  have hm_253 : q_186 ∈ L_233 := by rw [hs_232]; exact List.mem_append_left _ hm_191
  have hf_252 := (hk_230 q_186 (ne_in hm_191 hq_228)).trans hf_225
  refine v_widen (k := 37) (n := 3140) (Nat.le_of_ble_eq_true rfl) (Nat.le_of_ble_eq_true rfl) ?_
  refine v_putF hC (by rw [hnm]; rfl) fl_X11_47 hm_235 hf_234 rfl rfl (Nat.le_of_ble_eq_true rfl) (fs' := [.ref q_1, .ref q_29, .ref q_63, .ref q_83, .ref q_129, .ref q_158, .ref q_226, .null, .null, .null, .null, .null, .null, .null]) rfl dX11_init_68 (fun f_254 hf_255 hk_256 => ?_)
  have hf_257 := (hk_256 q_1 (ne_kd hf_236 hf_234 rfl)).trans hf_236
  have hf_258 := (hk_256 q_16 (ne_kd hf_238 hf_234 rfl)).trans hf_238
  have hf_259 := (hk_256 q_63 (ne_kd hf_240 hf_234 rfl)).trans hf_240
  have hf_260 := (hk_256 q_83 (ne_kd hf_242 hf_234 rfl)).trans hf_242
  have hf_261 := (hk_256 q_104 (ne_kd hf_244 hf_234 rfl)).trans hf_244
  have hf_262 := (hk_256 q_129 (ne_kd hf_246 hf_234 rfl)).trans hf_246
  have hf_263 := (hk_256 q_158 (ne_kd hf_248 hf_234 rfl)).trans hf_248
  have hf_264 := (hk_256 q_185 (ne_kd hf_250 hf_234 rfl)).trans hf_250
  have hf_265 := (hk_256 q_186 (ne_kd hf_252 hf_234 rfl)).trans hf_252
  have hf_266 := (hk_256 q_226 (ne_kd hf_229 hf_234 rfl)).trans hf_229
  refine v_aload_n hC dX11_init_71 rfl ?_
  refine v_new hC (ci := 10) (fs := [.int 0, .int 0, .int 0, .int 0, .int 0, .int 0, .int 0]) rfl inX10 tyX10_ok kl_X11_51 in_X10 ii_X10 (fun j hj => by rcases (show j = 0 ∨ j = 1 ∨ j = 2 ∨ j = 3 ∨ j = 4 ∨ j = 5 ∨ j = 6 by omega) with rfl | rfl | rfl | rfl | rfl | rfl | rfl <;> rfl) (Nat.le_of_ble_eq_true rfl) (Nat.le_of_ble_eq_true rfl) dX11_init_72 (fun q_267 f_268 hq_269 hf_270 hk_271 => ?_)
  obtain ⟨L_274, hs_273⟩ : ∃ L9, L9 = L_233 ++ [q_267] := ⟨_, rfl⟩
  rw [← hs_273]
  have hm_272 : q_267 ∈ L_274 := by rw [hs_273]; exact List.mem_append_right _ List.mem_cons_self
  have hm_276 : h ∈ L_274 := by rw [hs_273]; exact List.mem_append_left _ hm_235
  have hf_275 := (hk_271 h (ne_in hm_235 hq_269)).trans hf_255
  have hm_278 : q_1 ∈ L_274 := by rw [hs_273]; exact List.mem_append_left _ hm_237
  have hf_277 := (hk_271 q_1 (ne_in hm_237 hq_269)).trans hf_257
  have hm_280 : q_16 ∈ L_274 := by rw [hs_273]; exact List.mem_append_left _ hm_239
  have hf_279 := (hk_271 q_16 (ne_in hm_239 hq_269)).trans hf_258
  have hm_282 : q_63 ∈ L_274 := by rw [hs_273]; exact List.mem_append_left _ hm_241
  have hf_281 := (hk_271 q_63 (ne_in hm_241 hq_269)).trans hf_259
  have hm_284 : q_83 ∈ L_274 := by rw [hs_273]; exact List.mem_append_left _ hm_243
  have hf_283 := (hk_271 q_83 (ne_in hm_243 hq_269)).trans hf_260
  have hm_286 : q_104 ∈ L_274 := by rw [hs_273]; exact List.mem_append_left _ hm_245
  have hf_285 := (hk_271 q_104 (ne_in hm_245 hq_269)).trans hf_261
  have hm_288 : q_129 ∈ L_274 := by rw [hs_273]; exact List.mem_append_left _ hm_247
  have hf_287 := (hk_271 q_129 (ne_in hm_247 hq_269)).trans hf_262
  have hm_290 : q_158 ∈ L_274 := by rw [hs_273]; exact List.mem_append_left _ hm_249
  have hf_289 := (hk_271 q_158 (ne_in hm_249 hq_269)).trans hf_263
  have hm_292 : q_185 ∈ L_274 := by rw [hs_273]; exact List.mem_append_left _ hm_251
  have hf_291 := (hk_271 q_185 (ne_in hm_251 hq_269)).trans hf_264
  have hm_294 : q_186 ∈ L_274 := by rw [hs_273]; exact List.mem_append_left _ hm_253
  have hf_293 := (hk_271 q_186 (ne_in hm_253 hq_269)).trans hf_265
  have hm_296 : q_226 ∈ L_274 := by rw [hs_273]; exact List.mem_append_left _ hm_231
  have hf_295 := (hk_271 q_226 (ne_in hm_231 hq_269)).trans hf_266
  refine v_widen (k := 38) (n := 3147) (Nat.le_of_ble_eq_true rfl) (Nat.le_of_ble_eq_true rfl) ?_
  refine v_dup hC dX11_init_75 rfl ?_
  refine v_xvN hC (rest := [.ref q_267, .ref h]) rfl mi_X10_init (k_X10 hm_272 hf_270) mx_X10_init mn_X11_53 (by decide) rfl (cells1 := 38) (slots1 := 3147) (by decide) (by decide) (Nat.le_of_ble_eq_true rfl) (Nat.le_of_ble_eq_true rfl) rfl (Nat.le_of_ble_eq_true rfl) dX11_init_76 (fun L_298 f_299 h_300 => ?_)
  obtain ⟨hk_301, hm_302, hf_303⟩ := h_300
  have hx_306 := hk_301 h hm_276 (ne_in hm_235 hq_269)
  have hm_304 := hx_306.1
  have hf_305 := hx_306.2.trans hf_275
  have hx_309 := hk_301 q_1 hm_278 (ne_in hm_237 hq_269)
  have hm_307 := hx_309.1
  have hf_308 := hx_309.2.trans hf_277
  have hx_312 := hk_301 q_16 hm_280 (ne_in hm_239 hq_269)
  have hm_310 := hx_312.1
  have hf_311 := hx_312.2.trans hf_279
  have hx_315 := hk_301 q_63 hm_282 (ne_in hm_241 hq_269)
  have hm_313 := hx_315.1
  have hf_314 := hx_315.2.trans hf_281
  have hx_318 := hk_301 q_83 hm_284 (ne_in hm_243 hq_269)
  have hm_316 := hx_318.1
  have hf_317 := hx_318.2.trans hf_283
  have hx_321 := hk_301 q_104 hm_286 (ne_in hm_245 hq_269)
  have hm_319 := hx_321.1
  have hf_320 := hx_321.2.trans hf_285
  have hx_324 := hk_301 q_129 hm_288 (ne_in hm_247 hq_269)
  have hm_322 := hx_324.1
  have hf_323 := hx_324.2.trans hf_287
  have hx_327 := hk_301 q_158 hm_290 (ne_in hm_249 hq_269)
  have hm_325 := hx_327.1
  have hf_326 := hx_327.2.trans hf_289
  have hx_330 := hk_301 q_185 hm_292 (ne_in hm_251 hq_269)
  have hm_328 := hx_330.1
  have hf_329 := hx_330.2.trans hf_291
  have hx_333 := hk_301 q_186 hm_294 (ne_in hm_253 hq_269)
  have hm_331 := hx_333.1
  have hf_332 := hx_333.2.trans hf_293
  have hx_336 := hk_301 q_226 hm_296 (ne_in hm_231 hq_269)
  have hm_334 := hx_336.1
  have hf_335 := hx_336.2.trans hf_295
  refine v_putF hC (by rw [hnm]; rfl) fl_X11_54 hm_304 hf_305 rfl rfl (Nat.le_of_ble_eq_true rfl) (fs' := [.ref q_1, .ref q_29, .ref q_63, .ref q_83, .ref q_129, .ref q_158, .ref q_226, .ref q_267, .null, .null, .null, .null, .null, .null]) rfl dX11_init_79 (fun f_337 hf_338 hk_339 => ?_)
  have hf_340 := (hk_339 q_1 (ne_kd hf_308 hf_305 rfl)).trans hf_308
  have hf_341 := (hk_339 q_16 (ne_kd hf_311 hf_305 rfl)).trans hf_311
  have hf_342 := (hk_339 q_63 (ne_kd hf_314 hf_305 rfl)).trans hf_314
  have hf_343 := (hk_339 q_83 (ne_kd hf_317 hf_305 rfl)).trans hf_317
  have hf_344 := (hk_339 q_104 (ne_kd hf_320 hf_305 rfl)).trans hf_320
  have hf_345 := (hk_339 q_129 (ne_kd hf_323 hf_305 rfl)).trans hf_323
  have hf_346 := (hk_339 q_158 (ne_kd hf_326 hf_305 rfl)).trans hf_326
  have hf_347 := (hk_339 q_185 (ne_kd hf_329 hf_305 rfl)).trans hf_329
  have hf_348 := (hk_339 q_186 (ne_kd hf_332 hf_305 rfl)).trans hf_332
  have hf_349 := (hk_339 q_226 (ne_kd hf_335 hf_305 rfl)).trans hf_335
  have hf_350 := (hk_339 q_267 (ne_kd hf_303 hf_305 rfl)).trans hf_303
  refine v_aload_n hC dX11_init_82 rfl ?_
  refine v_new hC (ci := 9) (fs := [.null, .int 0, .int 0]) rfl inX9 tyX9_ok kl_X11_58 in_X9 ii_X9 (fun j hj => by rcases (show j = 0 ∨ j = 1 ∨ j = 2 by omega) with rfl | rfl | rfl <;> rfl) (Nat.le_of_ble_eq_true rfl) (Nat.le_of_ble_eq_true rfl) dX11_init_83 (fun q_351 f_352 hq_353 hf_354 hk_355 => ?_)
  obtain ⟨L_358, hs_357⟩ : ∃ L9, L9 = L_298 ++ [q_351] := ⟨_, rfl⟩
  rw [← hs_357]
  have hm_356 : q_351 ∈ L_358 := by rw [hs_357]; exact List.mem_append_right _ List.mem_cons_self
  have hm_360 : h ∈ L_358 := by rw [hs_357]; exact List.mem_append_left _ hm_304
  have hf_359 := (hk_355 h (ne_in hm_304 hq_353)).trans hf_338
  have hm_362 : q_1 ∈ L_358 := by rw [hs_357]; exact List.mem_append_left _ hm_307
  have hf_361 := (hk_355 q_1 (ne_in hm_307 hq_353)).trans hf_340
  have hm_364 : q_16 ∈ L_358 := by rw [hs_357]; exact List.mem_append_left _ hm_310
  have hf_363 := (hk_355 q_16 (ne_in hm_310 hq_353)).trans hf_341
  have hm_366 : q_63 ∈ L_358 := by rw [hs_357]; exact List.mem_append_left _ hm_313
  have hf_365 := (hk_355 q_63 (ne_in hm_313 hq_353)).trans hf_342
  have hm_368 : q_83 ∈ L_358 := by rw [hs_357]; exact List.mem_append_left _ hm_316
  have hf_367 := (hk_355 q_83 (ne_in hm_316 hq_353)).trans hf_343
  have hm_370 : q_104 ∈ L_358 := by rw [hs_357]; exact List.mem_append_left _ hm_319
  have hf_369 := (hk_355 q_104 (ne_in hm_319 hq_353)).trans hf_344
  have hm_372 : q_129 ∈ L_358 := by rw [hs_357]; exact List.mem_append_left _ hm_322
  have hf_371 := (hk_355 q_129 (ne_in hm_322 hq_353)).trans hf_345
  have hm_374 : q_158 ∈ L_358 := by rw [hs_357]; exact List.mem_append_left _ hm_325
  have hf_373 := (hk_355 q_158 (ne_in hm_325 hq_353)).trans hf_346
  have hm_376 : q_185 ∈ L_358 := by rw [hs_357]; exact List.mem_append_left _ hm_328
  have hf_375 := (hk_355 q_185 (ne_in hm_328 hq_353)).trans hf_347
  have hm_378 : q_186 ∈ L_358 := by rw [hs_357]; exact List.mem_append_left _ hm_331
  have hf_377 := (hk_355 q_186 (ne_in hm_331 hq_353)).trans hf_348
  have hm_380 : q_226 ∈ L_358 := by rw [hs_357]; exact List.mem_append_left _ hm_334
  have hf_379 := (hk_355 q_226 (ne_in hm_334 hq_353)).trans hf_349
  have hm_382 : q_267 ∈ L_358 := by rw [hs_357]; exact List.mem_append_left _ hm_302
  have hf_381 := (hk_355 q_267 (ne_in hm_302 hq_353)).trans hf_350
  refine v_widen (k := 39) (n := 3150) (Nat.le_of_ble_eq_true rfl) (Nat.le_of_ble_eq_true rfl) ?_
  refine v_dup hC dX11_init_86 rfl ?_
  refine v_xvN hC (rest := [.ref q_351, .ref h]) rfl mi_X9_init (k_X9 hm_356 hf_354) mx_X9_init mn_X11_60 (by decide) rfl (cells1 := 40) (slots1 := 3450) (by decide) (by decide) (Nat.le_of_ble_eq_true rfl) (Nat.le_of_ble_eq_true rfl) rfl (Nat.le_of_ble_eq_true rfl) dX11_init_87 (fun L_384 f_385 h_386 => ?_)
  obtain ⟨hk_387, q_388, hm_389, hf_390, hm_391, hf_392⟩ := h_386
  have hx_395 := hk_387 h hm_360 (ne_in hm_304 hq_353)
  have hm_393 := hx_395.1
  have hf_394 := hx_395.2.trans hf_359
  have hx_398 := hk_387 q_1 hm_362 (ne_in hm_307 hq_353)
  have hm_396 := hx_398.1
  have hf_397 := hx_398.2.trans hf_361
  have hx_401 := hk_387 q_16 hm_364 (ne_in hm_310 hq_353)
  have hm_399 := hx_401.1
  have hf_400 := hx_401.2.trans hf_363
  have hx_404 := hk_387 q_63 hm_366 (ne_in hm_313 hq_353)
  have hm_402 := hx_404.1
  have hf_403 := hx_404.2.trans hf_365
  have hx_407 := hk_387 q_83 hm_368 (ne_in hm_316 hq_353)
  have hm_405 := hx_407.1
  have hf_406 := hx_407.2.trans hf_367
  have hx_410 := hk_387 q_104 hm_370 (ne_in hm_319 hq_353)
  have hm_408 := hx_410.1
  have hf_409 := hx_410.2.trans hf_369
  have hx_413 := hk_387 q_129 hm_372 (ne_in hm_322 hq_353)
  have hm_411 := hx_413.1
  have hf_412 := hx_413.2.trans hf_371
  have hx_416 := hk_387 q_158 hm_374 (ne_in hm_325 hq_353)
  have hm_414 := hx_416.1
  have hf_415 := hx_416.2.trans hf_373
  have hx_419 := hk_387 q_185 hm_376 (ne_in hm_328 hq_353)
  have hm_417 := hx_419.1
  have hf_418 := hx_419.2.trans hf_375
  have hx_422 := hk_387 q_186 hm_378 (ne_in hm_331 hq_353)
  have hm_420 := hx_422.1
  have hf_421 := hx_422.2.trans hf_377
  have hx_425 := hk_387 q_226 hm_380 (ne_in hm_334 hq_353)
  have hm_423 := hx_425.1
  have hf_424 := hx_425.2.trans hf_379
  have hx_428 := hk_387 q_267 hm_382 (ne_in hm_302 hq_353)
  have hm_426 := hx_428.1
  have hf_427 := hx_428.2.trans hf_381
  refine v_putF hC (by rw [hnm]; rfl) fl_X11_61 hm_393 hf_394 rfl rfl (Nat.le_of_ble_eq_true rfl) (fs' := [.ref q_1, .ref q_29, .ref q_63, .ref q_83, .ref q_129, .ref q_158, .ref q_226, .ref q_267, .ref q_351, .null, .null, .null, .null, .null]) rfl dX11_init_90 (fun f_429 hf_430 hk_431 => ?_)
  have hf_432 := (hk_431 q_1 (ne_kd hf_397 hf_394 rfl)).trans hf_397
  have hf_433 := (hk_431 q_16 (ne_kd hf_400 hf_394 rfl)).trans hf_400
  have hf_434 := (hk_431 q_63 (ne_kd hf_403 hf_394 rfl)).trans hf_403
  have hf_435 := (hk_431 q_83 (ne_kd hf_406 hf_394 rfl)).trans hf_406
  have hf_436 := (hk_431 q_104 (ne_kd hf_409 hf_394 rfl)).trans hf_409
  have hf_437 := (hk_431 q_129 (ne_kd hf_412 hf_394 rfl)).trans hf_412
  have hf_438 := (hk_431 q_158 (ne_kd hf_415 hf_394 rfl)).trans hf_415
  have hf_439 := (hk_431 q_185 (ne_kd hf_418 hf_394 rfl)).trans hf_418
  have hf_440 := (hk_431 q_186 (ne_kd hf_421 hf_394 rfl)).trans hf_421
  have hf_441 := (hk_431 q_226 (ne_kd hf_424 hf_394 rfl)).trans hf_424
  have hf_442 := (hk_431 q_267 (ne_kd hf_427 hf_394 rfl)).trans hf_427
  have hf_443 := (hk_431 q_351 (ne_kd hf_390 hf_394 rfl)).trans hf_390
  have hf_444 := (hk_431 q_388 (ne_kd hf_392 hf_394 rfl)).trans hf_392
  refine v_aload_n hC dX11_init_93 rfl ?_
  refine v_new hC (ci := 3) (fs := [.null, .null, .null, .int 0]) rfl inX3 tyX3_ok kl_X11_65 in_X3 ii_X3 (fun j hj => by rcases (show j = 0 ∨ j = 1 ∨ j = 2 ∨ j = 3 by omega) with rfl | rfl | rfl | rfl <;> rfl) (Nat.le_of_ble_eq_true rfl) (Nat.le_of_ble_eq_true rfl) dX11_init_94 (fun q_445 f_446 hq_447 hf_448 hk_449 => ?_)
  obtain ⟨L_452, hs_451⟩ : ∃ L9, L9 = L_384 ++ [q_445] := ⟨_, rfl⟩
  rw [← hs_451]
  have hm_450 : q_445 ∈ L_452 := by rw [hs_451]; exact List.mem_append_right _ List.mem_cons_self
  have hm_454 : h ∈ L_452 := by rw [hs_451]; exact List.mem_append_left _ hm_393
  have hf_453 := (hk_449 h (ne_in hm_393 hq_447)).trans hf_430
  have hm_456 : q_1 ∈ L_452 := by rw [hs_451]; exact List.mem_append_left _ hm_396
  have hf_455 := (hk_449 q_1 (ne_in hm_396 hq_447)).trans hf_432
  have hm_458 : q_16 ∈ L_452 := by rw [hs_451]; exact List.mem_append_left _ hm_399
  have hf_457 := (hk_449 q_16 (ne_in hm_399 hq_447)).trans hf_433
  have hm_460 : q_63 ∈ L_452 := by rw [hs_451]; exact List.mem_append_left _ hm_402
  have hf_459 := (hk_449 q_63 (ne_in hm_402 hq_447)).trans hf_434
  have hm_462 : q_83 ∈ L_452 := by rw [hs_451]; exact List.mem_append_left _ hm_405
  have hf_461 := (hk_449 q_83 (ne_in hm_405 hq_447)).trans hf_435
  have hm_464 : q_104 ∈ L_452 := by rw [hs_451]; exact List.mem_append_left _ hm_408
  have hf_463 := (hk_449 q_104 (ne_in hm_408 hq_447)).trans hf_436
  have hm_466 : q_129 ∈ L_452 := by rw [hs_451]; exact List.mem_append_left _ hm_411
  have hf_465 := (hk_449 q_129 (ne_in hm_411 hq_447)).trans hf_437
  have hm_468 : q_158 ∈ L_452 := by rw [hs_451]; exact List.mem_append_left _ hm_414
  have hf_467 := (hk_449 q_158 (ne_in hm_414 hq_447)).trans hf_438
  have hm_470 : q_185 ∈ L_452 := by rw [hs_451]; exact List.mem_append_left _ hm_417
  have hf_469 := (hk_449 q_185 (ne_in hm_417 hq_447)).trans hf_439
  have hm_472 : q_186 ∈ L_452 := by rw [hs_451]; exact List.mem_append_left _ hm_420
  have hf_471 := (hk_449 q_186 (ne_in hm_420 hq_447)).trans hf_440
  have hm_474 : q_226 ∈ L_452 := by rw [hs_451]; exact List.mem_append_left _ hm_423
  have hf_473 := (hk_449 q_226 (ne_in hm_423 hq_447)).trans hf_441
  have hm_476 : q_267 ∈ L_452 := by rw [hs_451]; exact List.mem_append_left _ hm_426
  have hf_475 := (hk_449 q_267 (ne_in hm_426 hq_447)).trans hf_442
  have hm_478 : q_351 ∈ L_452 := by rw [hs_451]; exact List.mem_append_left _ hm_389
  have hf_477 := (hk_449 q_351 (ne_in hm_389 hq_447)).trans hf_443
  have hm_480 : q_388 ∈ L_452 := by rw [hs_451]; exact List.mem_append_left _ hm_391
  have hf_479 := (hk_449 q_388 (ne_in hm_391 hq_447)).trans hf_444
  refine v_widen (k := 41) (n := 3454) (Nat.le_of_ble_eq_true rfl) (Nat.le_of_ble_eq_true rfl) ?_
  refine v_dup hC dX11_init_97 rfl ?_
  refine v_xvN hC (rest := [.ref q_445, .ref h]) rfl mi_X3_init (k_X3 hm_450 hf_448) mx_X3_init mn_X11_67 (by decide) rfl (cells1 := 44) (slots1 := 3490) (by decide) (by decide) (Nat.le_of_ble_eq_true rfl) (Nat.le_of_ble_eq_true rfl) rfl (Nat.le_of_ble_eq_true rfl) dX11_init_98 (fun L_482 f_483 h_484 => ?_)
  obtain ⟨hk_485, q_486, q_487, q_488, hm_489, hf_490, hm_491, hf_492, hm_493, hf_494, hm_495, hf_496⟩ := h_484
  have hx_499 := hk_485 h hm_454 (ne_in hm_393 hq_447)
  have hm_497 := hx_499.1
  have hf_498 := hx_499.2.trans hf_453
  have hx_502 := hk_485 q_1 hm_456 (ne_in hm_396 hq_447)
  have hm_500 := hx_502.1
  have hf_501 := hx_502.2.trans hf_455
  have hx_505 := hk_485 q_16 hm_458 (ne_in hm_399 hq_447)
  have hm_503 := hx_505.1
  have hf_504 := hx_505.2.trans hf_457
  have hx_508 := hk_485 q_63 hm_460 (ne_in hm_402 hq_447)
  have hm_506 := hx_508.1
  have hf_507 := hx_508.2.trans hf_459
  have hx_511 := hk_485 q_83 hm_462 (ne_in hm_405 hq_447)
  have hm_509 := hx_511.1
  have hf_510 := hx_511.2.trans hf_461
  have hx_514 := hk_485 q_104 hm_464 (ne_in hm_408 hq_447)
  have hm_512 := hx_514.1
  have hf_513 := hx_514.2.trans hf_463
  have hx_517 := hk_485 q_129 hm_466 (ne_in hm_411 hq_447)
  have hm_515 := hx_517.1
  have hf_516 := hx_517.2.trans hf_465
  have hx_520 := hk_485 q_158 hm_468 (ne_in hm_414 hq_447)
  have hm_518 := hx_520.1
  have hf_519 := hx_520.2.trans hf_467
  have hx_523 := hk_485 q_185 hm_470 (ne_in hm_417 hq_447)
  have hm_521 := hx_523.1
  have hf_522 := hx_523.2.trans hf_469
  have hx_526 := hk_485 q_186 hm_472 (ne_in hm_420 hq_447)
  have hm_524 := hx_526.1
  have hf_525 := hx_526.2.trans hf_471
  have hx_529 := hk_485 q_226 hm_474 (ne_in hm_423 hq_447)
  have hm_527 := hx_529.1
  have hf_528 := hx_529.2.trans hf_473
  have hx_532 := hk_485 q_267 hm_476 (ne_in hm_426 hq_447)
  have hm_530 := hx_532.1
  have hf_531 := hx_532.2.trans hf_475
  have hx_535 := hk_485 q_351 hm_478 (ne_in hm_389 hq_447)
  have hm_533 := hx_535.1
  have hf_534 := hx_535.2.trans hf_477
  have hx_538 := hk_485 q_388 hm_480 (ne_in hm_391 hq_447)
  have hm_536 := hx_538.1
  have hf_537 := hx_538.2.trans hf_479
  refine v_putF hC (by rw [hnm]; rfl) fl_X11_68 hm_497 hf_498 rfl rfl (Nat.le_of_ble_eq_true rfl) (fs' := [.ref q_1, .ref q_29, .ref q_63, .ref q_83, .ref q_129, .ref q_158, .ref q_226, .ref q_267, .ref q_351, .ref q_445, .null, .null, .null, .null]) rfl dX11_init_101 (fun f_539 hf_540 hk_541 => ?_)
  have hf_542 := (hk_541 q_1 (ne_kd hf_501 hf_498 rfl)).trans hf_501
  have hf_543 := (hk_541 q_16 (ne_kd hf_504 hf_498 rfl)).trans hf_504
  have hf_544 := (hk_541 q_63 (ne_kd hf_507 hf_498 rfl)).trans hf_507
  have hf_545 := (hk_541 q_83 (ne_kd hf_510 hf_498 rfl)).trans hf_510
  have hf_546 := (hk_541 q_104 (ne_kd hf_513 hf_498 rfl)).trans hf_513
  have hf_547 := (hk_541 q_129 (ne_kd hf_516 hf_498 rfl)).trans hf_516
  have hf_548 := (hk_541 q_158 (ne_kd hf_519 hf_498 rfl)).trans hf_519
  have hf_549 := (hk_541 q_185 (ne_kd hf_522 hf_498 rfl)).trans hf_522
  have hf_550 := (hk_541 q_186 (ne_kd hf_525 hf_498 rfl)).trans hf_525
  have hf_551 := (hk_541 q_226 (ne_kd hf_528 hf_498 rfl)).trans hf_528
  have hf_552 := (hk_541 q_267 (ne_kd hf_531 hf_498 rfl)).trans hf_531
  have hf_553 := (hk_541 q_351 (ne_kd hf_534 hf_498 rfl)).trans hf_534
  have hf_554 := (hk_541 q_388 (ne_kd hf_537 hf_498 rfl)).trans hf_537
  have hf_555 := (hk_541 q_445 (ne_kd hf_490 hf_498 rfl)).trans hf_490
  have hf_556 := (hk_541 q_486 (ne_kd hf_492 hf_498 rfl)).trans hf_492
  have hf_557 := (hk_541 q_487 (ne_kd hf_494 hf_498 rfl)).trans hf_494
  have hf_558 := (hk_541 q_488 (ne_kd hf_496 hf_498 rfl)).trans hf_496
  refine v_aload_n hC dX11_init_104 rfl ?_
  refine v_new hC (ci := 2) (fs := [.null, .int 0]) rfl inX2 tyX2_ok kl_X11_27 in_X2 ii_X2 (fun j hj => by rcases (show j = 0 ∨ j = 1 by omega) with rfl | rfl <;> rfl) (Nat.le_of_ble_eq_true rfl) (Nat.le_of_ble_eq_true rfl) dX11_init_105 (fun q_559 f_560 hq_561 hf_562 hk_563 => ?_)
  obtain ⟨L_566, hs_565⟩ : ∃ L9, L9 = L_482 ++ [q_559] := ⟨_, rfl⟩
  rw [← hs_565]
  have hm_564 : q_559 ∈ L_566 := by rw [hs_565]; exact List.mem_append_right _ List.mem_cons_self
  have hm_568 : h ∈ L_566 := by rw [hs_565]; exact List.mem_append_left _ hm_497
  have hf_567 := (hk_563 h (ne_in hm_497 hq_561)).trans hf_540
  have hm_570 : q_1 ∈ L_566 := by rw [hs_565]; exact List.mem_append_left _ hm_500
  have hf_569 := (hk_563 q_1 (ne_in hm_500 hq_561)).trans hf_542
  have hm_572 : q_16 ∈ L_566 := by rw [hs_565]; exact List.mem_append_left _ hm_503
  have hf_571 := (hk_563 q_16 (ne_in hm_503 hq_561)).trans hf_543
  have hm_574 : q_63 ∈ L_566 := by rw [hs_565]; exact List.mem_append_left _ hm_506
  have hf_573 := (hk_563 q_63 (ne_in hm_506 hq_561)).trans hf_544
  have hm_576 : q_83 ∈ L_566 := by rw [hs_565]; exact List.mem_append_left _ hm_509
  have hf_575 := (hk_563 q_83 (ne_in hm_509 hq_561)).trans hf_545
  have hm_578 : q_104 ∈ L_566 := by rw [hs_565]; exact List.mem_append_left _ hm_512
  have hf_577 := (hk_563 q_104 (ne_in hm_512 hq_561)).trans hf_546
  have hm_580 : q_129 ∈ L_566 := by rw [hs_565]; exact List.mem_append_left _ hm_515
  have hf_579 := (hk_563 q_129 (ne_in hm_515 hq_561)).trans hf_547
  have hm_582 : q_158 ∈ L_566 := by rw [hs_565]; exact List.mem_append_left _ hm_518
  have hf_581 := (hk_563 q_158 (ne_in hm_518 hq_561)).trans hf_548
  have hm_584 : q_185 ∈ L_566 := by rw [hs_565]; exact List.mem_append_left _ hm_521
  have hf_583 := (hk_563 q_185 (ne_in hm_521 hq_561)).trans hf_549
  have hm_586 : q_186 ∈ L_566 := by rw [hs_565]; exact List.mem_append_left _ hm_524
  have hf_585 := (hk_563 q_186 (ne_in hm_524 hq_561)).trans hf_550
  have hm_588 : q_226 ∈ L_566 := by rw [hs_565]; exact List.mem_append_left _ hm_527
  have hf_587 := (hk_563 q_226 (ne_in hm_527 hq_561)).trans hf_551
  have hm_590 : q_267 ∈ L_566 := by rw [hs_565]; exact List.mem_append_left _ hm_530
  have hf_589 := (hk_563 q_267 (ne_in hm_530 hq_561)).trans hf_552
  have hm_592 : q_351 ∈ L_566 := by rw [hs_565]; exact List.mem_append_left _ hm_533
  have hf_591 := (hk_563 q_351 (ne_in hm_533 hq_561)).trans hf_553
  have hm_594 : q_388 ∈ L_566 := by rw [hs_565]; exact List.mem_append_left _ hm_536
  have hf_593 := (hk_563 q_388 (ne_in hm_536 hq_561)).trans hf_554
  have hm_596 : q_445 ∈ L_566 := by rw [hs_565]; exact List.mem_append_left _ hm_489
  have hf_595 := (hk_563 q_445 (ne_in hm_489 hq_561)).trans hf_555
  have hm_598 : q_486 ∈ L_566 := by rw [hs_565]; exact List.mem_append_left _ hm_491
  have hf_597 := (hk_563 q_486 (ne_in hm_491 hq_561)).trans hf_556
  have hm_600 : q_487 ∈ L_566 := by rw [hs_565]; exact List.mem_append_left _ hm_493
  have hf_599 := (hk_563 q_487 (ne_in hm_493 hq_561)).trans hf_557
  have hm_602 : q_488 ∈ L_566 := by rw [hs_565]; exact List.mem_append_left _ hm_495
  have hf_601 := (hk_563 q_488 (ne_in hm_495 hq_561)).trans hf_558
  refine v_widen (k := 45) (n := 3492) (Nat.le_of_ble_eq_true rfl) (Nat.le_of_ble_eq_true rfl) ?_
  refine v_dup hC dX11_init_108 rfl ?_
  refine v_xvN hC (rest := [.ref q_559, .ref h]) rfl mi_X2_init (k_X2 hm_564 hf_562) mx_X2_init mn_X11_29 (by decide) rfl (cells1 := 46) (slots1 := 3543) (by decide) (by decide) (Nat.le_of_ble_eq_true rfl) (Nat.le_of_ble_eq_true rfl) rfl (Nat.le_of_ble_eq_true rfl) dX11_init_109 (fun L_604 f_605 h_606 => ?_)
  obtain ⟨hk_607, q_608, hm_609, hf_610, hm_611, hf_612⟩ := h_606
  have hx_615 := hk_607 h hm_568 (ne_in hm_497 hq_561)
  have hm_613 := hx_615.1
  have hf_614 := hx_615.2.trans hf_567
  have hx_618 := hk_607 q_1 hm_570 (ne_in hm_500 hq_561)
  have hm_616 := hx_618.1
  have hf_617 := hx_618.2.trans hf_569
  have hx_621 := hk_607 q_16 hm_572 (ne_in hm_503 hq_561)
  have hm_619 := hx_621.1
  have hf_620 := hx_621.2.trans hf_571
  have hx_624 := hk_607 q_63 hm_574 (ne_in hm_506 hq_561)
  have hm_622 := hx_624.1
  have hf_623 := hx_624.2.trans hf_573
  have hx_627 := hk_607 q_83 hm_576 (ne_in hm_509 hq_561)
  have hm_625 := hx_627.1
  have hf_626 := hx_627.2.trans hf_575
  have hx_630 := hk_607 q_104 hm_578 (ne_in hm_512 hq_561)
  have hm_628 := hx_630.1
  have hf_629 := hx_630.2.trans hf_577
  have hx_633 := hk_607 q_129 hm_580 (ne_in hm_515 hq_561)
  have hm_631 := hx_633.1
  have hf_632 := hx_633.2.trans hf_579
  have hx_636 := hk_607 q_158 hm_582 (ne_in hm_518 hq_561)
  have hm_634 := hx_636.1
  have hf_635 := hx_636.2.trans hf_581
  have hx_639 := hk_607 q_185 hm_584 (ne_in hm_521 hq_561)
  have hm_637 := hx_639.1
  have hf_638 := hx_639.2.trans hf_583
  have hx_642 := hk_607 q_186 hm_586 (ne_in hm_524 hq_561)
  have hm_640 := hx_642.1
  have hf_641 := hx_642.2.trans hf_585
  have hx_645 := hk_607 q_226 hm_588 (ne_in hm_527 hq_561)
  have hm_643 := hx_645.1
  have hf_644 := hx_645.2.trans hf_587
  have hx_648 := hk_607 q_267 hm_590 (ne_in hm_530 hq_561)
  have hm_646 := hx_648.1
  have hf_647 := hx_648.2.trans hf_589
  have hx_651 := hk_607 q_351 hm_592 (ne_in hm_533 hq_561)
  have hm_649 := hx_651.1
  have hf_650 := hx_651.2.trans hf_591
  have hx_654 := hk_607 q_388 hm_594 (ne_in hm_536 hq_561)
  have hm_652 := hx_654.1
  have hf_653 := hx_654.2.trans hf_593
  have hx_657 := hk_607 q_445 hm_596 (ne_in hm_489 hq_561)
  have hm_655 := hx_657.1
  have hf_656 := hx_657.2.trans hf_595
  have hx_660 := hk_607 q_486 hm_598 (ne_in hm_491 hq_561)
  have hm_658 := hx_660.1
  have hf_659 := hx_660.2.trans hf_597
  have hx_663 := hk_607 q_487 hm_600 (ne_in hm_493 hq_561)
  have hm_661 := hx_663.1
  have hf_662 := hx_663.2.trans hf_599
  have hx_666 := hk_607 q_488 hm_602 (ne_in hm_495 hq_561)
  have hm_664 := hx_666.1
  have hf_665 := hx_666.2.trans hf_601
  refine v_putF hC (by rw [hnm]; rfl) fl_X11_72 hm_613 hf_614 rfl rfl (Nat.le_of_ble_eq_true rfl) (fs' := [.ref q_1, .ref q_29, .ref q_63, .ref q_83, .ref q_129, .ref q_158, .ref q_226, .ref q_267, .ref q_351, .ref q_445, .ref q_559, .null, .null, .null]) rfl dX11_init_112 (fun f_667 hf_668 hk_669 => ?_)
  have hf_670 := (hk_669 q_1 (ne_kd hf_617 hf_614 rfl)).trans hf_617
  have hf_671 := (hk_669 q_16 (ne_kd hf_620 hf_614 rfl)).trans hf_620
  have hf_672 := (hk_669 q_63 (ne_kd hf_623 hf_614 rfl)).trans hf_623
  have hf_673 := (hk_669 q_83 (ne_kd hf_626 hf_614 rfl)).trans hf_626
  have hf_674 := (hk_669 q_104 (ne_kd hf_629 hf_614 rfl)).trans hf_629
  have hf_675 := (hk_669 q_129 (ne_kd hf_632 hf_614 rfl)).trans hf_632
  have hf_676 := (hk_669 q_158 (ne_kd hf_635 hf_614 rfl)).trans hf_635
  have hf_677 := (hk_669 q_185 (ne_kd hf_638 hf_614 rfl)).trans hf_638
  have hf_678 := (hk_669 q_186 (ne_kd hf_641 hf_614 rfl)).trans hf_641
  have hf_679 := (hk_669 q_226 (ne_kd hf_644 hf_614 rfl)).trans hf_644
  have hf_680 := (hk_669 q_267 (ne_kd hf_647 hf_614 rfl)).trans hf_647
  have hf_681 := (hk_669 q_351 (ne_kd hf_650 hf_614 rfl)).trans hf_650
  have hf_682 := (hk_669 q_388 (ne_kd hf_653 hf_614 rfl)).trans hf_653
  have hf_683 := (hk_669 q_445 (ne_kd hf_656 hf_614 rfl)).trans hf_656
  have hf_684 := (hk_669 q_486 (ne_kd hf_659 hf_614 rfl)).trans hf_659
  have hf_685 := (hk_669 q_487 (ne_kd hf_662 hf_614 rfl)).trans hf_662
  have hf_686 := (hk_669 q_488 (ne_kd hf_665 hf_614 rfl)).trans hf_665
  have hf_687 := (hk_669 q_559 (ne_kd hf_610 hf_614 rfl)).trans hf_610
  have hf_688 := (hk_669 q_608 (ne_kd hf_612 hf_614 rfl)).trans hf_612
  refine v_aload_n hC dX11_init_115 rfl ?_
  refine v_new hC (ci := 8) (fs := [.null, .int 0, .int 0, .int 0, .int 0]) rfl inX8 tyX8_ok kl_X11_75 in_X8 ii_X8 (fun j hj => by rcases (show j = 0 ∨ j = 1 ∨ j = 2 ∨ j = 3 ∨ j = 4 by omega) with rfl | rfl | rfl | rfl | rfl <;> rfl) (Nat.le_of_ble_eq_true rfl) (Nat.le_of_ble_eq_true rfl) dX11_init_116 (fun q_689 f_690 hq_691 hf_692 hk_693 => ?_)
  obtain ⟨L_696, hs_695⟩ : ∃ L9, L9 = L_604 ++ [q_689] := ⟨_, rfl⟩
  rw [← hs_695]
  have hm_694 : q_689 ∈ L_696 := by rw [hs_695]; exact List.mem_append_right _ List.mem_cons_self
  have hm_698 : h ∈ L_696 := by rw [hs_695]; exact List.mem_append_left _ hm_613
  have hf_697 := (hk_693 h (ne_in hm_613 hq_691)).trans hf_668
  have hm_700 : q_1 ∈ L_696 := by rw [hs_695]; exact List.mem_append_left _ hm_616
  have hf_699 := (hk_693 q_1 (ne_in hm_616 hq_691)).trans hf_670
  have hm_702 : q_16 ∈ L_696 := by rw [hs_695]; exact List.mem_append_left _ hm_619
  have hf_701 := (hk_693 q_16 (ne_in hm_619 hq_691)).trans hf_671
  have hm_704 : q_63 ∈ L_696 := by rw [hs_695]; exact List.mem_append_left _ hm_622
  have hf_703 := (hk_693 q_63 (ne_in hm_622 hq_691)).trans hf_672
  have hm_706 : q_83 ∈ L_696 := by rw [hs_695]; exact List.mem_append_left _ hm_625
  have hf_705 := (hk_693 q_83 (ne_in hm_625 hq_691)).trans hf_673
  have hm_708 : q_104 ∈ L_696 := by rw [hs_695]; exact List.mem_append_left _ hm_628
  have hf_707 := (hk_693 q_104 (ne_in hm_628 hq_691)).trans hf_674
  have hm_710 : q_129 ∈ L_696 := by rw [hs_695]; exact List.mem_append_left _ hm_631
  have hf_709 := (hk_693 q_129 (ne_in hm_631 hq_691)).trans hf_675
  have hm_712 : q_158 ∈ L_696 := by rw [hs_695]; exact List.mem_append_left _ hm_634
  have hf_711 := (hk_693 q_158 (ne_in hm_634 hq_691)).trans hf_676
  have hm_714 : q_185 ∈ L_696 := by rw [hs_695]; exact List.mem_append_left _ hm_637
  have hf_713 := (hk_693 q_185 (ne_in hm_637 hq_691)).trans hf_677
  have hm_716 : q_186 ∈ L_696 := by rw [hs_695]; exact List.mem_append_left _ hm_640
  have hf_715 := (hk_693 q_186 (ne_in hm_640 hq_691)).trans hf_678
  have hm_718 : q_226 ∈ L_696 := by rw [hs_695]; exact List.mem_append_left _ hm_643
  have hf_717 := (hk_693 q_226 (ne_in hm_643 hq_691)).trans hf_679
  have hm_720 : q_267 ∈ L_696 := by rw [hs_695]; exact List.mem_append_left _ hm_646
  have hf_719 := (hk_693 q_267 (ne_in hm_646 hq_691)).trans hf_680
  have hm_722 : q_351 ∈ L_696 := by rw [hs_695]; exact List.mem_append_left _ hm_649
  have hf_721 := (hk_693 q_351 (ne_in hm_649 hq_691)).trans hf_681
  have hm_724 : q_388 ∈ L_696 := by rw [hs_695]; exact List.mem_append_left _ hm_652
  have hf_723 := (hk_693 q_388 (ne_in hm_652 hq_691)).trans hf_682
  have hm_726 : q_445 ∈ L_696 := by rw [hs_695]; exact List.mem_append_left _ hm_655
  have hf_725 := (hk_693 q_445 (ne_in hm_655 hq_691)).trans hf_683
  have hm_728 : q_486 ∈ L_696 := by rw [hs_695]; exact List.mem_append_left _ hm_658
  have hf_727 := (hk_693 q_486 (ne_in hm_658 hq_691)).trans hf_684
  have hm_730 : q_487 ∈ L_696 := by rw [hs_695]; exact List.mem_append_left _ hm_661
  have hf_729 := (hk_693 q_487 (ne_in hm_661 hq_691)).trans hf_685
  have hm_732 : q_488 ∈ L_696 := by rw [hs_695]; exact List.mem_append_left _ hm_664
  have hf_731 := (hk_693 q_488 (ne_in hm_664 hq_691)).trans hf_686
  have hm_734 : q_559 ∈ L_696 := by rw [hs_695]; exact List.mem_append_left _ hm_609
  have hf_733 := (hk_693 q_559 (ne_in hm_609 hq_691)).trans hf_687
  have hm_736 : q_608 ∈ L_696 := by rw [hs_695]; exact List.mem_append_left _ hm_611
  have hf_735 := (hk_693 q_608 (ne_in hm_611 hq_691)).trans hf_688
  refine v_widen (k := 47) (n := 3548) (Nat.le_of_ble_eq_true rfl) (Nat.le_of_ble_eq_true rfl) ?_
  refine v_dup hC dX11_init_119 rfl ?_
  refine v_xvN hC (rest := [.ref q_689, .ref h]) rfl mi_X8_init (k_X8 hm_694 hf_692) mx_X8_init mn_X11_77 (by decide) rfl (cells1 := 48) (slots1 := 3804) (by decide) (by decide) (Nat.le_of_ble_eq_true rfl) (Nat.le_of_ble_eq_true rfl) rfl (Nat.le_of_ble_eq_true rfl) dX11_init_120 (fun L_738 f_739 h_740 => ?_)
  obtain ⟨hk_741, -⟩ := h_740
  have hx_744 := hk_741 h hm_698 (ne_in hm_613 hq_691)
  have hm_742 := hx_744.1
  have hf_743 := hx_744.2.trans hf_697
  have hx_747 := hk_741 q_1 hm_700 (ne_in hm_616 hq_691)
  have hm_745 := hx_747.1
  have hf_746 := hx_747.2.trans hf_699
  have hx_750 := hk_741 q_16 hm_702 (ne_in hm_619 hq_691)
  have hm_748 := hx_750.1
  have hf_749 := hx_750.2.trans hf_701
  have hx_753 := hk_741 q_63 hm_704 (ne_in hm_622 hq_691)
  have hm_751 := hx_753.1
  have hf_752 := hx_753.2.trans hf_703
  have hx_756 := hk_741 q_83 hm_706 (ne_in hm_625 hq_691)
  have hm_754 := hx_756.1
  have hf_755 := hx_756.2.trans hf_705
  have hx_759 := hk_741 q_104 hm_708 (ne_in hm_628 hq_691)
  have hm_757 := hx_759.1
  have hf_758 := hx_759.2.trans hf_707
  have hx_762 := hk_741 q_129 hm_710 (ne_in hm_631 hq_691)
  have hm_760 := hx_762.1
  have hf_761 := hx_762.2.trans hf_709
  have hx_765 := hk_741 q_158 hm_712 (ne_in hm_634 hq_691)
  have hm_763 := hx_765.1
  have hf_764 := hx_765.2.trans hf_711
  have hx_768 := hk_741 q_185 hm_714 (ne_in hm_637 hq_691)
  have hm_766 := hx_768.1
  have hf_767 := hx_768.2.trans hf_713
  have hx_771 := hk_741 q_186 hm_716 (ne_in hm_640 hq_691)
  have hm_769 := hx_771.1
  have hf_770 := hx_771.2.trans hf_715
  have hx_774 := hk_741 q_226 hm_718 (ne_in hm_643 hq_691)
  have hm_772 := hx_774.1
  have hf_773 := hx_774.2.trans hf_717
  have hx_777 := hk_741 q_267 hm_720 (ne_in hm_646 hq_691)
  have hm_775 := hx_777.1
  have hf_776 := hx_777.2.trans hf_719
  have hx_780 := hk_741 q_351 hm_722 (ne_in hm_649 hq_691)
  have hm_778 := hx_780.1
  have hf_779 := hx_780.2.trans hf_721
  have hx_783 := hk_741 q_388 hm_724 (ne_in hm_652 hq_691)
  have hm_781 := hx_783.1
  have hf_782 := hx_783.2.trans hf_723
  have hx_786 := hk_741 q_445 hm_726 (ne_in hm_655 hq_691)
  have hm_784 := hx_786.1
  have hf_785 := hx_786.2.trans hf_725
  have hx_789 := hk_741 q_486 hm_728 (ne_in hm_658 hq_691)
  have hm_787 := hx_789.1
  have hf_788 := hx_789.2.trans hf_727
  have hx_792 := hk_741 q_487 hm_730 (ne_in hm_661 hq_691)
  have hm_790 := hx_792.1
  have hf_791 := hx_792.2.trans hf_729
  have hx_795 := hk_741 q_488 hm_732 (ne_in hm_664 hq_691)
  have hm_793 := hx_795.1
  have hf_794 := hx_795.2.trans hf_731
  have hx_798 := hk_741 q_559 hm_734 (ne_in hm_609 hq_691)
  have hm_796 := hx_798.1
  have hf_797 := hx_798.2.trans hf_733
  have hx_801 := hk_741 q_608 hm_736 (ne_in hm_611 hq_691)
  have hm_799 := hx_801.1
  have hf_800 := hx_801.2.trans hf_735
  refine v_putF hC (by rw [hnm]; rfl) fl_X11_78 hm_742 hf_743 rfl rfl (Nat.le_of_ble_eq_true rfl) (fs' := [.ref q_1, .ref q_29, .ref q_63, .ref q_83, .ref q_129, .ref q_158, .ref q_226, .ref q_267, .ref q_351, .ref q_445, .ref q_559, .ref q_689, .null, .null]) rfl dX11_init_123 (fun f_802 hf_803 hk_804 => ?_)
  have hf_805 := (hk_804 q_1 (ne_kd hf_746 hf_743 rfl)).trans hf_746
  have hf_806 := (hk_804 q_16 (ne_kd hf_749 hf_743 rfl)).trans hf_749
  have hf_807 := (hk_804 q_63 (ne_kd hf_752 hf_743 rfl)).trans hf_752
  have hf_808 := (hk_804 q_83 (ne_kd hf_755 hf_743 rfl)).trans hf_755
  have hf_809 := (hk_804 q_104 (ne_kd hf_758 hf_743 rfl)).trans hf_758
  have hf_810 := (hk_804 q_129 (ne_kd hf_761 hf_743 rfl)).trans hf_761
  have hf_811 := (hk_804 q_158 (ne_kd hf_764 hf_743 rfl)).trans hf_764
  have hf_812 := (hk_804 q_185 (ne_kd hf_767 hf_743 rfl)).trans hf_767
  have hf_813 := (hk_804 q_186 (ne_kd hf_770 hf_743 rfl)).trans hf_770
  have hf_814 := (hk_804 q_226 (ne_kd hf_773 hf_743 rfl)).trans hf_773
  have hf_815 := (hk_804 q_267 (ne_kd hf_776 hf_743 rfl)).trans hf_776
  have hf_816 := (hk_804 q_351 (ne_kd hf_779 hf_743 rfl)).trans hf_779
  have hf_817 := (hk_804 q_388 (ne_kd hf_782 hf_743 rfl)).trans hf_782
  have hf_818 := (hk_804 q_445 (ne_kd hf_785 hf_743 rfl)).trans hf_785
  have hf_819 := (hk_804 q_486 (ne_kd hf_788 hf_743 rfl)).trans hf_788
  have hf_820 := (hk_804 q_487 (ne_kd hf_791 hf_743 rfl)).trans hf_791
  have hf_821 := (hk_804 q_488 (ne_kd hf_794 hf_743 rfl)).trans hf_794
  have hf_822 := (hk_804 q_559 (ne_kd hf_797 hf_743 rfl)).trans hf_797
  have hf_823 := (hk_804 q_608 (ne_kd hf_800 hf_743 rfl)).trans hf_800
  refine v_aload_n hC dX11_init_126 rfl ?_
  refine v_new hC (ci := 1) (fs := [.null, .int 0]) rfl inX1 tyX1_ok kl_X11_82 in_X1 ii_X1 (fun j hj => by rcases (show j = 0 ∨ j = 1 by omega) with rfl | rfl <;> rfl) (Nat.le_of_ble_eq_true rfl) (Nat.le_of_ble_eq_true rfl) dX11_init_127 (fun q_824 f_825 hq_826 hf_827 hk_828 => ?_)
  obtain ⟨L_831, hs_830⟩ : ∃ L9, L9 = L_738 ++ [q_824] := ⟨_, rfl⟩
  rw [← hs_830]
  have hm_829 : q_824 ∈ L_831 := by rw [hs_830]; exact List.mem_append_right _ List.mem_cons_self
  have hm_833 : h ∈ L_831 := by rw [hs_830]; exact List.mem_append_left _ hm_742
  have hf_832 := (hk_828 h (ne_in hm_742 hq_826)).trans hf_803
  have hm_835 : q_1 ∈ L_831 := by rw [hs_830]; exact List.mem_append_left _ hm_745
  have hf_834 := (hk_828 q_1 (ne_in hm_745 hq_826)).trans hf_805
  have hm_837 : q_16 ∈ L_831 := by rw [hs_830]; exact List.mem_append_left _ hm_748
  have hf_836 := (hk_828 q_16 (ne_in hm_748 hq_826)).trans hf_806
  have hm_839 : q_63 ∈ L_831 := by rw [hs_830]; exact List.mem_append_left _ hm_751
  have hf_838 := (hk_828 q_63 (ne_in hm_751 hq_826)).trans hf_807
  have hm_841 : q_83 ∈ L_831 := by rw [hs_830]; exact List.mem_append_left _ hm_754
  have hf_840 := (hk_828 q_83 (ne_in hm_754 hq_826)).trans hf_808
  have hm_843 : q_104 ∈ L_831 := by rw [hs_830]; exact List.mem_append_left _ hm_757
  have hf_842 := (hk_828 q_104 (ne_in hm_757 hq_826)).trans hf_809
  have hm_845 : q_129 ∈ L_831 := by rw [hs_830]; exact List.mem_append_left _ hm_760
  have hf_844 := (hk_828 q_129 (ne_in hm_760 hq_826)).trans hf_810
  have hm_847 : q_158 ∈ L_831 := by rw [hs_830]; exact List.mem_append_left _ hm_763
  have hf_846 := (hk_828 q_158 (ne_in hm_763 hq_826)).trans hf_811
  have hm_849 : q_185 ∈ L_831 := by rw [hs_830]; exact List.mem_append_left _ hm_766
  have hf_848 := (hk_828 q_185 (ne_in hm_766 hq_826)).trans hf_812
  have hm_851 : q_186 ∈ L_831 := by rw [hs_830]; exact List.mem_append_left _ hm_769
  have hf_850 := (hk_828 q_186 (ne_in hm_769 hq_826)).trans hf_813
  have hm_853 : q_226 ∈ L_831 := by rw [hs_830]; exact List.mem_append_left _ hm_772
  have hf_852 := (hk_828 q_226 (ne_in hm_772 hq_826)).trans hf_814
  have hm_855 : q_267 ∈ L_831 := by rw [hs_830]; exact List.mem_append_left _ hm_775
  have hf_854 := (hk_828 q_267 (ne_in hm_775 hq_826)).trans hf_815
  have hm_857 : q_351 ∈ L_831 := by rw [hs_830]; exact List.mem_append_left _ hm_778
  have hf_856 := (hk_828 q_351 (ne_in hm_778 hq_826)).trans hf_816
  have hm_859 : q_388 ∈ L_831 := by rw [hs_830]; exact List.mem_append_left _ hm_781
  have hf_858 := (hk_828 q_388 (ne_in hm_781 hq_826)).trans hf_817
  have hm_861 : q_445 ∈ L_831 := by rw [hs_830]; exact List.mem_append_left _ hm_784
  have hf_860 := (hk_828 q_445 (ne_in hm_784 hq_826)).trans hf_818
  have hm_863 : q_486 ∈ L_831 := by rw [hs_830]; exact List.mem_append_left _ hm_787
  have hf_862 := (hk_828 q_486 (ne_in hm_787 hq_826)).trans hf_819
  have hm_865 : q_487 ∈ L_831 := by rw [hs_830]; exact List.mem_append_left _ hm_790
  have hf_864 := (hk_828 q_487 (ne_in hm_790 hq_826)).trans hf_820
  have hm_867 : q_488 ∈ L_831 := by rw [hs_830]; exact List.mem_append_left _ hm_793
  have hf_866 := (hk_828 q_488 (ne_in hm_793 hq_826)).trans hf_821
  have hm_869 : q_559 ∈ L_831 := by rw [hs_830]; exact List.mem_append_left _ hm_796
  have hf_868 := (hk_828 q_559 (ne_in hm_796 hq_826)).trans hf_822
  have hm_871 : q_608 ∈ L_831 := by rw [hs_830]; exact List.mem_append_left _ hm_799
  have hf_870 := (hk_828 q_608 (ne_in hm_799 hq_826)).trans hf_823
  refine v_widen (k := 49) (n := 3806) (Nat.le_of_ble_eq_true rfl) (Nat.le_of_ble_eq_true rfl) ?_
  refine v_dup hC dX11_init_130 rfl ?_
  refine v_xvN hC (rest := [.ref q_824, .ref h]) rfl mi_X1_init (k_X1 hm_829 hf_827) mx_X1_init mn_X11_84 (by decide) rfl (cells1 := 50) (slots1 := 4062) (by decide) (by decide) (Nat.le_of_ble_eq_true rfl) (Nat.le_of_ble_eq_true rfl) rfl (Nat.le_of_ble_eq_true rfl) dX11_init_131 (fun L_873 f_874 h_875 => ?_)
  obtain ⟨hk_876, q_877, hm_878, hf_879, hm_880, hf_881⟩ := h_875
  have hx_884 := hk_876 h hm_833 (ne_in hm_742 hq_826)
  have hm_882 := hx_884.1
  have hf_883 := hx_884.2.trans hf_832
  have hx_887 := hk_876 q_1 hm_835 (ne_in hm_745 hq_826)
  have hm_885 := hx_887.1
  have hf_886 := hx_887.2.trans hf_834
  have hx_890 := hk_876 q_16 hm_837 (ne_in hm_748 hq_826)
  have hm_888 := hx_890.1
  have hf_889 := hx_890.2.trans hf_836
  have hx_893 := hk_876 q_63 hm_839 (ne_in hm_751 hq_826)
  have hm_891 := hx_893.1
  have hf_892 := hx_893.2.trans hf_838
  have hx_896 := hk_876 q_83 hm_841 (ne_in hm_754 hq_826)
  have hm_894 := hx_896.1
  have hf_895 := hx_896.2.trans hf_840
  have hx_899 := hk_876 q_104 hm_843 (ne_in hm_757 hq_826)
  have hm_897 := hx_899.1
  have hf_898 := hx_899.2.trans hf_842
  have hx_902 := hk_876 q_129 hm_845 (ne_in hm_760 hq_826)
  have hm_900 := hx_902.1
  have hf_901 := hx_902.2.trans hf_844
  have hx_905 := hk_876 q_158 hm_847 (ne_in hm_763 hq_826)
  have hm_903 := hx_905.1
  have hf_904 := hx_905.2.trans hf_846
  have hx_908 := hk_876 q_185 hm_849 (ne_in hm_766 hq_826)
  have hm_906 := hx_908.1
  have hf_907 := hx_908.2.trans hf_848
  have hx_911 := hk_876 q_186 hm_851 (ne_in hm_769 hq_826)
  have hm_909 := hx_911.1
  have hf_910 := hx_911.2.trans hf_850
  have hx_914 := hk_876 q_226 hm_853 (ne_in hm_772 hq_826)
  have hm_912 := hx_914.1
  have hf_913 := hx_914.2.trans hf_852
  have hx_917 := hk_876 q_267 hm_855 (ne_in hm_775 hq_826)
  have hm_915 := hx_917.1
  have hf_916 := hx_917.2.trans hf_854
  have hx_920 := hk_876 q_351 hm_857 (ne_in hm_778 hq_826)
  have hm_918 := hx_920.1
  have hf_919 := hx_920.2.trans hf_856
  have hx_923 := hk_876 q_388 hm_859 (ne_in hm_781 hq_826)
  have hm_921 := hx_923.1
  have hf_922 := hx_923.2.trans hf_858
  have hx_926 := hk_876 q_445 hm_861 (ne_in hm_784 hq_826)
  have hm_924 := hx_926.1
  have hf_925 := hx_926.2.trans hf_860
  have hx_929 := hk_876 q_486 hm_863 (ne_in hm_787 hq_826)
  have hm_927 := hx_929.1
  have hf_928 := hx_929.2.trans hf_862
  have hx_932 := hk_876 q_487 hm_865 (ne_in hm_790 hq_826)
  have hm_930 := hx_932.1
  have hf_931 := hx_932.2.trans hf_864
  have hx_935 := hk_876 q_488 hm_867 (ne_in hm_793 hq_826)
  have hm_933 := hx_935.1
  have hf_934 := hx_935.2.trans hf_866
  have hx_938 := hk_876 q_559 hm_869 (ne_in hm_796 hq_826)
  have hm_936 := hx_938.1
  have hf_937 := hx_938.2.trans hf_868
  have hx_941 := hk_876 q_608 hm_871 (ne_in hm_799 hq_826)
  have hm_939 := hx_941.1
  have hf_940 := hx_941.2.trans hf_870
  refine v_putF hC (by rw [hnm]; rfl) fl_X11_85 hm_882 hf_883 rfl rfl (Nat.le_of_ble_eq_true rfl) (fs' := [.ref q_1, .ref q_29, .ref q_63, .ref q_83, .ref q_129, .ref q_158, .ref q_226, .ref q_267, .ref q_351, .ref q_445, .ref q_559, .ref q_689, .ref q_824, .null]) rfl dX11_init_134 (fun f_942 hf_943 hk_944 => ?_)
  have hf_945 := (hk_944 q_1 (ne_kd hf_886 hf_883 rfl)).trans hf_886
  have hf_946 := (hk_944 q_16 (ne_kd hf_889 hf_883 rfl)).trans hf_889
  have hf_947 := (hk_944 q_63 (ne_kd hf_892 hf_883 rfl)).trans hf_892
  have hf_948 := (hk_944 q_83 (ne_kd hf_895 hf_883 rfl)).trans hf_895
  have hf_949 := (hk_944 q_104 (ne_kd hf_898 hf_883 rfl)).trans hf_898
  have hf_950 := (hk_944 q_129 (ne_kd hf_901 hf_883 rfl)).trans hf_901
  have hf_951 := (hk_944 q_158 (ne_kd hf_904 hf_883 rfl)).trans hf_904
  have hf_952 := (hk_944 q_185 (ne_kd hf_907 hf_883 rfl)).trans hf_907
  have hf_953 := (hk_944 q_186 (ne_kd hf_910 hf_883 rfl)).trans hf_910
  have hf_954 := (hk_944 q_226 (ne_kd hf_913 hf_883 rfl)).trans hf_913
  have hf_955 := (hk_944 q_267 (ne_kd hf_916 hf_883 rfl)).trans hf_916
  have hf_956 := (hk_944 q_351 (ne_kd hf_919 hf_883 rfl)).trans hf_919
  have hf_957 := (hk_944 q_388 (ne_kd hf_922 hf_883 rfl)).trans hf_922
  have hf_958 := (hk_944 q_445 (ne_kd hf_925 hf_883 rfl)).trans hf_925
  have hf_959 := (hk_944 q_486 (ne_kd hf_928 hf_883 rfl)).trans hf_928
  have hf_960 := (hk_944 q_487 (ne_kd hf_931 hf_883 rfl)).trans hf_931
  have hf_961 := (hk_944 q_488 (ne_kd hf_934 hf_883 rfl)).trans hf_934
  have hf_962 := (hk_944 q_559 (ne_kd hf_937 hf_883 rfl)).trans hf_937
  have hf_963 := (hk_944 q_608 (ne_kd hf_940 hf_883 rfl)).trans hf_940
  have hf_964 := (hk_944 q_824 (ne_kd hf_879 hf_883 rfl)).trans hf_879
  have hf_965 := (hk_944 q_877 (ne_kd hf_881 hf_883 rfl)).trans hf_881
  refine v_aload_n hC dX11_init_137 rfl ?_
  refine v_new hC (ci := 6) (fs := [.null, .null, .null, .null, .null, .int 0, .int 0, .int 0, .int 0, .int 0]) rfl inX6 tyX6_ok kl_X11_89 in_X6 ii_X6 (fun j hj => by rcases (show j = 0 ∨ j = 1 ∨ j = 2 ∨ j = 3 ∨ j = 4 ∨ j = 5 ∨ j = 6 ∨ j = 7 ∨ j = 8 ∨ j = 9 by omega) with rfl | rfl | rfl | rfl | rfl | rfl | rfl | rfl | rfl | rfl <;> rfl) (Nat.le_of_ble_eq_true rfl) (Nat.le_of_ble_eq_true rfl) dX11_init_138 (fun q_966 f_967 hq_968 hf_969 hk_970 => ?_)
  obtain ⟨L_973, hs_972⟩ : ∃ L9, L9 = L_873 ++ [q_966] := ⟨_, rfl⟩
  rw [← hs_972]
  have hm_971 : q_966 ∈ L_973 := by rw [hs_972]; exact List.mem_append_right _ List.mem_cons_self
  have hm_975 : h ∈ L_973 := by rw [hs_972]; exact List.mem_append_left _ hm_882
  have hf_974 := (hk_970 h (ne_in hm_882 hq_968)).trans hf_943
  have hm_977 : q_1 ∈ L_973 := by rw [hs_972]; exact List.mem_append_left _ hm_885
  have hf_976 := (hk_970 q_1 (ne_in hm_885 hq_968)).trans hf_945
  have hm_979 : q_16 ∈ L_973 := by rw [hs_972]; exact List.mem_append_left _ hm_888
  have hf_978 := (hk_970 q_16 (ne_in hm_888 hq_968)).trans hf_946
  have hm_981 : q_63 ∈ L_973 := by rw [hs_972]; exact List.mem_append_left _ hm_891
  have hf_980 := (hk_970 q_63 (ne_in hm_891 hq_968)).trans hf_947
  have hm_983 : q_83 ∈ L_973 := by rw [hs_972]; exact List.mem_append_left _ hm_894
  have hf_982 := (hk_970 q_83 (ne_in hm_894 hq_968)).trans hf_948
  have hm_985 : q_104 ∈ L_973 := by rw [hs_972]; exact List.mem_append_left _ hm_897
  have hf_984 := (hk_970 q_104 (ne_in hm_897 hq_968)).trans hf_949
  have hm_987 : q_129 ∈ L_973 := by rw [hs_972]; exact List.mem_append_left _ hm_900
  have hf_986 := (hk_970 q_129 (ne_in hm_900 hq_968)).trans hf_950
  have hm_989 : q_158 ∈ L_973 := by rw [hs_972]; exact List.mem_append_left _ hm_903
  have hf_988 := (hk_970 q_158 (ne_in hm_903 hq_968)).trans hf_951
  have hm_991 : q_185 ∈ L_973 := by rw [hs_972]; exact List.mem_append_left _ hm_906
  have hf_990 := (hk_970 q_185 (ne_in hm_906 hq_968)).trans hf_952
  have hm_993 : q_186 ∈ L_973 := by rw [hs_972]; exact List.mem_append_left _ hm_909
  have hf_992 := (hk_970 q_186 (ne_in hm_909 hq_968)).trans hf_953
  have hm_995 : q_226 ∈ L_973 := by rw [hs_972]; exact List.mem_append_left _ hm_912
  have hf_994 := (hk_970 q_226 (ne_in hm_912 hq_968)).trans hf_954
  have hm_997 : q_267 ∈ L_973 := by rw [hs_972]; exact List.mem_append_left _ hm_915
  have hf_996 := (hk_970 q_267 (ne_in hm_915 hq_968)).trans hf_955
  have hm_999 : q_351 ∈ L_973 := by rw [hs_972]; exact List.mem_append_left _ hm_918
  have hf_998 := (hk_970 q_351 (ne_in hm_918 hq_968)).trans hf_956
  have hm_1001 : q_388 ∈ L_973 := by rw [hs_972]; exact List.mem_append_left _ hm_921
  have hf_1000 := (hk_970 q_388 (ne_in hm_921 hq_968)).trans hf_957
  have hm_1003 : q_445 ∈ L_973 := by rw [hs_972]; exact List.mem_append_left _ hm_924
  have hf_1002 := (hk_970 q_445 (ne_in hm_924 hq_968)).trans hf_958
  have hm_1005 : q_486 ∈ L_973 := by rw [hs_972]; exact List.mem_append_left _ hm_927
  have hf_1004 := (hk_970 q_486 (ne_in hm_927 hq_968)).trans hf_959
  have hm_1007 : q_487 ∈ L_973 := by rw [hs_972]; exact List.mem_append_left _ hm_930
  have hf_1006 := (hk_970 q_487 (ne_in hm_930 hq_968)).trans hf_960
  have hm_1009 : q_488 ∈ L_973 := by rw [hs_972]; exact List.mem_append_left _ hm_933
  have hf_1008 := (hk_970 q_488 (ne_in hm_933 hq_968)).trans hf_961
  have hm_1011 : q_559 ∈ L_973 := by rw [hs_972]; exact List.mem_append_left _ hm_936
  have hf_1010 := (hk_970 q_559 (ne_in hm_936 hq_968)).trans hf_962
  have hm_1013 : q_608 ∈ L_973 := by rw [hs_972]; exact List.mem_append_left _ hm_939
  have hf_1012 := (hk_970 q_608 (ne_in hm_939 hq_968)).trans hf_963
  have hm_1015 : q_824 ∈ L_973 := by rw [hs_972]; exact List.mem_append_left _ hm_878
  have hf_1014 := (hk_970 q_824 (ne_in hm_878 hq_968)).trans hf_964
  have hm_1017 : q_877 ∈ L_973 := by rw [hs_972]; exact List.mem_append_left _ hm_880
  have hf_1016 := (hk_970 q_877 (ne_in hm_880 hq_968)).trans hf_965
  refine v_widen (k := 51) (n := 4072) (Nat.le_of_ble_eq_true rfl) (Nat.le_of_ble_eq_true rfl) ?_
  refine v_dup hC dX11_init_141 rfl ?_
  refine v_xvN hC (rest := [.ref q_966, .ref h]) rfl mi_X6_init (k_X6 hm_971 hf_969) mx_X6_init mn_X11_91 (by decide) rfl (cells1 := 57) (slots1 := 4863) (by decide) (by decide) (Nat.le_of_ble_eq_true rfl) (Nat.le_of_ble_eq_true rfl) rfl (Nat.le_of_ble_eq_true rfl) dX11_init_142 (fun L_1019 f_1020 h_1021 => ?_)
  obtain ⟨hk_1022, -⟩ := h_1021
  have hx_1025 := hk_1022 h hm_975 (ne_in hm_882 hq_968)
  have hm_1023 := hx_1025.1
  have hf_1024 := hx_1025.2.trans hf_974
  have hx_1028 := hk_1022 q_1 hm_977 (ne_in hm_885 hq_968)
  have hm_1026 := hx_1028.1
  have hf_1027 := hx_1028.2.trans hf_976
  have hx_1031 := hk_1022 q_16 hm_979 (ne_in hm_888 hq_968)
  have hm_1029 := hx_1031.1
  have hf_1030 := hx_1031.2.trans hf_978
  have hx_1034 := hk_1022 q_63 hm_981 (ne_in hm_891 hq_968)
  have hm_1032 := hx_1034.1
  have hf_1033 := hx_1034.2.trans hf_980
  have hx_1037 := hk_1022 q_83 hm_983 (ne_in hm_894 hq_968)
  have hm_1035 := hx_1037.1
  have hf_1036 := hx_1037.2.trans hf_982
  have hx_1040 := hk_1022 q_104 hm_985 (ne_in hm_897 hq_968)
  have hm_1038 := hx_1040.1
  have hf_1039 := hx_1040.2.trans hf_984
  have hx_1043 := hk_1022 q_129 hm_987 (ne_in hm_900 hq_968)
  have hm_1041 := hx_1043.1
  have hf_1042 := hx_1043.2.trans hf_986
  have hx_1046 := hk_1022 q_158 hm_989 (ne_in hm_903 hq_968)
  have hm_1044 := hx_1046.1
  have hf_1045 := hx_1046.2.trans hf_988
  have hx_1049 := hk_1022 q_185 hm_991 (ne_in hm_906 hq_968)
  have hm_1047 := hx_1049.1
  have hf_1048 := hx_1049.2.trans hf_990
  have hx_1052 := hk_1022 q_186 hm_993 (ne_in hm_909 hq_968)
  have hm_1050 := hx_1052.1
  have hf_1051 := hx_1052.2.trans hf_992
  have hx_1055 := hk_1022 q_226 hm_995 (ne_in hm_912 hq_968)
  have hm_1053 := hx_1055.1
  have hf_1054 := hx_1055.2.trans hf_994
  have hx_1058 := hk_1022 q_267 hm_997 (ne_in hm_915 hq_968)
  have hm_1056 := hx_1058.1
  have hf_1057 := hx_1058.2.trans hf_996
  have hx_1061 := hk_1022 q_351 hm_999 (ne_in hm_918 hq_968)
  have hm_1059 := hx_1061.1
  have hf_1060 := hx_1061.2.trans hf_998
  have hx_1064 := hk_1022 q_388 hm_1001 (ne_in hm_921 hq_968)
  have hm_1062 := hx_1064.1
  have hf_1063 := hx_1064.2.trans hf_1000
  have hx_1067 := hk_1022 q_445 hm_1003 (ne_in hm_924 hq_968)
  have hm_1065 := hx_1067.1
  have hf_1066 := hx_1067.2.trans hf_1002
  have hx_1070 := hk_1022 q_486 hm_1005 (ne_in hm_927 hq_968)
  have hm_1068 := hx_1070.1
  have hf_1069 := hx_1070.2.trans hf_1004
  have hx_1073 := hk_1022 q_487 hm_1007 (ne_in hm_930 hq_968)
  have hm_1071 := hx_1073.1
  have hf_1072 := hx_1073.2.trans hf_1006
  have hx_1076 := hk_1022 q_488 hm_1009 (ne_in hm_933 hq_968)
  have hm_1074 := hx_1076.1
  have hf_1075 := hx_1076.2.trans hf_1008
  have hx_1079 := hk_1022 q_559 hm_1011 (ne_in hm_936 hq_968)
  have hm_1077 := hx_1079.1
  have hf_1078 := hx_1079.2.trans hf_1010
  have hx_1082 := hk_1022 q_608 hm_1013 (ne_in hm_939 hq_968)
  have hm_1080 := hx_1082.1
  have hf_1081 := hx_1082.2.trans hf_1012
  have hx_1085 := hk_1022 q_824 hm_1015 (ne_in hm_878 hq_968)
  have hm_1083 := hx_1085.1
  have hf_1084 := hx_1085.2.trans hf_1014
  have hx_1088 := hk_1022 q_877 hm_1017 (ne_in hm_880 hq_968)
  have hm_1086 := hx_1088.1
  have hf_1087 := hx_1088.2.trans hf_1016
  refine v_putF hC (by rw [hnm]; rfl) fl_X11_92 hm_1023 hf_1024 rfl rfl (Nat.le_of_ble_eq_true rfl) (fs' := [.ref q_1, .ref q_29, .ref q_63, .ref q_83, .ref q_129, .ref q_158, .ref q_226, .ref q_267, .ref q_351, .ref q_445, .ref q_559, .ref q_689, .ref q_824, .ref q_966]) rfl dX11_init_145 (fun f_1089 hf_1090 hk_1091 => ?_)
  have hf_1092 := (hk_1091 q_1 (ne_kd hf_1027 hf_1024 rfl)).trans hf_1027
  have hf_1093 := (hk_1091 q_16 (ne_kd hf_1030 hf_1024 rfl)).trans hf_1030
  have hf_1094 := (hk_1091 q_63 (ne_kd hf_1033 hf_1024 rfl)).trans hf_1033
  have hf_1095 := (hk_1091 q_83 (ne_kd hf_1036 hf_1024 rfl)).trans hf_1036
  have hf_1096 := (hk_1091 q_104 (ne_kd hf_1039 hf_1024 rfl)).trans hf_1039
  have hf_1097 := (hk_1091 q_129 (ne_kd hf_1042 hf_1024 rfl)).trans hf_1042
  have hf_1098 := (hk_1091 q_158 (ne_kd hf_1045 hf_1024 rfl)).trans hf_1045
  have hf_1099 := (hk_1091 q_185 (ne_kd hf_1048 hf_1024 rfl)).trans hf_1048
  have hf_1100 := (hk_1091 q_186 (ne_kd hf_1051 hf_1024 rfl)).trans hf_1051
  have hf_1101 := (hk_1091 q_226 (ne_kd hf_1054 hf_1024 rfl)).trans hf_1054
  have hf_1102 := (hk_1091 q_267 (ne_kd hf_1057 hf_1024 rfl)).trans hf_1057
  have hf_1103 := (hk_1091 q_351 (ne_kd hf_1060 hf_1024 rfl)).trans hf_1060
  have hf_1104 := (hk_1091 q_388 (ne_kd hf_1063 hf_1024 rfl)).trans hf_1063
  have hf_1105 := (hk_1091 q_445 (ne_kd hf_1066 hf_1024 rfl)).trans hf_1066
  have hf_1106 := (hk_1091 q_486 (ne_kd hf_1069 hf_1024 rfl)).trans hf_1069
  have hf_1107 := (hk_1091 q_487 (ne_kd hf_1072 hf_1024 rfl)).trans hf_1072
  have hf_1108 := (hk_1091 q_488 (ne_kd hf_1075 hf_1024 rfl)).trans hf_1075
  have hf_1109 := (hk_1091 q_559 (ne_kd hf_1078 hf_1024 rfl)).trans hf_1078
  have hf_1110 := (hk_1091 q_608 (ne_kd hf_1081 hf_1024 rfl)).trans hf_1081
  have hf_1111 := (hk_1091 q_824 (ne_kd hf_1084 hf_1024 rfl)).trans hf_1084
  have hf_1112 := (hk_1091 q_877 (ne_kd hf_1087 hf_1024 rfl)).trans hf_1087
  refine v_iconst hC dX11_init_148 (v := 0) (by decide) ?_
  refine v_istore_n hC dX11_init_149 (by decide) (lv' := [(1, .int 0), (0, .ref h)]) rfl ?_
  refine v_iload_n hC dX11_init_150 rfl ?_
  refine v_iconst hC dX11_init_151 (v := 4) (by decide) ?_
  refine v_icmp_ge_f hC dX11_init_152 (tgt := 174) (by decide) (by decide) ?_
  refine v_aload_n hC dX11_init_155 rfl ?_
  refine v_get hC fl_X11_36 hm_1023 hf_1090 rfl dX11_init_156 ?_
  refine v_iload_n hC dX11_init_159 rfl ?_
  refine v_new hC (ci := 5) (fs := [.null, .int 0, .int 0]) rfl inX5 tyX5_ok kl_X11_34 in_X5 ii_X5 (fun j hj => by rcases (show j = 0 ∨ j = 1 ∨ j = 2 by omega) with rfl | rfl | rfl <;> rfl) (Nat.le_of_ble_eq_true rfl) (Nat.le_of_ble_eq_true rfl) dX11_init_160 (fun q_1113 f_1114 hq_1115 hf_1116 hk_1117 => ?_)
  obtain ⟨L_1120, hs_1119⟩ : ∃ L9, L9 = L_1019 ++ [q_1113] := ⟨_, rfl⟩
  rw [← hs_1119]
  have hm_1118 : q_1113 ∈ L_1120 := by rw [hs_1119]; exact List.mem_append_right _ List.mem_cons_self
  have hm_1122 : h ∈ L_1120 := by rw [hs_1119]; exact List.mem_append_left _ hm_1023
  have hf_1121 := (hk_1117 h (ne_in hm_1023 hq_1115)).trans hf_1090
  have hm_1124 : q_1 ∈ L_1120 := by rw [hs_1119]; exact List.mem_append_left _ hm_1026
  have hf_1123 := (hk_1117 q_1 (ne_in hm_1026 hq_1115)).trans hf_1092
  have hm_1126 : q_16 ∈ L_1120 := by rw [hs_1119]; exact List.mem_append_left _ hm_1029
  have hf_1125 := (hk_1117 q_16 (ne_in hm_1029 hq_1115)).trans hf_1093
  have hm_1128 : q_63 ∈ L_1120 := by rw [hs_1119]; exact List.mem_append_left _ hm_1032
  have hf_1127 := (hk_1117 q_63 (ne_in hm_1032 hq_1115)).trans hf_1094
  have hm_1130 : q_83 ∈ L_1120 := by rw [hs_1119]; exact List.mem_append_left _ hm_1035
  have hf_1129 := (hk_1117 q_83 (ne_in hm_1035 hq_1115)).trans hf_1095
  have hm_1132 : q_104 ∈ L_1120 := by rw [hs_1119]; exact List.mem_append_left _ hm_1038
  have hf_1131 := (hk_1117 q_104 (ne_in hm_1038 hq_1115)).trans hf_1096
  have hm_1134 : q_129 ∈ L_1120 := by rw [hs_1119]; exact List.mem_append_left _ hm_1041
  have hf_1133 := (hk_1117 q_129 (ne_in hm_1041 hq_1115)).trans hf_1097
  have hm_1136 : q_158 ∈ L_1120 := by rw [hs_1119]; exact List.mem_append_left _ hm_1044
  have hf_1135 := (hk_1117 q_158 (ne_in hm_1044 hq_1115)).trans hf_1098
  have hm_1138 : q_185 ∈ L_1120 := by rw [hs_1119]; exact List.mem_append_left _ hm_1047
  have hf_1137 := (hk_1117 q_185 (ne_in hm_1047 hq_1115)).trans hf_1099
  have hm_1140 : q_186 ∈ L_1120 := by rw [hs_1119]; exact List.mem_append_left _ hm_1050
  have hf_1139 := (hk_1117 q_186 (ne_in hm_1050 hq_1115)).trans hf_1100
  have hm_1142 : q_226 ∈ L_1120 := by rw [hs_1119]; exact List.mem_append_left _ hm_1053
  have hf_1141 := (hk_1117 q_226 (ne_in hm_1053 hq_1115)).trans hf_1101
  have hm_1144 : q_267 ∈ L_1120 := by rw [hs_1119]; exact List.mem_append_left _ hm_1056
  have hf_1143 := (hk_1117 q_267 (ne_in hm_1056 hq_1115)).trans hf_1102
  have hm_1146 : q_351 ∈ L_1120 := by rw [hs_1119]; exact List.mem_append_left _ hm_1059
  have hf_1145 := (hk_1117 q_351 (ne_in hm_1059 hq_1115)).trans hf_1103
  have hm_1148 : q_388 ∈ L_1120 := by rw [hs_1119]; exact List.mem_append_left _ hm_1062
  have hf_1147 := (hk_1117 q_388 (ne_in hm_1062 hq_1115)).trans hf_1104
  have hm_1150 : q_445 ∈ L_1120 := by rw [hs_1119]; exact List.mem_append_left _ hm_1065
  have hf_1149 := (hk_1117 q_445 (ne_in hm_1065 hq_1115)).trans hf_1105
  have hm_1152 : q_486 ∈ L_1120 := by rw [hs_1119]; exact List.mem_append_left _ hm_1068
  have hf_1151 := (hk_1117 q_486 (ne_in hm_1068 hq_1115)).trans hf_1106
  have hm_1154 : q_487 ∈ L_1120 := by rw [hs_1119]; exact List.mem_append_left _ hm_1071
  have hf_1153 := (hk_1117 q_487 (ne_in hm_1071 hq_1115)).trans hf_1107
  have hm_1156 : q_488 ∈ L_1120 := by rw [hs_1119]; exact List.mem_append_left _ hm_1074
  have hf_1155 := (hk_1117 q_488 (ne_in hm_1074 hq_1115)).trans hf_1108
  have hm_1158 : q_559 ∈ L_1120 := by rw [hs_1119]; exact List.mem_append_left _ hm_1077
  have hf_1157 := (hk_1117 q_559 (ne_in hm_1077 hq_1115)).trans hf_1109
  have hm_1160 : q_608 ∈ L_1120 := by rw [hs_1119]; exact List.mem_append_left _ hm_1080
  have hf_1159 := (hk_1117 q_608 (ne_in hm_1080 hq_1115)).trans hf_1110
  have hm_1162 : q_824 ∈ L_1120 := by rw [hs_1119]; exact List.mem_append_left _ hm_1083
  have hf_1161 := (hk_1117 q_824 (ne_in hm_1083 hq_1115)).trans hf_1111
  have hm_1164 : q_877 ∈ L_1120 := by rw [hs_1119]; exact List.mem_append_left _ hm_1086
  have hf_1163 := (hk_1117 q_877 (ne_in hm_1086 hq_1115)).trans hf_1112
  refine v_widen (k := 58) (n := 4866) (Nat.le_of_ble_eq_true rfl) (Nat.le_of_ble_eq_true rfl) ?_
  refine v_dup hC dX11_init_163 rfl ?_
  refine v_xvN hC (rest := [.ref q_1113, .int 0, .ref q_129]) rfl mi_X5_init (k_X5 hm_1118 hf_1116) mx_X5_init mn_X11_96 (by decide) rfl (cells1 := 59) (slots1 := 4926) (by decide) (by decide) (Nat.le_of_ble_eq_true rfl) (Nat.le_of_ble_eq_true rfl) rfl (Nat.le_of_ble_eq_true rfl) dX11_init_164 (fun L_1166 f_1167 h_1168 => ?_)
  obtain ⟨hk_1169, q_1170, hm_1171, hf_1172, hm_1173, hf_1174⟩ := h_1168
  have hx_1177 := hk_1169 h hm_1122 (ne_in hm_1023 hq_1115)
  have hm_1175 := hx_1177.1
  have hf_1176 := hx_1177.2.trans hf_1121
  have hx_1180 := hk_1169 q_1 hm_1124 (ne_in hm_1026 hq_1115)
  have hm_1178 := hx_1180.1
  have hf_1179 := hx_1180.2.trans hf_1123
  have hx_1183 := hk_1169 q_16 hm_1126 (ne_in hm_1029 hq_1115)
  have hm_1181 := hx_1183.1
  have hf_1182 := hx_1183.2.trans hf_1125
  have hx_1186 := hk_1169 q_63 hm_1128 (ne_in hm_1032 hq_1115)
  have hm_1184 := hx_1186.1
  have hf_1185 := hx_1186.2.trans hf_1127
  have hx_1189 := hk_1169 q_83 hm_1130 (ne_in hm_1035 hq_1115)
  have hm_1187 := hx_1189.1
  have hf_1188 := hx_1189.2.trans hf_1129
  have hx_1192 := hk_1169 q_104 hm_1132 (ne_in hm_1038 hq_1115)
  have hm_1190 := hx_1192.1
  have hf_1191 := hx_1192.2.trans hf_1131
  have hx_1195 := hk_1169 q_129 hm_1134 (ne_in hm_1041 hq_1115)
  have hm_1193 := hx_1195.1
  have hf_1194 := hx_1195.2.trans hf_1133
  have hx_1198 := hk_1169 q_158 hm_1136 (ne_in hm_1044 hq_1115)
  have hm_1196 := hx_1198.1
  have hf_1197 := hx_1198.2.trans hf_1135
  have hx_1201 := hk_1169 q_185 hm_1138 (ne_in hm_1047 hq_1115)
  have hm_1199 := hx_1201.1
  have hf_1200 := hx_1201.2.trans hf_1137
  have hx_1204 := hk_1169 q_186 hm_1140 (ne_in hm_1050 hq_1115)
  have hm_1202 := hx_1204.1
  have hf_1203 := hx_1204.2.trans hf_1139
  have hx_1207 := hk_1169 q_226 hm_1142 (ne_in hm_1053 hq_1115)
  have hm_1205 := hx_1207.1
  have hf_1206 := hx_1207.2.trans hf_1141
  have hx_1210 := hk_1169 q_267 hm_1144 (ne_in hm_1056 hq_1115)
  have hm_1208 := hx_1210.1
  have hf_1209 := hx_1210.2.trans hf_1143
  have hx_1213 := hk_1169 q_351 hm_1146 (ne_in hm_1059 hq_1115)
  have hm_1211 := hx_1213.1
  have hf_1212 := hx_1213.2.trans hf_1145
  have hx_1216 := hk_1169 q_388 hm_1148 (ne_in hm_1062 hq_1115)
  have hm_1214 := hx_1216.1
  have hf_1215 := hx_1216.2.trans hf_1147
  have hx_1219 := hk_1169 q_445 hm_1150 (ne_in hm_1065 hq_1115)
  have hm_1217 := hx_1219.1
  have hf_1218 := hx_1219.2.trans hf_1149
  have hx_1222 := hk_1169 q_486 hm_1152 (ne_in hm_1068 hq_1115)
  have hm_1220 := hx_1222.1
  have hf_1221 := hx_1222.2.trans hf_1151
  have hx_1225 := hk_1169 q_487 hm_1154 (ne_in hm_1071 hq_1115)
  have hm_1223 := hx_1225.1
  have hf_1224 := hx_1225.2.trans hf_1153
  have hx_1228 := hk_1169 q_488 hm_1156 (ne_in hm_1074 hq_1115)
  have hm_1226 := hx_1228.1
  have hf_1227 := hx_1228.2.trans hf_1155
  have hx_1231 := hk_1169 q_559 hm_1158 (ne_in hm_1077 hq_1115)
  have hm_1229 := hx_1231.1
  have hf_1230 := hx_1231.2.trans hf_1157
  have hx_1234 := hk_1169 q_608 hm_1160 (ne_in hm_1080 hq_1115)
  have hm_1232 := hx_1234.1
  have hf_1233 := hx_1234.2.trans hf_1159
  have hx_1237 := hk_1169 q_824 hm_1162 (ne_in hm_1083 hq_1115)
  have hm_1235 := hx_1237.1
  have hf_1236 := hx_1237.2.trans hf_1161
  have hx_1240 := hk_1169 q_877 hm_1164 (ne_in hm_1086 hq_1115)
  have hm_1238 := hx_1240.1
  have hf_1239 := hx_1240.2.trans hf_1163
  refine v_aast hC (r := (RX5, TX5, 3)) hm_1193 hf_1194 (t := 6) rfl hm_1171 hf_1172 rfl (by unfold vp_in; decide) dX11_init_167 (fun f_1241 hf_1242 hk_1243 => ?_)
  have hf_1242 : f_1241 q_129 = aR E 6 4 (va_up (fun _ => none) 0 (some q_1113)) := hf_1242
  have hf_1244 := (hk_1243 h (ne_kd hf_1176 hf_1194 rfl)).trans hf_1176
  have hf_1245 := (hk_1243 q_1 (ne_kd hf_1179 hf_1194 rfl)).trans hf_1179
  have hf_1246 := (hk_1243 q_16 (ne_kd hf_1182 hf_1194 rfl)).trans hf_1182
  have hf_1247 := (hk_1243 q_63 (ne_kd hf_1185 hf_1194 rfl)).trans hf_1185
  have hf_1248 := (hk_1243 q_83 (ne_kd hf_1188 hf_1194 rfl)).trans hf_1188
  have hf_1249 := (hk_1243 q_104 (ne_kd hf_1191 hf_1194 rfl)).trans hf_1191
  have hf_1250 := (hk_1243 q_158 (ne_kd hf_1197 hf_1194 rfl)).trans hf_1197
  have hf_1251 := (hk_1243 q_185 (ne_kd hf_1200 hf_1194 rfl)).trans hf_1200
  have hf_1252 := (hk_1243 q_186 (ne_kd hf_1203 hf_1194 rfl)).trans hf_1203
  have hf_1253 := (hk_1243 q_226 (ne_kd hf_1206 hf_1194 rfl)).trans hf_1206
  have hf_1254 := (hk_1243 q_267 (ne_kd hf_1209 hf_1194 rfl)).trans hf_1209
  have hf_1255 := (hk_1243 q_351 (ne_kd hf_1212 hf_1194 rfl)).trans hf_1212
  have hf_1256 := (hk_1243 q_388 (ne_kd hf_1215 hf_1194 rfl)).trans hf_1215
  have hf_1257 := (hk_1243 q_445 (ne_kd hf_1218 hf_1194 rfl)).trans hf_1218
  have hf_1258 := (hk_1243 q_486 (ne_kd hf_1221 hf_1194 rfl)).trans hf_1221
  have hf_1259 := (hk_1243 q_487 (ne_kd hf_1224 hf_1194 rfl)).trans hf_1224
  have hf_1260 := (hk_1243 q_488 (ne_kd hf_1227 hf_1194 rfl)).trans hf_1227
  have hf_1261 := (hk_1243 q_559 (ne_kd hf_1230 hf_1194 rfl)).trans hf_1230
  have hf_1262 := (hk_1243 q_608 (ne_kd hf_1233 hf_1194 rfl)).trans hf_1233
  have hf_1263 := (hk_1243 q_824 (ne_kd hf_1236 hf_1194 rfl)).trans hf_1236
  have hf_1264 := (hk_1243 q_877 (ne_kd hf_1239 hf_1194 rfl)).trans hf_1239
  have hf_1265 := (hk_1243 q_1113 (ne_kd hf_1172 hf_1194 rfl)).trans hf_1172
  have hf_1266 := (hk_1243 q_1170 (ne_kd hf_1174 hf_1194 rfl)).trans hf_1174
  refine v_iinc hC dX11_init_168 (k := 0) rfl (v := 1) (by decide) (by decide) (lv' := [(1, .int 1), (0, .ref h)]) rfl ?_
  refine v_goto hC dX11_init_171 (tgt := 150) (by decide) ?_
  refine v_iload_n hC dX11_init_150 rfl ?_
  refine v_iconst hC dX11_init_151 (v := 4) (by decide) ?_
  refine v_icmp_ge_f hC dX11_init_152 (tgt := 174) (by decide) (by decide) ?_
  refine v_aload_n hC dX11_init_155 rfl ?_
  refine v_get hC fl_X11_36 hm_1175 hf_1244 rfl dX11_init_156 ?_
  refine v_iload_n hC dX11_init_159 rfl ?_
  refine v_new hC (ci := 5) (fs := [.null, .int 0, .int 0]) rfl inX5 tyX5_ok kl_X11_34 in_X5 ii_X5 (fun j hj => by rcases (show j = 0 ∨ j = 1 ∨ j = 2 by omega) with rfl | rfl | rfl <;> rfl) (Nat.le_of_ble_eq_true rfl) (Nat.le_of_ble_eq_true rfl) dX11_init_160 (fun q_1267 f_1268 hq_1269 hf_1270 hk_1271 => ?_)
  obtain ⟨L_1274, hs_1273⟩ : ∃ L9, L9 = L_1166 ++ [q_1267] := ⟨_, rfl⟩
  rw [← hs_1273]
  have hm_1272 : q_1267 ∈ L_1274 := by rw [hs_1273]; exact List.mem_append_right _ List.mem_cons_self
  have hm_1276 : h ∈ L_1274 := by rw [hs_1273]; exact List.mem_append_left _ hm_1175
  have hf_1275 := (hk_1271 h (ne_in hm_1175 hq_1269)).trans hf_1244
  have hm_1278 : q_1 ∈ L_1274 := by rw [hs_1273]; exact List.mem_append_left _ hm_1178
  have hf_1277 := (hk_1271 q_1 (ne_in hm_1178 hq_1269)).trans hf_1245
  have hm_1280 : q_16 ∈ L_1274 := by rw [hs_1273]; exact List.mem_append_left _ hm_1181
  have hf_1279 := (hk_1271 q_16 (ne_in hm_1181 hq_1269)).trans hf_1246
  have hm_1282 : q_63 ∈ L_1274 := by rw [hs_1273]; exact List.mem_append_left _ hm_1184
  have hf_1281 := (hk_1271 q_63 (ne_in hm_1184 hq_1269)).trans hf_1247
  have hm_1284 : q_83 ∈ L_1274 := by rw [hs_1273]; exact List.mem_append_left _ hm_1187
  have hf_1283 := (hk_1271 q_83 (ne_in hm_1187 hq_1269)).trans hf_1248
  have hm_1286 : q_104 ∈ L_1274 := by rw [hs_1273]; exact List.mem_append_left _ hm_1190
  have hf_1285 := (hk_1271 q_104 (ne_in hm_1190 hq_1269)).trans hf_1249
  have hm_1288 : q_129 ∈ L_1274 := by rw [hs_1273]; exact List.mem_append_left _ hm_1193
  have hf_1287 := (hk_1271 q_129 (ne_in hm_1193 hq_1269)).trans hf_1242
  have hm_1290 : q_158 ∈ L_1274 := by rw [hs_1273]; exact List.mem_append_left _ hm_1196
  have hf_1289 := (hk_1271 q_158 (ne_in hm_1196 hq_1269)).trans hf_1250
  have hm_1292 : q_185 ∈ L_1274 := by rw [hs_1273]; exact List.mem_append_left _ hm_1199
  have hf_1291 := (hk_1271 q_185 (ne_in hm_1199 hq_1269)).trans hf_1251
  have hm_1294 : q_186 ∈ L_1274 := by rw [hs_1273]; exact List.mem_append_left _ hm_1202
  have hf_1293 := (hk_1271 q_186 (ne_in hm_1202 hq_1269)).trans hf_1252
  have hm_1296 : q_226 ∈ L_1274 := by rw [hs_1273]; exact List.mem_append_left _ hm_1205
  have hf_1295 := (hk_1271 q_226 (ne_in hm_1205 hq_1269)).trans hf_1253
  have hm_1298 : q_267 ∈ L_1274 := by rw [hs_1273]; exact List.mem_append_left _ hm_1208
  have hf_1297 := (hk_1271 q_267 (ne_in hm_1208 hq_1269)).trans hf_1254
  have hm_1300 : q_351 ∈ L_1274 := by rw [hs_1273]; exact List.mem_append_left _ hm_1211
  have hf_1299 := (hk_1271 q_351 (ne_in hm_1211 hq_1269)).trans hf_1255
  have hm_1302 : q_388 ∈ L_1274 := by rw [hs_1273]; exact List.mem_append_left _ hm_1214
  have hf_1301 := (hk_1271 q_388 (ne_in hm_1214 hq_1269)).trans hf_1256
  have hm_1304 : q_445 ∈ L_1274 := by rw [hs_1273]; exact List.mem_append_left _ hm_1217
  have hf_1303 := (hk_1271 q_445 (ne_in hm_1217 hq_1269)).trans hf_1257
  have hm_1306 : q_486 ∈ L_1274 := by rw [hs_1273]; exact List.mem_append_left _ hm_1220
  have hf_1305 := (hk_1271 q_486 (ne_in hm_1220 hq_1269)).trans hf_1258
  have hm_1308 : q_487 ∈ L_1274 := by rw [hs_1273]; exact List.mem_append_left _ hm_1223
  have hf_1307 := (hk_1271 q_487 (ne_in hm_1223 hq_1269)).trans hf_1259
  have hm_1310 : q_488 ∈ L_1274 := by rw [hs_1273]; exact List.mem_append_left _ hm_1226
  have hf_1309 := (hk_1271 q_488 (ne_in hm_1226 hq_1269)).trans hf_1260
  have hm_1312 : q_559 ∈ L_1274 := by rw [hs_1273]; exact List.mem_append_left _ hm_1229
  have hf_1311 := (hk_1271 q_559 (ne_in hm_1229 hq_1269)).trans hf_1261
  have hm_1314 : q_608 ∈ L_1274 := by rw [hs_1273]; exact List.mem_append_left _ hm_1232
  have hf_1313 := (hk_1271 q_608 (ne_in hm_1232 hq_1269)).trans hf_1262
  have hm_1316 : q_824 ∈ L_1274 := by rw [hs_1273]; exact List.mem_append_left _ hm_1235
  have hf_1315 := (hk_1271 q_824 (ne_in hm_1235 hq_1269)).trans hf_1263
  have hm_1318 : q_877 ∈ L_1274 := by rw [hs_1273]; exact List.mem_append_left _ hm_1238
  have hf_1317 := (hk_1271 q_877 (ne_in hm_1238 hq_1269)).trans hf_1264
  have hm_1320 : q_1113 ∈ L_1274 := by rw [hs_1273]; exact List.mem_append_left _ hm_1171
  have hf_1319 := (hk_1271 q_1113 (ne_in hm_1171 hq_1269)).trans hf_1265
  have hm_1322 : q_1170 ∈ L_1274 := by rw [hs_1273]; exact List.mem_append_left _ hm_1173
  have hf_1321 := (hk_1271 q_1170 (ne_in hm_1173 hq_1269)).trans hf_1266
  refine v_widen (k := 60) (n := 4929) (Nat.le_of_ble_eq_true rfl) (Nat.le_of_ble_eq_true rfl) ?_
  refine v_dup hC dX11_init_163 rfl ?_
  refine v_xvN hC (rest := [.ref q_1267, .int 1, .ref q_129]) rfl mi_X5_init (k_X5 hm_1272 hf_1270) mx_X5_init mn_X11_96 (by decide) rfl (cells1 := 61) (slots1 := 4989) (by decide) (by decide) (Nat.le_of_ble_eq_true rfl) (Nat.le_of_ble_eq_true rfl) rfl (Nat.le_of_ble_eq_true rfl) dX11_init_164 (fun L_1324 f_1325 h_1326 => ?_)
  obtain ⟨hk_1327, q_1328, hm_1329, hf_1330, hm_1331, hf_1332⟩ := h_1326
  have hx_1335 := hk_1327 h hm_1276 (ne_in hm_1175 hq_1269)
  have hm_1333 := hx_1335.1
  have hf_1334 := hx_1335.2.trans hf_1275
  have hx_1338 := hk_1327 q_1 hm_1278 (ne_in hm_1178 hq_1269)
  have hm_1336 := hx_1338.1
  have hf_1337 := hx_1338.2.trans hf_1277
  have hx_1341 := hk_1327 q_16 hm_1280 (ne_in hm_1181 hq_1269)
  have hm_1339 := hx_1341.1
  have hf_1340 := hx_1341.2.trans hf_1279
  have hx_1344 := hk_1327 q_63 hm_1282 (ne_in hm_1184 hq_1269)
  have hm_1342 := hx_1344.1
  have hf_1343 := hx_1344.2.trans hf_1281
  have hx_1347 := hk_1327 q_83 hm_1284 (ne_in hm_1187 hq_1269)
  have hm_1345 := hx_1347.1
  have hf_1346 := hx_1347.2.trans hf_1283
  have hx_1350 := hk_1327 q_104 hm_1286 (ne_in hm_1190 hq_1269)
  have hm_1348 := hx_1350.1
  have hf_1349 := hx_1350.2.trans hf_1285
  have hx_1353 := hk_1327 q_129 hm_1288 (ne_in hm_1193 hq_1269)
  have hm_1351 := hx_1353.1
  have hf_1352 := hx_1353.2.trans hf_1287
  have hx_1356 := hk_1327 q_158 hm_1290 (ne_in hm_1196 hq_1269)
  have hm_1354 := hx_1356.1
  have hf_1355 := hx_1356.2.trans hf_1289
  have hx_1359 := hk_1327 q_185 hm_1292 (ne_in hm_1199 hq_1269)
  have hm_1357 := hx_1359.1
  have hf_1358 := hx_1359.2.trans hf_1291
  have hx_1362 := hk_1327 q_186 hm_1294 (ne_in hm_1202 hq_1269)
  have hm_1360 := hx_1362.1
  have hf_1361 := hx_1362.2.trans hf_1293
  have hx_1365 := hk_1327 q_226 hm_1296 (ne_in hm_1205 hq_1269)
  have hm_1363 := hx_1365.1
  have hf_1364 := hx_1365.2.trans hf_1295
  have hx_1368 := hk_1327 q_267 hm_1298 (ne_in hm_1208 hq_1269)
  have hm_1366 := hx_1368.1
  have hf_1367 := hx_1368.2.trans hf_1297
  have hx_1371 := hk_1327 q_351 hm_1300 (ne_in hm_1211 hq_1269)
  have hm_1369 := hx_1371.1
  have hf_1370 := hx_1371.2.trans hf_1299
  have hx_1374 := hk_1327 q_388 hm_1302 (ne_in hm_1214 hq_1269)
  have hm_1372 := hx_1374.1
  have hf_1373 := hx_1374.2.trans hf_1301
  have hx_1377 := hk_1327 q_445 hm_1304 (ne_in hm_1217 hq_1269)
  have hm_1375 := hx_1377.1
  have hf_1376 := hx_1377.2.trans hf_1303
  have hx_1380 := hk_1327 q_486 hm_1306 (ne_in hm_1220 hq_1269)
  have hm_1378 := hx_1380.1
  have hf_1379 := hx_1380.2.trans hf_1305
  have hx_1383 := hk_1327 q_487 hm_1308 (ne_in hm_1223 hq_1269)
  have hm_1381 := hx_1383.1
  have hf_1382 := hx_1383.2.trans hf_1307
  have hx_1386 := hk_1327 q_488 hm_1310 (ne_in hm_1226 hq_1269)
  have hm_1384 := hx_1386.1
  have hf_1385 := hx_1386.2.trans hf_1309
  have hx_1389 := hk_1327 q_559 hm_1312 (ne_in hm_1229 hq_1269)
  have hm_1387 := hx_1389.1
  have hf_1388 := hx_1389.2.trans hf_1311
  have hx_1392 := hk_1327 q_608 hm_1314 (ne_in hm_1232 hq_1269)
  have hm_1390 := hx_1392.1
  have hf_1391 := hx_1392.2.trans hf_1313
  have hx_1395 := hk_1327 q_824 hm_1316 (ne_in hm_1235 hq_1269)
  have hm_1393 := hx_1395.1
  have hf_1394 := hx_1395.2.trans hf_1315
  have hx_1398 := hk_1327 q_877 hm_1318 (ne_in hm_1238 hq_1269)
  have hm_1396 := hx_1398.1
  have hf_1397 := hx_1398.2.trans hf_1317
  have hx_1401 := hk_1327 q_1113 hm_1320 (ne_in hm_1171 hq_1269)
  have hm_1399 := hx_1401.1
  have hf_1400 := hx_1401.2.trans hf_1319
  have hx_1404 := hk_1327 q_1170 hm_1322 (ne_in hm_1173 hq_1269)
  have hm_1402 := hx_1404.1
  have hf_1403 := hx_1404.2.trans hf_1321
  refine v_aast hC (r := (RX5, TX5, 3)) hm_1351 hf_1352 (t := 6) rfl hm_1329 hf_1330 rfl (by unfold vp_in; decide) dX11_init_167 (fun f_1405 hf_1406 hk_1407 => ?_)
  have hf_1406 : f_1405 q_129 = aR E 6 4 (va_up (va_up (fun _ => none) 0 (some q_1113)) 1 (some q_1267)) := hf_1406
  have hf_1408 := (hk_1407 h (ne_kd hf_1334 hf_1352 rfl)).trans hf_1334
  have hf_1409 := (hk_1407 q_1 (ne_kd hf_1337 hf_1352 rfl)).trans hf_1337
  have hf_1410 := (hk_1407 q_16 (ne_kd hf_1340 hf_1352 rfl)).trans hf_1340
  have hf_1411 := (hk_1407 q_63 (ne_kd hf_1343 hf_1352 rfl)).trans hf_1343
  have hf_1412 := (hk_1407 q_83 (ne_kd hf_1346 hf_1352 rfl)).trans hf_1346
  have hf_1413 := (hk_1407 q_104 (ne_kd hf_1349 hf_1352 rfl)).trans hf_1349
  have hf_1414 := (hk_1407 q_158 (ne_kd hf_1355 hf_1352 rfl)).trans hf_1355
  have hf_1415 := (hk_1407 q_185 (ne_kd hf_1358 hf_1352 rfl)).trans hf_1358
  have hf_1416 := (hk_1407 q_186 (ne_kd hf_1361 hf_1352 rfl)).trans hf_1361
  have hf_1417 := (hk_1407 q_226 (ne_kd hf_1364 hf_1352 rfl)).trans hf_1364
  have hf_1418 := (hk_1407 q_267 (ne_kd hf_1367 hf_1352 rfl)).trans hf_1367
  have hf_1419 := (hk_1407 q_351 (ne_kd hf_1370 hf_1352 rfl)).trans hf_1370
  have hf_1420 := (hk_1407 q_388 (ne_kd hf_1373 hf_1352 rfl)).trans hf_1373
  have hf_1421 := (hk_1407 q_445 (ne_kd hf_1376 hf_1352 rfl)).trans hf_1376
  have hf_1422 := (hk_1407 q_486 (ne_kd hf_1379 hf_1352 rfl)).trans hf_1379
  have hf_1423 := (hk_1407 q_487 (ne_kd hf_1382 hf_1352 rfl)).trans hf_1382
  have hf_1424 := (hk_1407 q_488 (ne_kd hf_1385 hf_1352 rfl)).trans hf_1385
  have hf_1425 := (hk_1407 q_559 (ne_kd hf_1388 hf_1352 rfl)).trans hf_1388
  have hf_1426 := (hk_1407 q_608 (ne_kd hf_1391 hf_1352 rfl)).trans hf_1391
  have hf_1427 := (hk_1407 q_824 (ne_kd hf_1394 hf_1352 rfl)).trans hf_1394
  have hf_1428 := (hk_1407 q_877 (ne_kd hf_1397 hf_1352 rfl)).trans hf_1397
  have hf_1429 := (hk_1407 q_1113 (ne_kd hf_1400 hf_1352 rfl)).trans hf_1400
  have hf_1430 := (hk_1407 q_1170 (ne_kd hf_1403 hf_1352 rfl)).trans hf_1403
  have hf_1431 := (hk_1407 q_1267 (ne_kd hf_1330 hf_1352 rfl)).trans hf_1330
  have hf_1432 := (hk_1407 q_1328 (ne_kd hf_1332 hf_1352 rfl)).trans hf_1332
  refine v_iinc hC dX11_init_168 (k := 0) rfl (v := 2) (by decide) (by decide) (lv' := [(1, .int 2), (0, .ref h)]) rfl ?_
  refine v_goto hC dX11_init_171 (tgt := 150) (by decide) ?_
  refine v_iload_n hC dX11_init_150 rfl ?_
  refine v_iconst hC dX11_init_151 (v := 4) (by decide) ?_
  refine v_icmp_ge_f hC dX11_init_152 (tgt := 174) (by decide) (by decide) ?_
  refine v_aload_n hC dX11_init_155 rfl ?_
  refine v_get hC fl_X11_36 hm_1333 hf_1408 rfl dX11_init_156 ?_
  refine v_iload_n hC dX11_init_159 rfl ?_
  refine v_new hC (ci := 5) (fs := [.null, .int 0, .int 0]) rfl inX5 tyX5_ok kl_X11_34 in_X5 ii_X5 (fun j hj => by rcases (show j = 0 ∨ j = 1 ∨ j = 2 by omega) with rfl | rfl | rfl <;> rfl) (Nat.le_of_ble_eq_true rfl) (Nat.le_of_ble_eq_true rfl) dX11_init_160 (fun q_1433 f_1434 hq_1435 hf_1436 hk_1437 => ?_)
  obtain ⟨L_1440, hs_1439⟩ : ∃ L9, L9 = L_1324 ++ [q_1433] := ⟨_, rfl⟩
  rw [← hs_1439]
  have hm_1438 : q_1433 ∈ L_1440 := by rw [hs_1439]; exact List.mem_append_right _ List.mem_cons_self
  have hm_1442 : h ∈ L_1440 := by rw [hs_1439]; exact List.mem_append_left _ hm_1333
  have hf_1441 := (hk_1437 h (ne_in hm_1333 hq_1435)).trans hf_1408
  have hm_1444 : q_1 ∈ L_1440 := by rw [hs_1439]; exact List.mem_append_left _ hm_1336
  have hf_1443 := (hk_1437 q_1 (ne_in hm_1336 hq_1435)).trans hf_1409
  have hm_1446 : q_16 ∈ L_1440 := by rw [hs_1439]; exact List.mem_append_left _ hm_1339
  have hf_1445 := (hk_1437 q_16 (ne_in hm_1339 hq_1435)).trans hf_1410
  have hm_1448 : q_63 ∈ L_1440 := by rw [hs_1439]; exact List.mem_append_left _ hm_1342
  have hf_1447 := (hk_1437 q_63 (ne_in hm_1342 hq_1435)).trans hf_1411
  have hm_1450 : q_83 ∈ L_1440 := by rw [hs_1439]; exact List.mem_append_left _ hm_1345
  have hf_1449 := (hk_1437 q_83 (ne_in hm_1345 hq_1435)).trans hf_1412
  have hm_1452 : q_104 ∈ L_1440 := by rw [hs_1439]; exact List.mem_append_left _ hm_1348
  have hf_1451 := (hk_1437 q_104 (ne_in hm_1348 hq_1435)).trans hf_1413
  have hm_1454 : q_129 ∈ L_1440 := by rw [hs_1439]; exact List.mem_append_left _ hm_1351
  have hf_1453 := (hk_1437 q_129 (ne_in hm_1351 hq_1435)).trans hf_1406
  have hm_1456 : q_158 ∈ L_1440 := by rw [hs_1439]; exact List.mem_append_left _ hm_1354
  have hf_1455 := (hk_1437 q_158 (ne_in hm_1354 hq_1435)).trans hf_1414
  have hm_1458 : q_185 ∈ L_1440 := by rw [hs_1439]; exact List.mem_append_left _ hm_1357
  have hf_1457 := (hk_1437 q_185 (ne_in hm_1357 hq_1435)).trans hf_1415
  have hm_1460 : q_186 ∈ L_1440 := by rw [hs_1439]; exact List.mem_append_left _ hm_1360
  have hf_1459 := (hk_1437 q_186 (ne_in hm_1360 hq_1435)).trans hf_1416
  have hm_1462 : q_226 ∈ L_1440 := by rw [hs_1439]; exact List.mem_append_left _ hm_1363
  have hf_1461 := (hk_1437 q_226 (ne_in hm_1363 hq_1435)).trans hf_1417
  have hm_1464 : q_267 ∈ L_1440 := by rw [hs_1439]; exact List.mem_append_left _ hm_1366
  have hf_1463 := (hk_1437 q_267 (ne_in hm_1366 hq_1435)).trans hf_1418
  have hm_1466 : q_351 ∈ L_1440 := by rw [hs_1439]; exact List.mem_append_left _ hm_1369
  have hf_1465 := (hk_1437 q_351 (ne_in hm_1369 hq_1435)).trans hf_1419
  have hm_1468 : q_388 ∈ L_1440 := by rw [hs_1439]; exact List.mem_append_left _ hm_1372
  have hf_1467 := (hk_1437 q_388 (ne_in hm_1372 hq_1435)).trans hf_1420
  have hm_1470 : q_445 ∈ L_1440 := by rw [hs_1439]; exact List.mem_append_left _ hm_1375
  have hf_1469 := (hk_1437 q_445 (ne_in hm_1375 hq_1435)).trans hf_1421
  have hm_1472 : q_486 ∈ L_1440 := by rw [hs_1439]; exact List.mem_append_left _ hm_1378
  have hf_1471 := (hk_1437 q_486 (ne_in hm_1378 hq_1435)).trans hf_1422
  have hm_1474 : q_487 ∈ L_1440 := by rw [hs_1439]; exact List.mem_append_left _ hm_1381
  have hf_1473 := (hk_1437 q_487 (ne_in hm_1381 hq_1435)).trans hf_1423
  have hm_1476 : q_488 ∈ L_1440 := by rw [hs_1439]; exact List.mem_append_left _ hm_1384
  have hf_1475 := (hk_1437 q_488 (ne_in hm_1384 hq_1435)).trans hf_1424
  have hm_1478 : q_559 ∈ L_1440 := by rw [hs_1439]; exact List.mem_append_left _ hm_1387
  have hf_1477 := (hk_1437 q_559 (ne_in hm_1387 hq_1435)).trans hf_1425
  have hm_1480 : q_608 ∈ L_1440 := by rw [hs_1439]; exact List.mem_append_left _ hm_1390
  have hf_1479 := (hk_1437 q_608 (ne_in hm_1390 hq_1435)).trans hf_1426
  have hm_1482 : q_824 ∈ L_1440 := by rw [hs_1439]; exact List.mem_append_left _ hm_1393
  have hf_1481 := (hk_1437 q_824 (ne_in hm_1393 hq_1435)).trans hf_1427
  have hm_1484 : q_877 ∈ L_1440 := by rw [hs_1439]; exact List.mem_append_left _ hm_1396
  have hf_1483 := (hk_1437 q_877 (ne_in hm_1396 hq_1435)).trans hf_1428
  have hm_1486 : q_1113 ∈ L_1440 := by rw [hs_1439]; exact List.mem_append_left _ hm_1399
  have hf_1485 := (hk_1437 q_1113 (ne_in hm_1399 hq_1435)).trans hf_1429
  have hm_1488 : q_1170 ∈ L_1440 := by rw [hs_1439]; exact List.mem_append_left _ hm_1402
  have hf_1487 := (hk_1437 q_1170 (ne_in hm_1402 hq_1435)).trans hf_1430
  have hm_1490 : q_1267 ∈ L_1440 := by rw [hs_1439]; exact List.mem_append_left _ hm_1329
  have hf_1489 := (hk_1437 q_1267 (ne_in hm_1329 hq_1435)).trans hf_1431
  have hm_1492 : q_1328 ∈ L_1440 := by rw [hs_1439]; exact List.mem_append_left _ hm_1331
  have hf_1491 := (hk_1437 q_1328 (ne_in hm_1331 hq_1435)).trans hf_1432
  refine v_widen (k := 62) (n := 4992) (Nat.le_of_ble_eq_true rfl) (Nat.le_of_ble_eq_true rfl) ?_
  refine v_dup hC dX11_init_163 rfl ?_
  refine v_xvN hC (rest := [.ref q_1433, .int 2, .ref q_129]) rfl mi_X5_init (k_X5 hm_1438 hf_1436) mx_X5_init mn_X11_96 (by decide) rfl (cells1 := 63) (slots1 := 5052) (by decide) (by decide) (Nat.le_of_ble_eq_true rfl) (Nat.le_of_ble_eq_true rfl) rfl (Nat.le_of_ble_eq_true rfl) dX11_init_164 (fun L_1494 f_1495 h_1496 => ?_)
  obtain ⟨hk_1497, q_1498, hm_1499, hf_1500, hm_1501, hf_1502⟩ := h_1496
  have hx_1505 := hk_1497 h hm_1442 (ne_in hm_1333 hq_1435)
  have hm_1503 := hx_1505.1
  have hf_1504 := hx_1505.2.trans hf_1441
  have hx_1508 := hk_1497 q_1 hm_1444 (ne_in hm_1336 hq_1435)
  have hm_1506 := hx_1508.1
  have hf_1507 := hx_1508.2.trans hf_1443
  have hx_1511 := hk_1497 q_16 hm_1446 (ne_in hm_1339 hq_1435)
  have hm_1509 := hx_1511.1
  have hf_1510 := hx_1511.2.trans hf_1445
  have hx_1514 := hk_1497 q_63 hm_1448 (ne_in hm_1342 hq_1435)
  have hm_1512 := hx_1514.1
  have hf_1513 := hx_1514.2.trans hf_1447
  have hx_1517 := hk_1497 q_83 hm_1450 (ne_in hm_1345 hq_1435)
  have hm_1515 := hx_1517.1
  have hf_1516 := hx_1517.2.trans hf_1449
  have hx_1520 := hk_1497 q_104 hm_1452 (ne_in hm_1348 hq_1435)
  have hm_1518 := hx_1520.1
  have hf_1519 := hx_1520.2.trans hf_1451
  have hx_1523 := hk_1497 q_129 hm_1454 (ne_in hm_1351 hq_1435)
  have hm_1521 := hx_1523.1
  have hf_1522 := hx_1523.2.trans hf_1453
  have hx_1526 := hk_1497 q_158 hm_1456 (ne_in hm_1354 hq_1435)
  have hm_1524 := hx_1526.1
  have hf_1525 := hx_1526.2.trans hf_1455
  have hx_1529 := hk_1497 q_185 hm_1458 (ne_in hm_1357 hq_1435)
  have hm_1527 := hx_1529.1
  have hf_1528 := hx_1529.2.trans hf_1457
  have hx_1532 := hk_1497 q_186 hm_1460 (ne_in hm_1360 hq_1435)
  have hm_1530 := hx_1532.1
  have hf_1531 := hx_1532.2.trans hf_1459
  have hx_1535 := hk_1497 q_226 hm_1462 (ne_in hm_1363 hq_1435)
  have hm_1533 := hx_1535.1
  have hf_1534 := hx_1535.2.trans hf_1461
  have hx_1538 := hk_1497 q_267 hm_1464 (ne_in hm_1366 hq_1435)
  have hm_1536 := hx_1538.1
  have hf_1537 := hx_1538.2.trans hf_1463
  have hx_1541 := hk_1497 q_351 hm_1466 (ne_in hm_1369 hq_1435)
  have hm_1539 := hx_1541.1
  have hf_1540 := hx_1541.2.trans hf_1465
  have hx_1544 := hk_1497 q_388 hm_1468 (ne_in hm_1372 hq_1435)
  have hm_1542 := hx_1544.1
  have hf_1543 := hx_1544.2.trans hf_1467
  have hx_1547 := hk_1497 q_445 hm_1470 (ne_in hm_1375 hq_1435)
  have hm_1545 := hx_1547.1
  have hf_1546 := hx_1547.2.trans hf_1469
  have hx_1550 := hk_1497 q_486 hm_1472 (ne_in hm_1378 hq_1435)
  have hm_1548 := hx_1550.1
  have hf_1549 := hx_1550.2.trans hf_1471
  have hx_1553 := hk_1497 q_487 hm_1474 (ne_in hm_1381 hq_1435)
  have hm_1551 := hx_1553.1
  have hf_1552 := hx_1553.2.trans hf_1473
  have hx_1556 := hk_1497 q_488 hm_1476 (ne_in hm_1384 hq_1435)
  have hm_1554 := hx_1556.1
  have hf_1555 := hx_1556.2.trans hf_1475
  have hx_1559 := hk_1497 q_559 hm_1478 (ne_in hm_1387 hq_1435)
  have hm_1557 := hx_1559.1
  have hf_1558 := hx_1559.2.trans hf_1477
  have hx_1562 := hk_1497 q_608 hm_1480 (ne_in hm_1390 hq_1435)
  have hm_1560 := hx_1562.1
  have hf_1561 := hx_1562.2.trans hf_1479
  have hx_1565 := hk_1497 q_824 hm_1482 (ne_in hm_1393 hq_1435)
  have hm_1563 := hx_1565.1
  have hf_1564 := hx_1565.2.trans hf_1481
  have hx_1568 := hk_1497 q_877 hm_1484 (ne_in hm_1396 hq_1435)
  have hm_1566 := hx_1568.1
  have hf_1567 := hx_1568.2.trans hf_1483
  have hx_1571 := hk_1497 q_1113 hm_1486 (ne_in hm_1399 hq_1435)
  have hm_1569 := hx_1571.1
  have hf_1570 := hx_1571.2.trans hf_1485
  have hx_1574 := hk_1497 q_1170 hm_1488 (ne_in hm_1402 hq_1435)
  have hm_1572 := hx_1574.1
  have hf_1573 := hx_1574.2.trans hf_1487
  have hx_1577 := hk_1497 q_1267 hm_1490 (ne_in hm_1329 hq_1435)
  have hm_1575 := hx_1577.1
  have hf_1576 := hx_1577.2.trans hf_1489
  have hx_1580 := hk_1497 q_1328 hm_1492 (ne_in hm_1331 hq_1435)
  have hm_1578 := hx_1580.1
  have hf_1579 := hx_1580.2.trans hf_1491
  refine v_aast hC (r := (RX5, TX5, 3)) hm_1521 hf_1522 (t := 6) rfl hm_1499 hf_1500 rfl (by unfold vp_in; decide) dX11_init_167 (fun f_1581 hf_1582 hk_1583 => ?_)
  have hf_1582 : f_1581 q_129 = aR E 6 4 (va_up (va_up (va_up (fun _ => none) 0 (some q_1113)) 1 (some q_1267)) 2 (some q_1433)) := hf_1582
  have hf_1584 := (hk_1583 h (ne_kd hf_1504 hf_1522 rfl)).trans hf_1504
  have hf_1585 := (hk_1583 q_1 (ne_kd hf_1507 hf_1522 rfl)).trans hf_1507
  have hf_1586 := (hk_1583 q_16 (ne_kd hf_1510 hf_1522 rfl)).trans hf_1510
  have hf_1587 := (hk_1583 q_63 (ne_kd hf_1513 hf_1522 rfl)).trans hf_1513
  have hf_1588 := (hk_1583 q_83 (ne_kd hf_1516 hf_1522 rfl)).trans hf_1516
  have hf_1589 := (hk_1583 q_104 (ne_kd hf_1519 hf_1522 rfl)).trans hf_1519
  have hf_1590 := (hk_1583 q_158 (ne_kd hf_1525 hf_1522 rfl)).trans hf_1525
  have hf_1591 := (hk_1583 q_185 (ne_kd hf_1528 hf_1522 rfl)).trans hf_1528
  have hf_1592 := (hk_1583 q_186 (ne_kd hf_1531 hf_1522 rfl)).trans hf_1531
  have hf_1593 := (hk_1583 q_226 (ne_kd hf_1534 hf_1522 rfl)).trans hf_1534
  have hf_1594 := (hk_1583 q_267 (ne_kd hf_1537 hf_1522 rfl)).trans hf_1537
  have hf_1595 := (hk_1583 q_351 (ne_kd hf_1540 hf_1522 rfl)).trans hf_1540
  have hf_1596 := (hk_1583 q_388 (ne_kd hf_1543 hf_1522 rfl)).trans hf_1543
  have hf_1597 := (hk_1583 q_445 (ne_kd hf_1546 hf_1522 rfl)).trans hf_1546
  have hf_1598 := (hk_1583 q_486 (ne_kd hf_1549 hf_1522 rfl)).trans hf_1549
  have hf_1599 := (hk_1583 q_487 (ne_kd hf_1552 hf_1522 rfl)).trans hf_1552
  have hf_1600 := (hk_1583 q_488 (ne_kd hf_1555 hf_1522 rfl)).trans hf_1555
  have hf_1601 := (hk_1583 q_559 (ne_kd hf_1558 hf_1522 rfl)).trans hf_1558
  have hf_1602 := (hk_1583 q_608 (ne_kd hf_1561 hf_1522 rfl)).trans hf_1561
  have hf_1603 := (hk_1583 q_824 (ne_kd hf_1564 hf_1522 rfl)).trans hf_1564
  have hf_1604 := (hk_1583 q_877 (ne_kd hf_1567 hf_1522 rfl)).trans hf_1567
  have hf_1605 := (hk_1583 q_1113 (ne_kd hf_1570 hf_1522 rfl)).trans hf_1570
  have hf_1606 := (hk_1583 q_1170 (ne_kd hf_1573 hf_1522 rfl)).trans hf_1573
  have hf_1607 := (hk_1583 q_1267 (ne_kd hf_1576 hf_1522 rfl)).trans hf_1576
  have hf_1608 := (hk_1583 q_1328 (ne_kd hf_1579 hf_1522 rfl)).trans hf_1579
  have hf_1609 := (hk_1583 q_1433 (ne_kd hf_1500 hf_1522 rfl)).trans hf_1500
  have hf_1610 := (hk_1583 q_1498 (ne_kd hf_1502 hf_1522 rfl)).trans hf_1502
  refine v_iinc hC dX11_init_168 (k := 0) rfl (v := 3) (by decide) (by decide) (lv' := [(1, .int 3), (0, .ref h)]) rfl ?_
  refine v_goto hC dX11_init_171 (tgt := 150) (by decide) ?_
  refine v_iload_n hC dX11_init_150 rfl ?_
  refine v_iconst hC dX11_init_151 (v := 4) (by decide) ?_
  refine v_icmp_ge_f hC dX11_init_152 (tgt := 174) (by decide) (by decide) ?_
  refine v_aload_n hC dX11_init_155 rfl ?_
  refine v_get hC fl_X11_36 hm_1503 hf_1584 rfl dX11_init_156 ?_
  refine v_iload_n hC dX11_init_159 rfl ?_
  refine v_new hC (ci := 5) (fs := [.null, .int 0, .int 0]) rfl inX5 tyX5_ok kl_X11_34 in_X5 ii_X5 (fun j hj => by rcases (show j = 0 ∨ j = 1 ∨ j = 2 by omega) with rfl | rfl | rfl <;> rfl) (Nat.le_of_ble_eq_true rfl) (Nat.le_of_ble_eq_true rfl) dX11_init_160 (fun q_1611 f_1612 hq_1613 hf_1614 hk_1615 => ?_)
  obtain ⟨L_1618, hs_1617⟩ : ∃ L9, L9 = L_1494 ++ [q_1611] := ⟨_, rfl⟩
  rw [← hs_1617]
  have hm_1616 : q_1611 ∈ L_1618 := by rw [hs_1617]; exact List.mem_append_right _ List.mem_cons_self
  have hm_1620 : h ∈ L_1618 := by rw [hs_1617]; exact List.mem_append_left _ hm_1503
  have hf_1619 := (hk_1615 h (ne_in hm_1503 hq_1613)).trans hf_1584
  have hm_1622 : q_1 ∈ L_1618 := by rw [hs_1617]; exact List.mem_append_left _ hm_1506
  have hf_1621 := (hk_1615 q_1 (ne_in hm_1506 hq_1613)).trans hf_1585
  have hm_1624 : q_16 ∈ L_1618 := by rw [hs_1617]; exact List.mem_append_left _ hm_1509
  have hf_1623 := (hk_1615 q_16 (ne_in hm_1509 hq_1613)).trans hf_1586
  have hm_1626 : q_63 ∈ L_1618 := by rw [hs_1617]; exact List.mem_append_left _ hm_1512
  have hf_1625 := (hk_1615 q_63 (ne_in hm_1512 hq_1613)).trans hf_1587
  have hm_1628 : q_83 ∈ L_1618 := by rw [hs_1617]; exact List.mem_append_left _ hm_1515
  have hf_1627 := (hk_1615 q_83 (ne_in hm_1515 hq_1613)).trans hf_1588
  have hm_1630 : q_104 ∈ L_1618 := by rw [hs_1617]; exact List.mem_append_left _ hm_1518
  have hf_1629 := (hk_1615 q_104 (ne_in hm_1518 hq_1613)).trans hf_1589
  have hm_1632 : q_129 ∈ L_1618 := by rw [hs_1617]; exact List.mem_append_left _ hm_1521
  have hf_1631 := (hk_1615 q_129 (ne_in hm_1521 hq_1613)).trans hf_1582
  have hm_1634 : q_158 ∈ L_1618 := by rw [hs_1617]; exact List.mem_append_left _ hm_1524
  have hf_1633 := (hk_1615 q_158 (ne_in hm_1524 hq_1613)).trans hf_1590
  have hm_1636 : q_185 ∈ L_1618 := by rw [hs_1617]; exact List.mem_append_left _ hm_1527
  have hf_1635 := (hk_1615 q_185 (ne_in hm_1527 hq_1613)).trans hf_1591
  have hm_1638 : q_186 ∈ L_1618 := by rw [hs_1617]; exact List.mem_append_left _ hm_1530
  have hf_1637 := (hk_1615 q_186 (ne_in hm_1530 hq_1613)).trans hf_1592
  have hm_1640 : q_226 ∈ L_1618 := by rw [hs_1617]; exact List.mem_append_left _ hm_1533
  have hf_1639 := (hk_1615 q_226 (ne_in hm_1533 hq_1613)).trans hf_1593
  have hm_1642 : q_267 ∈ L_1618 := by rw [hs_1617]; exact List.mem_append_left _ hm_1536
  have hf_1641 := (hk_1615 q_267 (ne_in hm_1536 hq_1613)).trans hf_1594
  have hm_1644 : q_351 ∈ L_1618 := by rw [hs_1617]; exact List.mem_append_left _ hm_1539
  have hf_1643 := (hk_1615 q_351 (ne_in hm_1539 hq_1613)).trans hf_1595
  have hm_1646 : q_388 ∈ L_1618 := by rw [hs_1617]; exact List.mem_append_left _ hm_1542
  have hf_1645 := (hk_1615 q_388 (ne_in hm_1542 hq_1613)).trans hf_1596
  have hm_1648 : q_445 ∈ L_1618 := by rw [hs_1617]; exact List.mem_append_left _ hm_1545
  have hf_1647 := (hk_1615 q_445 (ne_in hm_1545 hq_1613)).trans hf_1597
  have hm_1650 : q_486 ∈ L_1618 := by rw [hs_1617]; exact List.mem_append_left _ hm_1548
  have hf_1649 := (hk_1615 q_486 (ne_in hm_1548 hq_1613)).trans hf_1598
  have hm_1652 : q_487 ∈ L_1618 := by rw [hs_1617]; exact List.mem_append_left _ hm_1551
  have hf_1651 := (hk_1615 q_487 (ne_in hm_1551 hq_1613)).trans hf_1599
  have hm_1654 : q_488 ∈ L_1618 := by rw [hs_1617]; exact List.mem_append_left _ hm_1554
  have hf_1653 := (hk_1615 q_488 (ne_in hm_1554 hq_1613)).trans hf_1600
  have hm_1656 : q_559 ∈ L_1618 := by rw [hs_1617]; exact List.mem_append_left _ hm_1557
  have hf_1655 := (hk_1615 q_559 (ne_in hm_1557 hq_1613)).trans hf_1601
  have hm_1658 : q_608 ∈ L_1618 := by rw [hs_1617]; exact List.mem_append_left _ hm_1560
  have hf_1657 := (hk_1615 q_608 (ne_in hm_1560 hq_1613)).trans hf_1602
  have hm_1660 : q_824 ∈ L_1618 := by rw [hs_1617]; exact List.mem_append_left _ hm_1563
  have hf_1659 := (hk_1615 q_824 (ne_in hm_1563 hq_1613)).trans hf_1603
  have hm_1662 : q_877 ∈ L_1618 := by rw [hs_1617]; exact List.mem_append_left _ hm_1566
  have hf_1661 := (hk_1615 q_877 (ne_in hm_1566 hq_1613)).trans hf_1604
  have hm_1664 : q_1113 ∈ L_1618 := by rw [hs_1617]; exact List.mem_append_left _ hm_1569
  have hf_1663 := (hk_1615 q_1113 (ne_in hm_1569 hq_1613)).trans hf_1605
  have hm_1666 : q_1170 ∈ L_1618 := by rw [hs_1617]; exact List.mem_append_left _ hm_1572
  have hf_1665 := (hk_1615 q_1170 (ne_in hm_1572 hq_1613)).trans hf_1606
  have hm_1668 : q_1267 ∈ L_1618 := by rw [hs_1617]; exact List.mem_append_left _ hm_1575
  have hf_1667 := (hk_1615 q_1267 (ne_in hm_1575 hq_1613)).trans hf_1607
  have hm_1670 : q_1328 ∈ L_1618 := by rw [hs_1617]; exact List.mem_append_left _ hm_1578
  have hf_1669 := (hk_1615 q_1328 (ne_in hm_1578 hq_1613)).trans hf_1608
  have hm_1672 : q_1433 ∈ L_1618 := by rw [hs_1617]; exact List.mem_append_left _ hm_1499
  have hf_1671 := (hk_1615 q_1433 (ne_in hm_1499 hq_1613)).trans hf_1609
  have hm_1674 : q_1498 ∈ L_1618 := by rw [hs_1617]; exact List.mem_append_left _ hm_1501
  have hf_1673 := (hk_1615 q_1498 (ne_in hm_1501 hq_1613)).trans hf_1610
  refine v_widen (k := 64) (n := 5055) (Nat.le_of_ble_eq_true rfl) (Nat.le_of_ble_eq_true rfl) ?_
  refine v_dup hC dX11_init_163 rfl ?_
  refine v_xvN hC (rest := [.ref q_1611, .int 3, .ref q_129]) rfl mi_X5_init (k_X5 hm_1616 hf_1614) mx_X5_init mn_X11_96 (by decide) rfl (cells1 := 65) (slots1 := 5115) (by decide) (by decide) (Nat.le_of_ble_eq_true rfl) (Nat.le_of_ble_eq_true rfl) rfl (Nat.le_of_ble_eq_true rfl) dX11_init_164 (fun L_1676 f_1677 h_1678 => ?_)
  obtain ⟨hk_1679, q_1680, hm_1681, hf_1682, hm_1683, hf_1684⟩ := h_1678
  have hx_1687 := hk_1679 h hm_1620 (ne_in hm_1503 hq_1613)
  have hm_1685 := hx_1687.1
  have hf_1686 := hx_1687.2.trans hf_1619
  have hx_1690 := hk_1679 q_1 hm_1622 (ne_in hm_1506 hq_1613)
  have hm_1688 := hx_1690.1
  have hf_1689 := hx_1690.2.trans hf_1621
  have hx_1693 := hk_1679 q_16 hm_1624 (ne_in hm_1509 hq_1613)
  have hm_1691 := hx_1693.1
  have hf_1692 := hx_1693.2.trans hf_1623
  have hx_1696 := hk_1679 q_63 hm_1626 (ne_in hm_1512 hq_1613)
  have hm_1694 := hx_1696.1
  have hf_1695 := hx_1696.2.trans hf_1625
  have hx_1699 := hk_1679 q_83 hm_1628 (ne_in hm_1515 hq_1613)
  have hm_1697 := hx_1699.1
  have hf_1698 := hx_1699.2.trans hf_1627
  have hx_1702 := hk_1679 q_104 hm_1630 (ne_in hm_1518 hq_1613)
  have hm_1700 := hx_1702.1
  have hf_1701 := hx_1702.2.trans hf_1629
  have hx_1705 := hk_1679 q_129 hm_1632 (ne_in hm_1521 hq_1613)
  have hm_1703 := hx_1705.1
  have hf_1704 := hx_1705.2.trans hf_1631
  have hx_1708 := hk_1679 q_158 hm_1634 (ne_in hm_1524 hq_1613)
  have hm_1706 := hx_1708.1
  have hf_1707 := hx_1708.2.trans hf_1633
  have hx_1711 := hk_1679 q_185 hm_1636 (ne_in hm_1527 hq_1613)
  have hm_1709 := hx_1711.1
  have hf_1710 := hx_1711.2.trans hf_1635
  have hx_1714 := hk_1679 q_186 hm_1638 (ne_in hm_1530 hq_1613)
  have hm_1712 := hx_1714.1
  have hf_1713 := hx_1714.2.trans hf_1637
  have hx_1717 := hk_1679 q_226 hm_1640 (ne_in hm_1533 hq_1613)
  have hm_1715 := hx_1717.1
  have hf_1716 := hx_1717.2.trans hf_1639
  have hx_1720 := hk_1679 q_267 hm_1642 (ne_in hm_1536 hq_1613)
  have hm_1718 := hx_1720.1
  have hf_1719 := hx_1720.2.trans hf_1641
  have hx_1723 := hk_1679 q_351 hm_1644 (ne_in hm_1539 hq_1613)
  have hm_1721 := hx_1723.1
  have hf_1722 := hx_1723.2.trans hf_1643
  have hx_1726 := hk_1679 q_388 hm_1646 (ne_in hm_1542 hq_1613)
  have hm_1724 := hx_1726.1
  have hf_1725 := hx_1726.2.trans hf_1645
  have hx_1729 := hk_1679 q_445 hm_1648 (ne_in hm_1545 hq_1613)
  have hm_1727 := hx_1729.1
  have hf_1728 := hx_1729.2.trans hf_1647
  have hx_1732 := hk_1679 q_486 hm_1650 (ne_in hm_1548 hq_1613)
  have hm_1730 := hx_1732.1
  have hf_1731 := hx_1732.2.trans hf_1649
  have hx_1735 := hk_1679 q_487 hm_1652 (ne_in hm_1551 hq_1613)
  have hm_1733 := hx_1735.1
  have hf_1734 := hx_1735.2.trans hf_1651
  have hx_1738 := hk_1679 q_488 hm_1654 (ne_in hm_1554 hq_1613)
  have hm_1736 := hx_1738.1
  have hf_1737 := hx_1738.2.trans hf_1653
  have hx_1741 := hk_1679 q_559 hm_1656 (ne_in hm_1557 hq_1613)
  have hm_1739 := hx_1741.1
  have hf_1740 := hx_1741.2.trans hf_1655
  have hx_1744 := hk_1679 q_608 hm_1658 (ne_in hm_1560 hq_1613)
  have hm_1742 := hx_1744.1
  have hf_1743 := hx_1744.2.trans hf_1657
  have hx_1747 := hk_1679 q_824 hm_1660 (ne_in hm_1563 hq_1613)
  have hm_1745 := hx_1747.1
  have hf_1746 := hx_1747.2.trans hf_1659
  have hx_1750 := hk_1679 q_877 hm_1662 (ne_in hm_1566 hq_1613)
  have hm_1748 := hx_1750.1
  have hf_1749 := hx_1750.2.trans hf_1661
  have hx_1753 := hk_1679 q_1113 hm_1664 (ne_in hm_1569 hq_1613)
  have hm_1751 := hx_1753.1
  have hf_1752 := hx_1753.2.trans hf_1663
  have hx_1756 := hk_1679 q_1170 hm_1666 (ne_in hm_1572 hq_1613)
  have hm_1754 := hx_1756.1
  have hf_1755 := hx_1756.2.trans hf_1665
  have hx_1759 := hk_1679 q_1267 hm_1668 (ne_in hm_1575 hq_1613)
  have hm_1757 := hx_1759.1
  have hf_1758 := hx_1759.2.trans hf_1667
  have hx_1762 := hk_1679 q_1328 hm_1670 (ne_in hm_1578 hq_1613)
  have hm_1760 := hx_1762.1
  have hf_1761 := hx_1762.2.trans hf_1669
  have hx_1765 := hk_1679 q_1433 hm_1672 (ne_in hm_1499 hq_1613)
  have hm_1763 := hx_1765.1
  have hf_1764 := hx_1765.2.trans hf_1671
  have hx_1768 := hk_1679 q_1498 hm_1674 (ne_in hm_1501 hq_1613)
  have hm_1766 := hx_1768.1
  have hf_1767 := hx_1768.2.trans hf_1673
  refine v_aast hC (r := (RX5, TX5, 3)) hm_1703 hf_1704 (t := 6) rfl hm_1681 hf_1682 rfl (by unfold vp_in; decide) dX11_init_167 (fun f_1769 hf_1770 hk_1771 => ?_)
  have hf_1770 : f_1769 q_129 = aR E 6 4 (va_up (va_up (va_up (va_up (fun _ => none) 0 (some q_1113)) 1 (some q_1267)) 2 (some q_1433)) 3 (some q_1611)) := hf_1770
  have hf_1772 := (hk_1771 h (ne_kd hf_1686 hf_1704 rfl)).trans hf_1686
  have hf_1773 := (hk_1771 q_1 (ne_kd hf_1689 hf_1704 rfl)).trans hf_1689
  have hf_1774 := (hk_1771 q_16 (ne_kd hf_1692 hf_1704 rfl)).trans hf_1692
  have hf_1775 := (hk_1771 q_63 (ne_kd hf_1695 hf_1704 rfl)).trans hf_1695
  have hf_1776 := (hk_1771 q_83 (ne_kd hf_1698 hf_1704 rfl)).trans hf_1698
  have hf_1777 := (hk_1771 q_104 (ne_kd hf_1701 hf_1704 rfl)).trans hf_1701
  have hf_1778 := (hk_1771 q_158 (ne_kd hf_1707 hf_1704 rfl)).trans hf_1707
  have hf_1779 := (hk_1771 q_185 (ne_kd hf_1710 hf_1704 rfl)).trans hf_1710
  have hf_1780 := (hk_1771 q_186 (ne_kd hf_1713 hf_1704 rfl)).trans hf_1713
  have hf_1781 := (hk_1771 q_226 (ne_kd hf_1716 hf_1704 rfl)).trans hf_1716
  have hf_1782 := (hk_1771 q_267 (ne_kd hf_1719 hf_1704 rfl)).trans hf_1719
  have hf_1783 := (hk_1771 q_351 (ne_kd hf_1722 hf_1704 rfl)).trans hf_1722
  have hf_1784 := (hk_1771 q_388 (ne_kd hf_1725 hf_1704 rfl)).trans hf_1725
  have hf_1785 := (hk_1771 q_445 (ne_kd hf_1728 hf_1704 rfl)).trans hf_1728
  have hf_1786 := (hk_1771 q_486 (ne_kd hf_1731 hf_1704 rfl)).trans hf_1731
  have hf_1787 := (hk_1771 q_487 (ne_kd hf_1734 hf_1704 rfl)).trans hf_1734
  have hf_1788 := (hk_1771 q_488 (ne_kd hf_1737 hf_1704 rfl)).trans hf_1737
  have hf_1789 := (hk_1771 q_559 (ne_kd hf_1740 hf_1704 rfl)).trans hf_1740
  have hf_1790 := (hk_1771 q_608 (ne_kd hf_1743 hf_1704 rfl)).trans hf_1743
  have hf_1791 := (hk_1771 q_824 (ne_kd hf_1746 hf_1704 rfl)).trans hf_1746
  have hf_1792 := (hk_1771 q_877 (ne_kd hf_1749 hf_1704 rfl)).trans hf_1749
  have hf_1793 := (hk_1771 q_1113 (ne_kd hf_1752 hf_1704 rfl)).trans hf_1752
  have hf_1794 := (hk_1771 q_1170 (ne_kd hf_1755 hf_1704 rfl)).trans hf_1755
  have hf_1795 := (hk_1771 q_1267 (ne_kd hf_1758 hf_1704 rfl)).trans hf_1758
  have hf_1796 := (hk_1771 q_1328 (ne_kd hf_1761 hf_1704 rfl)).trans hf_1761
  have hf_1797 := (hk_1771 q_1433 (ne_kd hf_1764 hf_1704 rfl)).trans hf_1764
  have hf_1798 := (hk_1771 q_1498 (ne_kd hf_1767 hf_1704 rfl)).trans hf_1767
  have hf_1799 := (hk_1771 q_1611 (ne_kd hf_1682 hf_1704 rfl)).trans hf_1682
  have hf_1800 := (hk_1771 q_1680 (ne_kd hf_1684 hf_1704 rfl)).trans hf_1684
  refine v_iinc hC dX11_init_168 (k := 0) rfl (v := 4) (by decide) (by decide) (lv' := [(1, .int 4), (0, .ref h)]) rfl ?_
  refine v_goto hC dX11_init_171 (tgt := 150) (by decide) ?_
  refine v_iload_n hC dX11_init_150 rfl ?_
  refine v_iconst hC dX11_init_151 (v := 4) (by decide) ?_
  refine v_icmp_ge_t hC dX11_init_152 (tgt := 174) (by decide) (by decide) ?_
  have hkp_1801 : ∀ b ∈ L, b ≠ h → b ∈ L_1676 ∧ f_1769 b = f b := by
    intro b hb0 hn0
    have e1 := hk_5 b (ne_in hb0 hq_3)
    have b1 : b ∈ L_8 := by rw [hs_7]; exact List.mem_append_left _ hb0
    have e2 := (hk_15 b b1 (ne_in hb0 hq_3)).2
    have b2 := (hk_15 b b1 (ne_in hb0 hq_3)).1
    have e3 := hk_26 b hn0
    have e4 := hk_33 b (ne_in b2 hq_31)
    have b4 : b ∈ L_36 := by rw [hs_35]; exact List.mem_append_left _ b2
    have e5 := (hk_47 b b4 (ne_in b2 hq_31)).2
    have b5 := (hk_47 b b4 (ne_in b2 hq_31)).1
    have e6 := hk_60 b hn0
    have e7 := hk_67 b (ne_in b5 hq_65)
    have b7 : b ∈ L_70 := by rw [hs_69]; exact List.mem_append_left _ b5
    have e8 := hk_79 b hn0
    have e9 := hk_87 b (ne_in b7 hq_85)
    have b9 : b ∈ L_90 := by rw [hs_89]; exact List.mem_append_left _ b7
    have e10 := (hk_103 b b9 (ne_in b7 hq_85)).2
    have b10 := (hk_103 b b9 (ne_in b7 hq_85)).1
    have e11 := hk_123 b hn0
    have e12 := hk_133 b (ne_in b10 hq_131)
    have b12 : b ∈ L_136 := by rw [hs_135]; exact List.mem_append_left _ b10
    have e13 := hk_151 b hn0
    have e14 := hk_162 b (ne_in b12 hq_160)
    have b14 : b ∈ L_165 := by rw [hs_164]; exact List.mem_append_left _ b12
    have e15 := (hk_184 b b14 (ne_in b12 hq_160)).2
    have b15 := (hk_184 b b14 (ne_in b12 hq_160)).1
    have e16 := hk_216 b hn0
    have e17 := hk_230 b (ne_in b15 hq_228)
    have b17 : b ∈ L_233 := by rw [hs_232]; exact List.mem_append_left _ b15
    have e18 := hk_256 b hn0
    have e19 := hk_271 b (ne_in b17 hq_269)
    have b19 : b ∈ L_274 := by rw [hs_273]; exact List.mem_append_left _ b17
    have e20 := (hk_301 b b19 (ne_in b17 hq_269)).2
    have b20 := (hk_301 b b19 (ne_in b17 hq_269)).1
    have e21 := hk_339 b hn0
    have e22 := hk_355 b (ne_in b20 hq_353)
    have b22 : b ∈ L_358 := by rw [hs_357]; exact List.mem_append_left _ b20
    have e23 := (hk_387 b b22 (ne_in b20 hq_353)).2
    have b23 := (hk_387 b b22 (ne_in b20 hq_353)).1
    have e24 := hk_431 b hn0
    have e25 := hk_449 b (ne_in b23 hq_447)
    have b25 : b ∈ L_452 := by rw [hs_451]; exact List.mem_append_left _ b23
    have e26 := (hk_485 b b25 (ne_in b23 hq_447)).2
    have b26 := (hk_485 b b25 (ne_in b23 hq_447)).1
    have e27 := hk_541 b hn0
    have e28 := hk_563 b (ne_in b26 hq_561)
    have b28 : b ∈ L_566 := by rw [hs_565]; exact List.mem_append_left _ b26
    have e29 := (hk_607 b b28 (ne_in b26 hq_561)).2
    have b29 := (hk_607 b b28 (ne_in b26 hq_561)).1
    have e30 := hk_669 b hn0
    have e31 := hk_693 b (ne_in b29 hq_691)
    have b31 : b ∈ L_696 := by rw [hs_695]; exact List.mem_append_left _ b29
    have e32 := (hk_741 b b31 (ne_in b29 hq_691)).2
    have b32 := (hk_741 b b31 (ne_in b29 hq_691)).1
    have e33 := hk_804 b hn0
    have e34 := hk_828 b (ne_in b32 hq_826)
    have b34 : b ∈ L_831 := by rw [hs_830]; exact List.mem_append_left _ b32
    have e35 := (hk_876 b b34 (ne_in b32 hq_826)).2
    have b35 := (hk_876 b b34 (ne_in b32 hq_826)).1
    have e36 := hk_944 b hn0
    have e37 := hk_970 b (ne_in b35 hq_968)
    have b37 : b ∈ L_973 := by rw [hs_972]; exact List.mem_append_left _ b35
    have e38 := (hk_1022 b b37 (ne_in b35 hq_968)).2
    have b38 := (hk_1022 b b37 (ne_in b35 hq_968)).1
    have e39 := hk_1091 b hn0
    have e40 := hk_1117 b (ne_in b38 hq_1115)
    have b40 : b ∈ L_1120 := by rw [hs_1119]; exact List.mem_append_left _ b38
    have e41 := (hk_1169 b b40 (ne_in b38 hq_1115)).2
    have b41 := (hk_1169 b b40 (ne_in b38 hq_1115)).1
    have e42 := hk_1243 b (ne_in b10 hq_131)
    have e43 := hk_1271 b (ne_in b41 hq_1269)
    have b43 : b ∈ L_1274 := by rw [hs_1273]; exact List.mem_append_left _ b41
    have e44 := (hk_1327 b b43 (ne_in b41 hq_1269)).2
    have b44 := (hk_1327 b b43 (ne_in b41 hq_1269)).1
    have e45 := hk_1407 b (ne_in b10 hq_131)
    have e46 := hk_1437 b (ne_in b44 hq_1435)
    have b46 : b ∈ L_1440 := by rw [hs_1439]; exact List.mem_append_left _ b44
    have e47 := (hk_1497 b b46 (ne_in b44 hq_1435)).2
    have b47 := (hk_1497 b b46 (ne_in b44 hq_1435)).1
    have e48 := hk_1583 b (ne_in b10 hq_131)
    have e49 := hk_1615 b (ne_in b47 hq_1613)
    have b49 : b ∈ L_1618 := by rw [hs_1617]; exact List.mem_append_left _ b47
    have e50 := (hk_1679 b b49 (ne_in b47 hq_1613)).2
    have b50 := (hk_1679 b b49 (ne_in b47 hq_1613)).1
    have e51 := hk_1771 b (ne_in b10 hq_131)
    exact ⟨b50, (e51.trans (e50.trans (e49.trans (e48.trans (e47.trans (e46.trans (e45.trans (e44.trans (e43.trans (e42.trans (e41.trans (e40.trans (e39.trans (e38.trans (e37.trans (e36.trans (e35.trans (e34.trans (e33.trans (e32.trans (e31.trans (e30.trans (e29.trans (e28.trans (e27.trans (e26.trans (e25.trans (e24.trans (e23.trans (e22.trans (e21.trans (e20.trans (e19.trans (e18.trans (e17.trans (e16.trans (e15.trans (e14.trans (e13.trans (e12.trans (e11.trans (e10.trans (e9.trans (e8.trans (e7.trans (e6.trans (e5.trans (e4.trans (e3.trans (e2.trans e1))))))))))))))))))))))))))))))))))))))))))))))))))⟩
  have hk_1802 : ∀ b ∈ L_44, kd (f_45 b) ≠ 11 → b ∈ L_1676 ∧ f_1769 b = f_45 b := by
    intro b hb0 hn0
    have e1 := hk_60 b (fun e => hn0 (by rw [e, hf_50]; rfl))
    have c1 := e1
    have e2 := hk_67 b (ne_in hb0 hq_65)
    have b2 : b ∈ L_70 := by rw [hs_69]; exact List.mem_append_left _ hb0
    have c2 := e2.trans c1
    have e3 := hk_79 b (fun e => hn0 (by rw [← c2, e, hf_71]; rfl))
    have c3 := e3.trans c2
    have e4 := hk_87 b (ne_in b2 hq_85)
    have b4 : b ∈ L_90 := by rw [hs_89]; exact List.mem_append_left _ b2
    have c4 := e4.trans c3
    have e5 := (hk_103 b b4 (ne_in b2 hq_85)).2
    have b5 := (hk_103 b b4 (ne_in b2 hq_85)).1
    have c5 := e5.trans c4
    have e6 := hk_123 b (fun e => hn0 (by rw [← c5, e, hf_110]; rfl))
    have c6 := e6.trans c5
    have e7 := hk_133 b (ne_in b5 hq_131)
    have b7 : b ∈ L_136 := by rw [hs_135]; exact List.mem_append_left _ b5
    have c7 := e7.trans c6
    have e8 := hk_151 b (fun e => hn0 (by rw [← c7, e, hf_137]; rfl))
    have c8 := e8.trans c7
    have e9 := hk_162 b (ne_in b7 hq_160)
    have b9 : b ∈ L_165 := by rw [hs_164]; exact List.mem_append_left _ b7
    have c9 := e9.trans c8
    have e10 := (hk_184 b b9 (ne_in b7 hq_160)).2
    have b10 := (hk_184 b b9 (ne_in b7 hq_160)).1
    have c10 := e10.trans c9
    have e11 := hk_216 b (fun e => hn0 (by rw [← c10, e, hf_194]; rfl))
    have c11 := e11.trans c10
    have e12 := hk_230 b (ne_in b10 hq_228)
    have b12 : b ∈ L_233 := by rw [hs_232]; exact List.mem_append_left _ b10
    have c12 := e12.trans c11
    have e13 := hk_256 b (fun e => hn0 (by rw [← c12, e, hf_234]; rfl))
    have c13 := e13.trans c12
    have e14 := hk_271 b (ne_in b12 hq_269)
    have b14 : b ∈ L_274 := by rw [hs_273]; exact List.mem_append_left _ b12
    have c14 := e14.trans c13
    have e15 := (hk_301 b b14 (ne_in b12 hq_269)).2
    have b15 := (hk_301 b b14 (ne_in b12 hq_269)).1
    have c15 := e15.trans c14
    have e16 := hk_339 b (fun e => hn0 (by rw [← c15, e, hf_305]; rfl))
    have c16 := e16.trans c15
    have e17 := hk_355 b (ne_in b15 hq_353)
    have b17 : b ∈ L_358 := by rw [hs_357]; exact List.mem_append_left _ b15
    have c17 := e17.trans c16
    have e18 := (hk_387 b b17 (ne_in b15 hq_353)).2
    have b18 := (hk_387 b b17 (ne_in b15 hq_353)).1
    have c18 := e18.trans c17
    have e19 := hk_431 b (fun e => hn0 (by rw [← c18, e, hf_394]; rfl))
    have c19 := e19.trans c18
    have e20 := hk_449 b (ne_in b18 hq_447)
    have b20 : b ∈ L_452 := by rw [hs_451]; exact List.mem_append_left _ b18
    have c20 := e20.trans c19
    have e21 := (hk_485 b b20 (ne_in b18 hq_447)).2
    have b21 := (hk_485 b b20 (ne_in b18 hq_447)).1
    have c21 := e21.trans c20
    have e22 := hk_541 b (fun e => hn0 (by rw [← c21, e, hf_498]; rfl))
    have c22 := e22.trans c21
    have e23 := hk_563 b (ne_in b21 hq_561)
    have b23 : b ∈ L_566 := by rw [hs_565]; exact List.mem_append_left _ b21
    have c23 := e23.trans c22
    have e24 := (hk_607 b b23 (ne_in b21 hq_561)).2
    have b24 := (hk_607 b b23 (ne_in b21 hq_561)).1
    have c24 := e24.trans c23
    have e25 := hk_669 b (fun e => hn0 (by rw [← c24, e, hf_614]; rfl))
    have c25 := e25.trans c24
    have e26 := hk_693 b (ne_in b24 hq_691)
    have b26 : b ∈ L_696 := by rw [hs_695]; exact List.mem_append_left _ b24
    have c26 := e26.trans c25
    have e27 := (hk_741 b b26 (ne_in b24 hq_691)).2
    have b27 := (hk_741 b b26 (ne_in b24 hq_691)).1
    have c27 := e27.trans c26
    have e28 := hk_804 b (fun e => hn0 (by rw [← c27, e, hf_743]; rfl))
    have c28 := e28.trans c27
    have e29 := hk_828 b (ne_in b27 hq_826)
    have b29 : b ∈ L_831 := by rw [hs_830]; exact List.mem_append_left _ b27
    have c29 := e29.trans c28
    have e30 := (hk_876 b b29 (ne_in b27 hq_826)).2
    have b30 := (hk_876 b b29 (ne_in b27 hq_826)).1
    have c30 := e30.trans c29
    have e31 := hk_944 b (fun e => hn0 (by rw [← c30, e, hf_883]; rfl))
    have c31 := e31.trans c30
    have e32 := hk_970 b (ne_in b30 hq_968)
    have b32 : b ∈ L_973 := by rw [hs_972]; exact List.mem_append_left _ b30
    have c32 := e32.trans c31
    have e33 := (hk_1022 b b32 (ne_in b30 hq_968)).2
    have b33 := (hk_1022 b b32 (ne_in b30 hq_968)).1
    have c33 := e33.trans c32
    have e34 := hk_1091 b (fun e => hn0 (by rw [← c33, e, hf_1024]; rfl))
    have c34 := e34.trans c33
    have e35 := hk_1117 b (ne_in b33 hq_1115)
    have b35 : b ∈ L_1120 := by rw [hs_1119]; exact List.mem_append_left _ b33
    have c35 := e35.trans c34
    have e36 := (hk_1169 b b35 (ne_in b33 hq_1115)).2
    have b36 := (hk_1169 b b35 (ne_in b33 hq_1115)).1
    have c36 := e36.trans c35
    have e37 := hk_1243 b (ne_in b5 hq_131)
    have c37 := e37.trans c36
    have e38 := hk_1271 b (ne_in b36 hq_1269)
    have b38 : b ∈ L_1274 := by rw [hs_1273]; exact List.mem_append_left _ b36
    have c38 := e38.trans c37
    have e39 := (hk_1327 b b38 (ne_in b36 hq_1269)).2
    have b39 := (hk_1327 b b38 (ne_in b36 hq_1269)).1
    have c39 := e39.trans c38
    have e40 := hk_1407 b (ne_in b5 hq_131)
    have c40 := e40.trans c39
    have e41 := hk_1437 b (ne_in b39 hq_1435)
    have b41 : b ∈ L_1440 := by rw [hs_1439]; exact List.mem_append_left _ b39
    have c41 := e41.trans c40
    have e42 := (hk_1497 b b41 (ne_in b39 hq_1435)).2
    have b42 := (hk_1497 b b41 (ne_in b39 hq_1435)).1
    have c42 := e42.trans c41
    have e43 := hk_1583 b (ne_in b5 hq_131)
    have c43 := e43.trans c42
    have e44 := hk_1615 b (ne_in b42 hq_1613)
    have b44 : b ∈ L_1618 := by rw [hs_1617]; exact List.mem_append_left _ b42
    have c44 := e44.trans c43
    have e45 := (hk_1679 b b44 (ne_in b42 hq_1613)).2
    have b45 := (hk_1679 b b44 (ne_in b42 hq_1613)).1
    have c45 := e45.trans c44
    have e46 := hk_1771 b (ne_in b5 hq_131)
    have c46 := e46.trans c45
    exact ⟨b45, c46⟩
  have hp_1803 : ∀ i : Nat, i < 4 → ∃ q s : Nat, (va_up (va_up (va_up (va_up (fun _ => none) 0 (some q_1113)) 1 (some q_1267)) 2 (some q_1433)) 3 (some q_1611)) i = some q ∧ (q ∈ L_1676 ∧ f_1769 q = ob 5 [.ref s, .int (-1), .int 0]) ∧ (s ∈ L_1676 ∧ f_1769 s = aJ E 60 (fun _ => 0)) := fun i hi => by
    rcases (show i = 0 ∨ i = 1 ∨ i = 2 ∨ i = 3 by omega) with rfl | rfl | rfl | rfl
    · exact ⟨q_1113, q_1170, rfl, ⟨hm_1751, hf_1793⟩, hm_1754, hf_1794⟩
    · exact ⟨q_1267, q_1328, rfl, ⟨hm_1757, hf_1795⟩, hm_1760, hf_1796⟩
    · exact ⟨q_1433, q_1498, rfl, ⟨hm_1763, hf_1797⟩, hm_1766, hf_1798⟩
    · exact ⟨q_1611, q_1680, rfl, ⟨hm_1681, hf_1799⟩, hm_1683, hf_1800⟩
  exact hR _ _ _ _ _ _ dX11_init_174 (Nat.le_of_ble_eq_true rfl) (Nat.le_of_ble_eq_true rfl) ⟨hkp_1801, q_1, q_29, q_63, q_83, q_129, q_158, q_226, q_267, q_351, q_445, q_559, q_689, q_824, q_966, q_16, q_104, q_185, q_186, q_388, q_486, q_487, q_488, (va_up (va_up (va_up (va_up (fun _ => none) 0 (some q_1113)) 1 (some q_1267)) 2 (some q_1433)) 3 (some q_1611)), ⟨hm_1685, hf_1772⟩, ⟨hm_1688, hf_1773⟩, ⟨hm_1691, hf_1774⟩, ⟨hm_1694, hf_1775⟩, ⟨hm_1697, hf_1776⟩, ⟨hm_1703, hf_1770⟩, ⟨hm_1706, hf_1778⟩, ⟨hm_1715, hf_1781⟩, ⟨hm_1718, hf_1782⟩, ⟨hm_1721, hf_1783⟩, ⟨hm_1724, hf_1784⟩, ⟨hm_1727, hf_1785⟩, ⟨hm_1730, hf_1786⟩, ⟨hm_1733, hf_1787⟩, ⟨hm_1736, hf_1788⟩, hB_48.keep hk_1802, hp_1803⟩
