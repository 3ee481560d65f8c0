theorem fl_X12_13 : Fl RX12 13 12 1 true (.array .int) := ⟨RX12, TX12, 29, tyX12, ⟨rfl, by decide, inX12, tyX12_ok, nmX12, rfl, by decide +kernel⟩, rfl, (al_in (tb6 (List.mem_of_getElem? (i := 85) (by rfl))) (by decide +kernel))⟩
theorem fl_X12_34 : Fl RX12 34 12 14 true (.array .int) := ⟨RX12, TX12, 29, tyX12, ⟨rfl, by decide, inX12, tyX12_ok, nmX12, rfl, by decide +kernel⟩, rfl, (al_in (tb6 (List.mem_of_getElem? (i := 98) (by rfl))) (by decide +kernel))⟩
theorem kl_X12_77 : Cond.constantLong RX12 77 2 ∈ ALLg := (al_in (tb6 (List.mem_of_getElem? (i := 177) (by rfl))) (by decide +kernel))
theorem ml_X12_79 : Cond.methodLink RX12 79 yX12_in ∈ ALLg := (al_in (tb6 (List.mem_of_getElem? (i := 178) (by rfl))) (by decide +kernel))
theorem mx_X12_in : Mx yX12_in cX12_in 6 (some .boolean) 3 := ⟨(al_in (tb6 (List.mem_of_getElem? (i := 180) (by rfl))) (by decide +kernel)), (al_in (tb1 (List.mem_of_getElem? (i := 13) (by rfl))) (by decide +kernel)), ⟨by decide +kernel, by decide +kernel, by decide +kernel⟩, by decide⟩
theorem mt_X12_in : Cond.static yX12_in ∈ ALLg := (al_in (tb6 (List.mem_of_getElem? (i := 179) (by rfl))) (by decide +kernel))
theorem fl_X12_20 : Fl RX12 20 12 3 true (.array .boolean) := ⟨RX12, TX12, 29, tyX12, ⟨rfl, by decide, inX12, tyX12_ok, nmX12, rfl, by decide +kernel⟩, rfl, (al_in (tb6 (List.mem_of_getElem? (i := 87) (by rfl))) (by decide +kernel))⟩
theorem fl_X12_17 : Fl RX12 17 12 2 true (.array .int) := ⟨RX12, TX12, 29, tyX12, ⟨rfl, by decide, inX12, tyX12_ok, nmX12, rfl, by decide +kernel⟩, rfl, (al_in (tb6 (List.mem_of_getElem? (i := 86) (by rfl))) (by decide +kernel))⟩
theorem ml_X12_181 : Cond.methodLink RX12 181 yX12_begin ∈ ALLg := (al_in (tb6 (List.mem_of_getElem? (i := 201) (by rfl))) (by decide +kernel))
theorem fl_X12_102 : Fl RX12 102 12 5 false .int := ⟨RX12, TX12, 29, tyX12, ⟨rfl, by decide, inX12, tyX12_ok, nmX12, rfl, by decide +kernel⟩, rfl, (al_in (tb6 (List.mem_of_getElem? (i := 89) (by rfl))) (by decide +kernel))⟩
theorem fl_X12_105 : Fl RX12 105 12 7 false .int := ⟨RX12, TX12, 29, tyX12, ⟨rfl, by decide, inX12, tyX12_ok, nmX12, rfl, by decide +kernel⟩, rfl, (al_in (tb6 (List.mem_of_getElem? (i := 91) (by rfl))) (by decide +kernel))⟩
theorem fl_X12_108 : Fl RX12 108 12 8 false .int := ⟨RX12, TX12, 29, tyX12, ⟨rfl, by decide, inX12, tyX12_ok, nmX12, rfl, by decide +kernel⟩, rfl, (al_in (tb6 (List.mem_of_getElem? (i := 92) (by rfl))) (by decide +kernel))⟩
theorem fl_X12_111 : Fl RX12 111 12 12 false .int := ⟨RX12, TX12, 29, tyX12, ⟨rfl, by decide, inX12, tyX12_ok, nmX12, rfl, by decide +kernel⟩, rfl, (al_in (tb6 (List.mem_of_getElem? (i := 96) (by rfl))) (by decide +kernel))⟩
theorem fl_X12_31 : Fl RX12 31 12 13 false .int := ⟨RX12, TX12, 29, tyX12, ⟨rfl, by decide, inX12, tyX12_ok, nmX12, rfl, by decide +kernel⟩, rfl, (al_in (tb6 (List.mem_of_getElem? (i := 97) (by rfl))) (by decide +kernel))⟩
theorem mx_X12_begin : Mx yX12_begin cX12_begin 1 none 0 := ⟨(al_in (tb6 (List.mem_of_getElem? (i := 204) (by rfl))) (by decide +kernel)), (al_in (tb1 (List.mem_of_getElem? (i := 13) (by rfl))) (by decide +kernel)), ⟨by decide +kernel, by decide +kernel, by decide +kernel⟩, by decide⟩
theorem mi_X12_begin : Cond.instanceMethod yX12_begin ∈ ALLg := (al_in (tb6 (List.mem_of_getElem? (i := 203) (by rfl))) (by decide +kernel))
theorem ms_X12_begin : Cond.selects (yX12_begin).cls yX12_begin yX12_begin ∈ ALLg := (al_in (tb0 (List.mem_of_getElem? (i := 39) (by rfl))) (by decide +kernel))
theorem ml_X12_156 : Cond.methodLink RX12 156 yX12_advance ∈ ALLg := (al_in (tb6 (List.mem_of_getElem? (i := 209) (by rfl))) (by decide +kernel))
theorem ml_X12_114 : Cond.methodLink RX12 114 yX12_see ∈ ALLg := (al_in (tb6 (List.mem_of_getElem? (i := 213) (by rfl))) (by decide +kernel))
theorem fl_X12_24 : Fl RX12 24 12 4 true (.array .byte) := ⟨RX12, TX12, 29, tyX12, ⟨rfl, by decide, inX12, tyX12_ok, nmX12, rfl, by decide +kernel⟩, rfl, (al_in (tb6 (List.mem_of_getElem? (i := 88) (by rfl))) (by decide +kernel))⟩
theorem mx_X12_see : Mx yX12_see cX12_see 2 (some .int) 1 := ⟨(al_in (tb6 (List.mem_of_getElem? (i := 216) (by rfl))) (by decide +kernel)), (al_in (tb1 (List.mem_of_getElem? (i := 13) (by rfl))) (by decide +kernel)), ⟨by decide +kernel, by decide +kernel, by decide +kernel⟩, by decide⟩
theorem mi_X12_see : Cond.instanceMethod yX12_see ∈ ALLg := (al_in (tb6 (List.mem_of_getElem? (i := 215) (by rfl))) (by decide +kernel))
theorem ms_X12_see : Cond.selects (yX12_see).cls yX12_see yX12_see ∈ ALLg := (al_in (tb0 (List.mem_of_getElem? (i := 42) (by rfl))) (by decide +kernel))
theorem fl_X12_117 : Fl RX12 117 12 9 false .int := ⟨RX12, TX12, 29, tyX12, ⟨rfl, by decide, inX12, tyX12_ok, nmX12, rfl, by decide +kernel⟩, rfl, (al_in (tb6 (List.mem_of_getElem? (i := 93) (by rfl))) (by decide +kernel))⟩
theorem kl_X12_123 : Cond.constantLong RX12 123 97 ∈ ALLg := (al_in (tb6 (List.mem_of_getElem? (i := 217) (by rfl))) (by decide +kernel))
theorem kl_X12_125 : Cond.constantLong RX12 125 122 ∈ ALLg := (al_in (tb6 (List.mem_of_getElem? (i := 218) (by rfl))) (by decide +kernel))
theorem kl_X12_127 : Cond.constantLong RX12 127 48 ∈ ALLg := (al_in (tb6 (List.mem_of_getElem? (i := 219) (by rfl))) (by decide +kernel))
theorem kl_X12_129 : Cond.constantLong RX12 129 57 ∈ ALLg := (al_in (tb6 (List.mem_of_getElem? (i := 220) (by rfl))) (by decide +kernel))
theorem fl_X12_120 : Fl RX12 120 12 10 false .int := ⟨RX12, TX12, 29, tyX12, ⟨rfl, by decide, inX12, tyX12_ok, nmX12, rfl, by decide +kernel⟩, rfl, (al_in (tb6 (List.mem_of_getElem? (i := 94) (by rfl))) (by decide +kernel))⟩
theorem fl_X12_131 : Fl RX12 131 12 11 false .int := ⟨RX12, TX12, 29, tyX12, ⟨rfl, by decide, inX12, tyX12_ok, nmX12, rfl, by decide +kernel⟩, rfl, (al_in (tb6 (List.mem_of_getElem? (i := 95) (by rfl))) (by decide +kernel))⟩
theorem ml_X12_134 : Cond.methodLink RX12 134 yJ9_min_7cf53 ∈ ALLg := (al_in (tb6 (List.mem_of_getElem? (i := 221) (by rfl))) (by decide +kernel))
theorem mm_X12_134 : Cond.methodLink RX12 134 Lib.Math.min.name ∈ ALLg := (al_in (tb6 (List.mem_of_getElem? (i := 221) (by rfl))) (by decide +kernel))
theorem mm_smin : Cond.static Lib.Math.min.name ∈ ALLg := (al_in (tb2 (List.mem_of_getElem? (i := 173) (by rfl))) (by decide +kernel))
theorem mm_i : Cond.initialized "java/lang/Math" ∈ ALLg := (al_in (tb1 (List.mem_of_getElem? (i := 14) (by rfl))) (by decide +kernel))
theorem mm_cmin : Cond.code Lib.Math.min.name Lib.Math.min.code 2 (some .int) ∈ ALLg := (al_in (tb2 (List.mem_of_getElem? (i := 174) (by rfl))) (by decide +kernel))
theorem mx_X12_advance : Mx yX12_advance cX12_advance 2 none 0 := ⟨(al_in (tb6 (List.mem_of_getElem? (i := 212) (by rfl))) (by decide +kernel)), (al_in (tb1 (List.mem_of_getElem? (i := 13) (by rfl))) (by decide +kernel)), ⟨by decide +kernel, by decide +kernel, by decide +kernel⟩, by decide⟩
theorem mi_X12_advance : Cond.instanceMethod yX12_advance ∈ ALLg := (al_in (tb6 (List.mem_of_getElem? (i := 211) (by rfl))) (by decide +kernel))
theorem ms_X12_advance : Cond.selects (yX12_advance).cls yX12_advance yX12_advance ∈ ALLg := (al_in (tb0 (List.mem_of_getElem? (i := 41) (by rfl))) (by decide +kernel))
theorem sr_X12_210 : (RX12, 210, "hand", 43) ∈ strW := List.mem_of_getElem? (i := 43) (by rfl)
theorem ml_X12_166 : Cond.methodLink RX12 166 yX12_needs ∈ ALLg := (al_in (tb6 (List.mem_of_getElem? (i := 227) (by rfl))) (by decide +kernel))
theorem ml_X12_159 : Cond.methodLink RX12 159 yX12_takes ∈ ALLg := (al_in (tb6 (List.mem_of_getElem? (i := 231) (by rfl))) (by decide +kernel))
theorem ml_X12_152 : Cond.methodLink RX12 152 yX12_is ∈ ALLg := (al_in (tb6 (List.mem_of_getElem? (i := 235) (by rfl))) (by decide +kernel))
theorem ml_X12_139 : Cond.methodLink RX12 139 yX12_good ∈ ALLg := (al_in (tb6 (List.mem_of_getElem? (i := 239) (by rfl))) (by decide +kernel))
theorem mx_X12_good : Mx yX12_good cX12_good 1 (some .boolean) 0 := ⟨(al_in (tb7 (List.mem_of_getElem? (i := 2) (by rfl))) (by decide +kernel)), (al_in (tb1 (List.mem_of_getElem? (i := 13) (by rfl))) (by decide +kernel)), ⟨by decide +kernel, by decide +kernel, by decide +kernel⟩, by decide⟩
theorem mi_X12_good : Cond.instanceMethod yX12_good ∈ ALLg := (al_in (tb7 (List.mem_of_getElem? (i := 1) (by rfl))) (by decide +kernel))
theorem ms_X12_good : Cond.selects (yX12_good).cls yX12_good yX12_good ∈ ALLg := (al_in (tb0 (List.mem_of_getElem? (i := 47) (by rfl))) (by decide +kernel))
theorem ml_X12_143 : Cond.methodLink RX12 143 yJ0_length_8abf5 ∈ ALLg := (al_in (tb7 (List.mem_of_getElem? (i := 3) (by rfl))) (by decide +kernel))
theorem sf_J0_9 : Cond.fieldLink RJ0 9 "java/lang/String" "value" "[B" ∈ ALLg := (al_in (tb8 (List.mem_of_getElem? (i := 161) (by rfl))) (by decide +kernel))
theorem ml_J0_335 : Cond.methodLink RJ0 335 yJ0_coder_7d493 ∈ ALLg := (al_in (tb2 (List.mem_of_getElem? (i := 188) (by rfl))) (by decide +kernel))
theorem sf_J0_38 : Cond.fieldLink RJ0 38 "java/lang/String" "COMPACT_STRINGS" "Z" ∈ ALLg := (al_in (tb2 (List.mem_of_getElem? (i := 192) (by rfl))) (by decide +kernel))
theorem sf_J0_15 : Cond.fieldLink RJ0 15 "java/lang/String" "coder" "B" ∈ ALLg := (al_in (tb8 (List.mem_of_getElem? (i := 162) (by rfl))) (by decide +kernel))
theorem mx_J0_coder_7d493 : Mx yJ0_coder_7d493 cJ0_coder_7d493 1 (some .byte) 0 := ⟨(al_in (tb2 (List.mem_of_getElem? (i := 191) (by rfl))) (by decide +kernel)), (al_in (tb1 (List.mem_of_getElem? (i := 15) (by rfl))) (by decide +kernel)), ⟨by decide +kernel, by decide +kernel, by decide +kernel⟩, by decide⟩
theorem mi_J0_coder_7d493 : Cond.instanceMethod yJ0_coder_7d493 ∈ ALLg := (al_in (tb2 (List.mem_of_getElem? (i := 189) (by rfl))) (by decide +kernel))
theorem ms_J0_coder_7d493 : Cond.selects (yJ0_coder_7d493).cls yJ0_coder_7d493 yJ0_coder_7d493 ∈ ALLg := (al_in (tb2 (List.mem_of_getElem? (i := 190) (by rfl))) (by decide +kernel))
theorem mx_J0_length_8abf5 : Mx yJ0_length_8abf5 cJ0_length_8abf5 1 (some .int) 0 := ⟨(al_in (tb2 (List.mem_of_getElem? (i := 187) (by rfl))) (by decide +kernel)), (al_in (tb1 (List.mem_of_getElem? (i := 15) (by rfl))) (by decide +kernel)), ⟨by decide +kernel, by decide +kernel, by decide +kernel⟩, by decide⟩
theorem mi_J0_length_8abf5 : Cond.instanceMethod yJ0_length_8abf5 ∈ ALLg := (al_in (tb2 (List.mem_of_getElem? (i := 185) (by rfl))) (by decide +kernel))
theorem ms_J0_length_8abf5 : Cond.selects (yJ0_length_8abf5).cls yJ0_length_8abf5 yJ0_length_8abf5 ∈ ALLg := (al_in (tb2 (List.mem_of_getElem? (i := 186) (by rfl))) (by decide +kernel))
theorem ml_X12_148 : Cond.methodLink RX12 148 yJ0_charAt_5068e ∈ ALLg := (al_in (tb7 (List.mem_of_getElem? (i := 4) (by rfl))) (by decide +kernel))
theorem ml_J0_492 : Cond.methodLink RJ0 492 yJ0_isLatin1_aae02 ∈ ALLg := (al_in (tb2 (List.mem_of_getElem? (i := 198) (by rfl))) (by decide +kernel))
theorem mx_J0_isLatin1_aae02 : Mx yJ0_isLatin1_aae02 cJ0_isLatin1_aae02 1 (some .boolean) 0 := ⟨(al_in (tb2 (List.mem_of_getElem? (i := 201) (by rfl))) (by decide +kernel)), (al_in (tb1 (List.mem_of_getElem? (i := 15) (by rfl))) (by decide +kernel)), ⟨by decide +kernel, by decide +kernel, by decide +kernel⟩, by decide⟩
theorem mi_J0_isLatin1_aae02 : Cond.instanceMethod yJ0_isLatin1_aae02 ∈ ALLg := (al_in (tb2 (List.mem_of_getElem? (i := 199) (by rfl))) (by decide +kernel))
theorem ms_J0_isLatin1_aae02 : Cond.selects (yJ0_isLatin1_aae02).cls yJ0_isLatin1_aae02 yJ0_isLatin1_aae02 ∈ ALLg := (al_in (tb2 (List.mem_of_getElem? (i := 200) (by rfl))) (by decide +kernel))
theorem ml_J0_495 : Cond.methodLink RJ0 495 yJ1_charAt_3b067 ∈ ALLg := (al_in (tb2 (List.mem_of_getElem? (i := 202) (by rfl))) (by decide +kernel))
theorem ml_J1_9 : Cond.methodLink RJ1 9 yJ0_checkIndex_df160 ∈ ALLg := (al_in (tb2 (List.mem_of_getElem? (i := 205) (by rfl))) (by decide +kernel))
theorem sf_J0_1053 : Cond.fieldLink RJ0 1053 "jdk/internal/util/Preconditions" "SIOOBE_FORMATTER" "Ljava/util/function/BiFunction;" ∈ ALLg := (al_in (tb2 (List.mem_of_getElem? (i := 208) (by rfl))) (by decide +kernel))
theorem ml_J0_1059 : Cond.methodLink RJ0 1059 yJ3_checkIndex_8e157 ∈ ALLg := (al_in (tb2 (List.mem_of_getElem? (i := 210) (by rfl))) (by decide +kernel))
theorem mx_J3_checkIndex_8e157 : Mx yJ3_checkIndex_8e157 cJ3_checkIndex_8e157 3 (some .int) 3 := ⟨(al_in (tb2 (List.mem_of_getElem? (i := 212) (by rfl))) (by decide +kernel)), (al_in (tb1 (List.mem_of_getElem? (i := 17) (by rfl))) (by decide +kernel)), ⟨by decide +kernel, by decide +kernel, by decide +kernel⟩, by decide⟩
theorem mt_J3_checkIndex_8e157 : Cond.static yJ3_checkIndex_8e157 ∈ ALLg := (al_in (tb2 (List.mem_of_getElem? (i := 211) (by rfl))) (by decide +kernel))
theorem mx_J0_checkIndex_df160 : Mx yJ0_checkIndex_df160 cJ0_checkIndex_df160 2 none 2 := ⟨(al_in (tb2 (List.mem_of_getElem? (i := 207) (by rfl))) (by decide +kernel)), (al_in (tb1 (List.mem_of_getElem? (i := 15) (by rfl))) (by decide +kernel)), ⟨by decide +kernel, by decide +kernel, by decide +kernel⟩, by decide⟩
theorem mt_J0_checkIndex_df160 : Cond.static yJ0_checkIndex_df160 ∈ ALLg := (al_in (tb2 (List.mem_of_getElem? (i := 206) (by rfl))) (by decide +kernel))
theorem mx_J1_charAt_3b067 : Mx yJ1_charAt_3b067 cJ1_charAt_3b067 2 (some .char) 2 := ⟨(al_in (tb2 (List.mem_of_getElem? (i := 204) (by rfl))) (by decide +kernel)), (al_in (tb1 (List.mem_of_getElem? (i := 16) (by rfl))) (by decide +kernel)), ⟨by decide +kernel, by decide +kernel, by decide +kernel⟩, by decide⟩
theorem mt_J1_charAt_3b067 : Cond.static yJ1_charAt_3b067 ∈ ALLg := (al_in (tb2 (List.mem_of_getElem? (i := 203) (by rfl))) (by decide +kernel))
theorem mx_J0_charAt_5068e : Mx yJ0_charAt_5068e cJ0_charAt_5068e 2 (some .char) 1 := ⟨(al_in (tb2 (List.mem_of_getElem? (i := 197) (by rfl))) (by decide +kernel)), (al_in (tb1 (List.mem_of_getElem? (i := 15) (by rfl))) (by decide +kernel)), ⟨by decide +kernel, by decide +kernel, by decide +kernel⟩, by decide⟩
theorem mi_J0_charAt_5068e : Cond.instanceMethod yJ0_charAt_5068e ∈ ALLg := (al_in (tb2 (List.mem_of_getElem? (i := 195) (by rfl))) (by decide +kernel))
theorem ms_J0_charAt_5068e : Cond.selects (yJ0_charAt_5068e).cls yJ0_charAt_5068e yJ0_charAt_5068e ∈ ALLg := (al_in (tb2 (List.mem_of_getElem? (i := 196) (by rfl))) (by decide +kernel))
theorem mx_X12_is : Mx yX12_is cX12_is 4 (some .boolean) 1 := ⟨(al_in (tb6 (List.mem_of_getElem? (i := 238) (by rfl))) (by decide +kernel)), (al_in (tb1 (List.mem_of_getElem? (i := 13) (by rfl))) (by decide +kernel)), ⟨by decide +kernel, by decide +kernel, by decide +kernel⟩, by decide⟩
theorem mi_X12_is : Cond.instanceMethod yX12_is ∈ ALLg := (al_in (tb6 (List.mem_of_getElem? (i := 237) (by rfl))) (by decide +kernel))
theorem ms_X12_is : Cond.selects (yX12_is).cls yX12_is yX12_is ∈ ALLg := (al_in (tb0 (List.mem_of_getElem? (i := 46) (by rfl))) (by decide +kernel))
theorem mx_X12_takes : Mx yX12_takes cX12_takes 3 (some .boolean) 1 := ⟨(al_in (tb6 (List.mem_of_getElem? (i := 234) (by rfl))) (by decide +kernel)), (al_in (tb1 (List.mem_of_getElem? (i := 13) (by rfl))) (by decide +kernel)), ⟨by decide +kernel, by decide +kernel, by decide +kernel⟩, by decide⟩
theorem mi_X12_takes : Cond.instanceMethod yX12_takes ∈ ALLg := (al_in (tb6 (List.mem_of_getElem? (i := 233) (by rfl))) (by decide +kernel))
theorem ms_X12_takes : Cond.selects (yX12_takes).cls yX12_takes yX12_takes ∈ ALLg := (al_in (tb0 (List.mem_of_getElem? (i := 45) (by rfl))) (by decide +kernel))
theorem ml_X12_162 : Cond.methodLink RX12 162 yX12_errs ∈ ALLg := (al_in (tb7 (List.mem_of_getElem? (i := 5) (by rfl))) (by decide +kernel))
theorem mx_X12_errs : Mx yX12_errs cX12_errs 2 none 1 := ⟨(al_in (tb7 (List.mem_of_getElem? (i := 8) (by rfl))) (by decide +kernel)), (al_in (tb1 (List.mem_of_getElem? (i := 13) (by rfl))) (by decide +kernel)), ⟨by decide +kernel, by decide +kernel, by decide +kernel⟩, by decide⟩
theorem mi_X12_errs : Cond.instanceMethod yX12_errs ∈ ALLg := (al_in (tb7 (List.mem_of_getElem? (i := 7) (by rfl))) (by decide +kernel))
theorem ms_X12_errs : Cond.selects (yX12_errs).cls yX12_errs yX12_errs ∈ ALLg := (al_in (tb0 (List.mem_of_getElem? (i := 48) (by rfl))) (by decide +kernel))
theorem mx_X12_needs : Mx yX12_needs cX12_needs 2 none 1 := ⟨(al_in (tb6 (List.mem_of_getElem? (i := 230) (by rfl))) (by decide +kernel)), (al_in (tb1 (List.mem_of_getElem? (i := 13) (by rfl))) (by decide +kernel)), ⟨by decide +kernel, by decide +kernel, by decide +kernel⟩, by decide⟩
theorem mi_X12_needs : Cond.instanceMethod yX12_needs ∈ ALLg := (al_in (tb6 (List.mem_of_getElem? (i := 229) (by rfl))) (by decide +kernel))
theorem ms_X12_needs : Cond.selects (yX12_needs).cls yX12_needs yX12_needs ∈ ALLg := (al_in (tb0 (List.mem_of_getElem? (i := 44) (by rfl))) (by decide +kernel))
theorem sr_X12_212 : (RX12, 212, "f", 44) ∈ strW := List.mem_of_getElem? (i := 44) (by rfl)
theorem ml_X12_189 : Cond.methodLink RX12 189 yX12_told ∈ ALLg := (al_in (tb6 (List.mem_of_getElem? (i := 223) (by rfl))) (by decide +kernel))
theorem ml_X12_170 : Cond.methodLink RX12 170 yX12_number ∈ ALLg := (al_in (tb7 (List.mem_of_getElem? (i := 9) (by rfl))) (by decide +kernel))
theorem mx_X12_number : Mx yX12_number cX12_number 4 (some .int) 2 := ⟨(al_in (tb7 (List.mem_of_getElem? (i := 12) (by rfl))) (by decide +kernel)), (al_in (tb1 (List.mem_of_getElem? (i := 13) (by rfl))) (by decide +kernel)), ⟨by decide +kernel, by decide +kernel, by decide +kernel⟩, by decide⟩
theorem mi_X12_number : Cond.instanceMethod yX12_number ∈ ALLg := (al_in (tb7 (List.mem_of_getElem? (i := 11) (by rfl))) (by decide +kernel))
theorem ms_X12_number : Cond.selects (yX12_number).cls yX12_number yX12_number ∈ ALLg := (al_in (tb0 (List.mem_of_getElem? (i := 49) (by rfl))) (by decide +kernel))
theorem mx_X12_told : Mx yX12_told cX12_told 4 (some .int) 3 := ⟨(al_in (tb6 (List.mem_of_getElem? (i := 226) (by rfl))) (by decide +kernel)), (al_in (tb1 (List.mem_of_getElem? (i := 13) (by rfl))) (by decide +kernel)), ⟨by decide +kernel, by decide +kernel, by decide +kernel⟩, by decide⟩
theorem mi_X12_told : Cond.instanceMethod yX12_told ∈ ALLg := (al_in (tb6 (List.mem_of_getElem? (i := 225) (by rfl))) (by decide +kernel))
theorem ms_X12_told : Cond.selects (yX12_told).cls yX12_told yX12_told ∈ ALLg := (al_in (tb0 (List.mem_of_getElem? (i := 43) (by rfl))) (by decide +kernel))
theorem sr_X12_214 : (RX12, 214, "h", 45) ∈ strW := List.mem_of_getElem? (i := 45) (by rfl)
theorem sr_X12_216 : (RX12, 216, "m", 46) ∈ strW := List.mem_of_getElem? (i := 46) (by rfl)
theorem ml_X12_178 : Cond.methodLink RX12 178 yX12_ends ∈ ALLg := (al_in (tb7 (List.mem_of_getElem? (i := 14) (by rfl))) (by decide +kernel))
theorem mx_X12_ends : Mx yX12_ends cX12_ends 1 none 0 := ⟨(al_in (tb7 (List.mem_of_getElem? (i := 17) (by rfl))) (by decide +kernel)), (al_in (tb1 (List.mem_of_getElem? (i := 13) (by rfl))) (by decide +kernel)), ⟨by decide +kernel, by decide +kernel, by decide +kernel⟩, by decide⟩
theorem mi_X12_ends : Cond.instanceMethod yX12_ends ∈ ALLg := (al_in (tb7 (List.mem_of_getElem? (i := 16) (by rfl))) (by decide +kernel))
theorem ms_X12_ends : Cond.selects (yX12_ends).cls yX12_ends yX12_ends ∈ ALLg := (al_in (tb0 (List.mem_of_getElem? (i := 50) (by rfl))) (by decide +kernel))
theorem ml_X12_218 : Cond.methodLink RX12 218 yX12_endsAll ∈ ALLg := (al_in (tb7 (List.mem_of_getElem? (i := 62) (by rfl))) (by decide +kernel))
theorem mx_X12_endsAll : Mx yX12_endsAll cX12_endsAll 1 none 0 := ⟨(al_in (tb7 (List.mem_of_getElem? (i := 65) (by rfl))) (by decide +kernel)), (al_in (tb1 (List.mem_of_getElem? (i := 13) (by rfl))) (by decide +kernel)), ⟨by decide +kernel, by decide +kernel, by decide +kernel⟩, by decide⟩
theorem mi_X12_endsAll : Cond.instanceMethod yX12_endsAll ∈ ALLg := (al_in (tb7 (List.mem_of_getElem? (i := 64) (by rfl))) (by decide +kernel))
theorem ms_X12_endsAll : Cond.selects (yX12_endsAll).cls yX12_endsAll yX12_endsAll ∈ ALLg := (al_in (tb0 (List.mem_of_getElem? (i := 59) (by rfl))) (by decide +kernel))
theorem ml_X12_197 : Cond.methodLink RX12 197 yX12_keeps ∈ ALLg := (al_in (tb7 (List.mem_of_getElem? (i := 26) (by rfl))) (by decide +kernel))
theorem mx_X12_keeps : Mx yX12_keeps cX12_keeps 4 none 2 := ⟨(al_in (tb7 (List.mem_of_getElem? (i := 29) (by rfl))) (by decide +kernel)), (al_in (tb1 (List.mem_of_getElem? (i := 13) (by rfl))) (by decide +kernel)), ⟨by decide +kernel, by decide +kernel, by decide +kernel⟩, by decide⟩
theorem mi_X12_keeps : Cond.instanceMethod yX12_keeps ∈ ALLg := (al_in (tb7 (List.mem_of_getElem? (i := 28) (by rfl))) (by decide +kernel))
theorem ms_X12_keeps : Cond.selects (yX12_keeps).cls yX12_keeps yX12_keeps ∈ ALLg := (al_in (tb0 (List.mem_of_getElem? (i := 52) (by rfl))) (by decide +kernel))
theorem ml_X12_221 : Cond.methodLink RX12 221 yX12_isWay ∈ ALLg := (al_in (tb7 (List.mem_of_getElem? (i := 70) (by rfl))) (by decide +kernel))
theorem kl_X12_92 : Cond.constantLong RX12 92 5 ∈ ALLg := (al_in (tb7 (List.mem_of_getElem? (i := 73) (by rfl))) (by decide +kernel))
theorem mx_X12_isWay : Mx yX12_isWay cX12_isWay 1 (some .boolean) 1 := ⟨(al_in (tb7 (List.mem_of_getElem? (i := 72) (by rfl))) (by decide +kernel)), (al_in (tb1 (List.mem_of_getElem? (i := 13) (by rfl))) (by decide +kernel)), ⟨by decide +kernel, by decide +kernel, by decide +kernel⟩, by decide⟩
theorem mt_X12_isWay : Cond.static yX12_isWay ∈ ALLg := (al_in (tb7 (List.mem_of_getElem? (i := 71) (by rfl))) (by decide +kernel))
theorem sr_X12_224 : (RX12, 224, "way", 47) ∈ strW := List.mem_of_getElem? (i := 47) (by rfl)
theorem sr_X12_226 : (RX12, 226, "over", 48) ∈ strW := List.mem_of_getElem? (i := 48) (by rfl)
theorem ml_X12_228 : Cond.methodLink RX12 228 yX12_sortsHere ∈ ALLg := (al_in (tb7 (List.mem_of_getElem? (i := 76) (by rfl))) (by decide +kernel))
theorem ml_X12_175 : Cond.methodLink RX12 175 yX12_signOf ∈ ALLg := (al_in (tb7 (List.mem_of_getElem? (i := 23) (by rfl))) (by decide +kernel))
theorem mx_X12_signOf : Mx yX12_signOf cX12_signOf 1 (some .int) 1 := ⟨(al_in (tb7 (List.mem_of_getElem? (i := 25) (by rfl))) (by decide +kernel)), (al_in (tb1 (List.mem_of_getElem? (i := 13) (by rfl))) (by decide +kernel)), ⟨by decide +kernel, by decide +kernel, by decide +kernel⟩, by decide⟩
theorem mt_X12_signOf : Cond.static yX12_signOf ∈ ALLg := (al_in (tb7 (List.mem_of_getElem? (i := 24) (by rfl))) (by decide +kernel))
theorem mx_X12_sortsHere : Mx yX12_sortsHere cX12_sortsHere 4 (some .int) 0 := ⟨(al_in (tb7 (List.mem_of_getElem? (i := 79) (by rfl))) (by decide +kernel)), (al_in (tb1 (List.mem_of_getElem? (i := 13) (by rfl))) (by decide +kernel)), ⟨by decide +kernel, by decide +kernel, by decide +kernel⟩, by decide⟩
theorem mi_X12_sortsHere : Cond.instanceMethod yX12_sortsHere ∈ ALLg := (al_in (tb7 (List.mem_of_getElem? (i := 78) (by rfl))) (by decide +kernel))
theorem ms_X12_sortsHere : Cond.selects (yX12_sortsHere).cls yX12_sortsHere yX12_sortsHere ∈ ALLg := (al_in (tb0 (List.mem_of_getElem? (i := 60) (by rfl))) (by decide +kernel))
theorem sr_X12_231 : (RX12, 231, "step", 49) ∈ strW := List.mem_of_getElem? (i := 49) (by rfl)
theorem sr_X12_233 : (RX12, 233, "group", 50) ∈ strW := List.mem_of_getElem? (i := 50) (by rfl)
theorem sr_X12_235 : (RX12, 235, "guard", 51) ∈ strW := List.mem_of_getElem? (i := 51) (by rfl)
theorem sr_X12_237 : (RX12, 237, "turn", 52) ∈ strW := List.mem_of_getElem? (i := 52) (by rfl)
theorem sr_X12_239 : (RX12, 239, "top", 53) ∈ strW := List.mem_of_getElem? (i := 53) (by rfl)
theorem ml_X12_241 : Cond.methodLink RX12 241 yX12_roomOf ∈ ALLg := (al_in (tb7 (List.mem_of_getElem? (i := 85) (by rfl))) (by decide +kernel))
theorem ml_X12_338 : Cond.methodLink RX12 338 yX12_lists ∈ ALLg := (al_in (tb7 (List.mem_of_getElem? (i := 89) (by rfl))) (by decide +kernel))
theorem fl_X12_335 : Fl RX12 335 12 17 false .int := ⟨RX12, TX12, 29, tyX12, ⟨rfl, by decide, inX12, tyX12_ok, nmX12, rfl, by decide +kernel⟩, rfl, (al_in (tb6 (List.mem_of_getElem? (i := 101) (by rfl))) (by decide +kernel))⟩
theorem ml_X12_203 : Cond.methodLink RX12 203 yX12_area ∈ ALLg := (al_in (tb7 (List.mem_of_getElem? (i := 34) (by rfl))) (by decide +kernel))
theorem ml_X12_83 : Cond.methodLink RX12 83 yX12_rows ∈ ALLg := (al_in (tb7 (List.mem_of_getElem? (i := 38) (by rfl))) (by decide +kernel))
theorem mx_X12_rows : Mx yX12_rows cX12_rows 1 (some .int) 0 := ⟨(al_in (tb7 (List.mem_of_getElem? (i := 41) (by rfl))) (by decide +kernel)), (al_in (tb1 (List.mem_of_getElem? (i := 13) (by rfl))) (by decide +kernel)), ⟨by decide +kernel, by decide +kernel, by decide +kernel⟩, by decide⟩
theorem mi_X12_rows : Cond.instanceMethod yX12_rows ∈ ALLg := (al_in (tb7 (List.mem_of_getElem? (i := 40) (by rfl))) (by decide +kernel))
theorem ms_X12_rows : Cond.selects (yX12_rows).cls yX12_rows yX12_rows ∈ ALLg := (al_in (tb0 (List.mem_of_getElem? (i := 55) (by rfl))) (by decide +kernel))
theorem ml_X12_87 : Cond.methodLink RX12 87 yX12_wide ∈ ALLg := (al_in (tb7 (List.mem_of_getElem? (i := 42) (by rfl))) (by decide +kernel))
theorem mx_X12_wide : Mx yX12_wide cX12_wide 1 (some .int) 0 := ⟨(al_in (tb7 (List.mem_of_getElem? (i := 45) (by rfl))) (by decide +kernel)), (al_in (tb1 (List.mem_of_getElem? (i := 13) (by rfl))) (by decide +kernel)), ⟨by decide +kernel, by decide +kernel, by decide +kernel⟩, by decide⟩
theorem mi_X12_wide : Cond.instanceMethod yX12_wide ∈ ALLg := (al_in (tb7 (List.mem_of_getElem? (i := 44) (by rfl))) (by decide +kernel))
theorem ms_X12_wide : Cond.selects (yX12_wide).cls yX12_wide yX12_wide ∈ ALLg := (al_in (tb0 (List.mem_of_getElem? (i := 56) (by rfl))) (by decide +kernel))
theorem mx_X12_area : Mx yX12_area cX12_area 1 (some .int) 0 := ⟨(al_in (tb7 (List.mem_of_getElem? (i := 37) (by rfl))) (by decide +kernel)), (al_in (tb1 (List.mem_of_getElem? (i := 13) (by rfl))) (by decide +kernel)), ⟨by decide +kernel, by decide +kernel, by decide +kernel⟩, by decide⟩
theorem mi_X12_area : Cond.instanceMethod yX12_area ∈ ALLg := (al_in (tb7 (List.mem_of_getElem? (i := 36) (by rfl))) (by decide +kernel))
theorem ms_X12_area : Cond.selects (yX12_area).cls yX12_area yX12_area ∈ ALLg := (al_in (tb0 (List.mem_of_getElem? (i := 54) (by rfl))) (by decide +kernel))
theorem ml_X12_94 : Cond.methodLink RX12 94 yX12_ofWay ∈ ALLg := (al_in (tb7 (List.mem_of_getElem? (i := 93) (by rfl))) (by decide +kernel))
theorem mx_X12_ofWay : Mx yX12_ofWay cX12_ofWay 3 (some .int) 2 := ⟨(al_in (tb7 (List.mem_of_getElem? (i := 96) (by rfl))) (by decide +kernel)), (al_in (tb1 (List.mem_of_getElem? (i := 13) (by rfl))) (by decide +kernel)), ⟨by decide +kernel, by decide +kernel, by decide +kernel⟩, by decide⟩
theorem mi_X12_ofWay : Cond.instanceMethod yX12_ofWay ∈ ALLg := (al_in (tb7 (List.mem_of_getElem? (i := 95) (by rfl))) (by decide +kernel))
theorem ms_X12_ofWay : Cond.selects (yX12_ofWay).cls yX12_ofWay yX12_ofWay ∈ ALLg := (al_in (tb0 (List.mem_of_getElem? (i := 63) (by rfl))) (by decide +kernel))
theorem ml_X12_98 : Cond.methodLink RX12 98 yX12_sortOf ∈ ALLg := (al_in (tb7 (List.mem_of_getElem? (i := 50) (by rfl))) (by decide +kernel))
theorem mx_X12_sortOf : Mx yX12_sortOf cX12_sortOf 4 (some .int) 1 := ⟨(al_in (tb7 (List.mem_of_getElem? (i := 53) (by rfl))) (by decide +kernel)), (al_in (tb1 (List.mem_of_getElem? (i := 13) (by rfl))) (by decide +kernel)), ⟨by decide +kernel, by decide +kernel, by decide +kernel⟩, by decide⟩
theorem mi_X12_sortOf : Cond.instanceMethod yX12_sortOf ∈ ALLg := (al_in (tb7 (List.mem_of_getElem? (i := 52) (by rfl))) (by decide +kernel))
theorem ms_X12_sortOf : Cond.selects (yX12_sortOf).cls yX12_sortOf yX12_sortOf ∈ ALLg := (al_in (tb0 (List.mem_of_getElem? (i := 58) (by rfl))) (by decide +kernel))
theorem fl_X12_40 : Fl RX12 40 12 16 true (.array .int) := ⟨RX12, TX12, 29, tyX12, ⟨rfl, by decide, inX12, tyX12_ok, nmX12, rfl, by decide +kernel⟩, rfl, (al_in (tb6 (List.mem_of_getElem? (i := 100) (by rfl))) (by decide +kernel))⟩
theorem mx_X12_lists : Mx yX12_lists cX12_lists 7 none 1 := ⟨(al_in (tb7 (List.mem_of_getElem? (i := 92) (by rfl))) (by decide +kernel)), (al_in (tb1 (List.mem_of_getElem? (i := 13) (by rfl))) (by decide +kernel)), ⟨by decide +kernel, by decide +kernel, by decide +kernel⟩, by decide⟩
theorem mi_X12_lists : Cond.instanceMethod yX12_lists ∈ ALLg := (al_in (tb7 (List.mem_of_getElem? (i := 91) (by rfl))) (by decide +kernel))
theorem ms_X12_lists : Cond.selects (yX12_lists).cls yX12_lists yX12_lists ∈ ALLg := (al_in (tb0 (List.mem_of_getElem? (i := 62) (by rfl))) (by decide +kernel))
theorem mx_X12_roomOf : Mx yX12_roomOf cX12_roomOf 2 (some .int) 1 := ⟨(al_in (tb7 (List.mem_of_getElem? (i := 88) (by rfl))) (by decide +kernel)), (al_in (tb1 (List.mem_of_getElem? (i := 13) (by rfl))) (by decide +kernel)), ⟨by decide +kernel, by decide +kernel, by decide +kernel⟩, by decide⟩
theorem mi_X12_roomOf : Cond.instanceMethod yX12_roomOf ∈ ALLg := (al_in (tb7 (List.mem_of_getElem? (i := 87) (by rfl))) (by decide +kernel))
theorem ms_X12_roomOf : Cond.selects (yX12_roomOf).cls yX12_roomOf yX12_roomOf ∈ ALLg := (al_in (tb0 (List.mem_of_getElem? (i := 61) (by rfl))) (by decide +kernel))
