theorem fl_X12_105 : Fl RX12 105 12 7 false .int := ⟨RX12, TX12, 29, tyX12, ⟨rfl, by decide, inX12, tyX12_ok, nmX12, rfl, by decide +kernel⟩, rfl, (al_in (tb6 (List.mem_of_getElem? (i := 91) (by rfl))) (by decide +kernel))⟩
theorem fl_X12_24 : Fl RX12 24 12 4 true (.array .byte) := ⟨RX12, TX12, 29, tyX12, ⟨rfl, by decide, inX12, tyX12_ok, nmX12, rfl, by decide +kernel⟩, rfl, (al_in (tb6 (List.mem_of_getElem? (i := 88) (by rfl))) (by decide +kernel))⟩
theorem fl_X12_102 : Fl RX12 102 12 5 false .int := ⟨RX12, TX12, 29, tyX12, ⟨rfl, by decide, inX12, tyX12_ok, nmX12, rfl, by decide +kernel⟩, rfl, (al_in (tb6 (List.mem_of_getElem? (i := 89) (by rfl))) (by decide +kernel))⟩
theorem fl_X12_108 : Fl RX12 108 12 8 false .int := ⟨RX12, TX12, 29, tyX12, ⟨rfl, by decide, inX12, tyX12_ok, nmX12, rfl, by decide +kernel⟩, rfl, (al_in (tb6 (List.mem_of_getElem? (i := 92) (by rfl))) (by decide +kernel))⟩
theorem fl_X12_111 : Fl RX12 111 12 12 false .int := ⟨RX12, TX12, 29, tyX12, ⟨rfl, by decide, inX12, tyX12_ok, nmX12, rfl, by decide +kernel⟩, rfl, (al_in (tb6 (List.mem_of_getElem? (i := 96) (by rfl))) (by decide +kernel))⟩
theorem fl_X12_31 : Fl RX12 31 12 13 false .int := ⟨RX12, TX12, 29, tyX12, ⟨rfl, by decide, inX12, tyX12_ok, nmX12, rfl, by decide +kernel⟩, rfl, (al_in (tb6 (List.mem_of_getElem? (i := 97) (by rfl))) (by decide +kernel))⟩
theorem ml_X12_114 : Cond.methodLink RX12 114 yX12_see ∈ ALLg := (al_in (tb6 (List.mem_of_getElem? (i := 213) (by rfl))) (by decide +kernel))
theorem mx_X12_see : Mx yX12_see cX12_see 2 (some .int) 1 := ⟨(al_in (tb6 (List.mem_of_getElem? (i := 216) (by rfl))) (by decide +kernel)), (al_in (tb1 (List.mem_of_getElem? (i := 13) (by rfl))) (by decide +kernel)), ⟨by decide +kernel, by decide +kernel, by decide +kernel⟩, by decide⟩
theorem mi_X12_see : Cond.instanceMethod yX12_see ∈ ALLg := (al_in (tb6 (List.mem_of_getElem? (i := 215) (by rfl))) (by decide +kernel))
theorem ms_X12_see : Cond.selects (yX12_see).cls yX12_see yX12_see ∈ ALLg := (al_in (tb0 (List.mem_of_getElem? (i := 42) (by rfl))) (by decide +kernel))
theorem fl_X12_117 : Fl RX12 117 12 9 false .int := ⟨RX12, TX12, 29, tyX12, ⟨rfl, by decide, inX12, tyX12_ok, nmX12, rfl, by decide +kernel⟩, rfl, (al_in (tb6 (List.mem_of_getElem? (i := 93) (by rfl))) (by decide +kernel))⟩
theorem kl_X12_123 : Cond.constantLong RX12 123 97 ∈ ALLg := (al_in (tb6 (List.mem_of_getElem? (i := 217) (by rfl))) (by decide +kernel))
theorem kl_X12_125 : Cond.constantLong RX12 125 122 ∈ ALLg := (al_in (tb6 (List.mem_of_getElem? (i := 218) (by rfl))) (by decide +kernel))
theorem ml_X12_79 : Cond.methodLink RX12 79 yX12_in ∈ ALLg := (al_in (tb6 (List.mem_of_getElem? (i := 178) (by rfl))) (by decide +kernel))
theorem mx_X12_in : Mx yX12_in cX12_in 6 (some .boolean) 3 := ⟨(al_in (tb6 (List.mem_of_getElem? (i := 180) (by rfl))) (by decide +kernel)), (al_in (tb1 (List.mem_of_getElem? (i := 13) (by rfl))) (by decide +kernel)), ⟨by decide +kernel, by decide +kernel, by decide +kernel⟩, by decide⟩
theorem mt_X12_in : Cond.static yX12_in ∈ ALLg := (al_in (tb6 (List.mem_of_getElem? (i := 179) (by rfl))) (by decide +kernel))
theorem kl_X12_127 : Cond.constantLong RX12 127 48 ∈ ALLg := (al_in (tb6 (List.mem_of_getElem? (i := 219) (by rfl))) (by decide +kernel))
theorem kl_X12_129 : Cond.constantLong RX12 129 57 ∈ ALLg := (al_in (tb6 (List.mem_of_getElem? (i := 220) (by rfl))) (by decide +kernel))
theorem fl_X12_120 : Fl RX12 120 12 10 false .int := ⟨RX12, TX12, 29, tyX12, ⟨rfl, by decide, inX12, tyX12_ok, nmX12, rfl, by decide +kernel⟩, rfl, (al_in (tb6 (List.mem_of_getElem? (i := 94) (by rfl))) (by decide +kernel))⟩
theorem fl_X12_131 : Fl RX12 131 12 11 false .int := ⟨RX12, TX12, 29, tyX12, ⟨rfl, by decide, inX12, tyX12_ok, nmX12, rfl, by decide +kernel⟩, rfl, (al_in (tb6 (List.mem_of_getElem? (i := 95) (by rfl))) (by decide +kernel))⟩
theorem ml_X12_134 : Cond.methodLink RX12 134 yJ9_min_7cf53 ∈ ALLg := (al_in (tb6 (List.mem_of_getElem? (i := 221) (by rfl))) (by decide +kernel))
theorem mm_X12_134 : Cond.methodLink RX12 134 Lib.Math.min.name ∈ ALLg := (al_in (tb6 (List.mem_of_getElem? (i := 221) (by rfl))) (by decide +kernel))
theorem mm_smin : Cond.static Lib.Math.min.name ∈ ALLg := (al_in (tb2 (List.mem_of_getElem? (i := 173) (by rfl))) (by decide +kernel))
theorem mm_i : Cond.initialized "java/lang/Math" ∈ ALLg := (al_in (tb1 (List.mem_of_getElem? (i := 14) (by rfl))) (by decide +kernel))
theorem mm_cmin : Cond.code Lib.Math.min.name Lib.Math.min.code 2 (some .int) ∈ ALLg := (al_in (tb2 (List.mem_of_getElem? (i := 174) (by rfl))) (by decide +kernel))
theorem ml_X12_139 : Cond.methodLink RX12 139 yX12_good ∈ ALLg := (al_in (tb6 (List.mem_of_getElem? (i := 239) (by rfl))) (by decide +kernel))
theorem mx_X12_good : Mx yX12_good cX12_good 1 (some .boolean) 0 := ⟨(al_in (tb7 (List.mem_of_getElem? (i := 2) (by rfl))) (by decide +kernel)), (al_in (tb1 (List.mem_of_getElem? (i := 13) (by rfl))) (by decide +kernel)), ⟨by decide +kernel, by decide +kernel, by decide +kernel⟩, by decide⟩
theorem mi_X12_good : Cond.instanceMethod yX12_good ∈ ALLg := (al_in (tb7 (List.mem_of_getElem? (i := 1) (by rfl))) (by decide +kernel))
theorem ms_X12_good : Cond.selects (yX12_good).cls yX12_good yX12_good ∈ ALLg := (al_in (tb0 (List.mem_of_getElem? (i := 47) (by rfl))) (by decide +kernel))
theorem ml_X12_143 : Cond.methodLink RX12 143 yJ0_length_8abf5 ∈ ALLg := (al_in (tb7 (List.mem_of_getElem? (i := 3) (by rfl))) (by decide +kernel))
theorem sf_J0_9 : Cond.fieldLink RJ0 9 "java/lang/String" "value" "[B" ∈ ALLg := (al_in (tb8 (List.mem_of_getElem? (i := 161) (by rfl))) (by decide +kernel))
theorem ml_J0_335 : Cond.methodLink RJ0 335 yJ0_coder_7d493 ∈ ALLg := (al_in (tb2 (List.mem_of_getElem? (i := 188) (by rfl))) (by decide +kernel))
theorem sf_J0_38 : Cond.fieldLink RJ0 38 "java/lang/String" "COMPACT_STRINGS" "Z" ∈ ALLg := (al_in (tb2 (List.mem_of_getElem? (i := 192) (by rfl))) (by decide +kernel))
theorem sf_J0_15 : Cond.fieldLink RJ0 15 "java/lang/String" "coder" "B" ∈ ALLg := (al_in (tb8 (List.mem_of_getElem? (i := 162) (by rfl))) (by decide +kernel))
theorem mx_J0_coder_7d493 : Mx yJ0_coder_7d493 cJ0_coder_7d493 1 (some .byte) 0 := ⟨(al_in (tb2 (List.mem_of_getElem? (i := 191) (by rfl))) (by decide +kernel)), (al_in (tb1 (List.mem_of_getElem? (i := 15) (by rfl))) (by decide +kernel)), ⟨by decide +kernel, by decide +kernel, by decide +kernel⟩, by decide⟩
theorem mi_J0_coder_7d493 : Cond.instanceMethod yJ0_coder_7d493 ∈ ALLg := (al_in (tb2 (List.mem_of_getElem? (i := 189) (by rfl))) (by decide +kernel))
theorem ms_J0_coder_7d493 : Cond.selects (yJ0_coder_7d493).cls yJ0_coder_7d493 yJ0_coder_7d493 ∈ ALLg := (al_in (tb2 (List.mem_of_getElem? (i := 190) (by rfl))) (by decide +kernel))
theorem mx_J0_length_8abf5 : Mx yJ0_length_8abf5 cJ0_length_8abf5 1 (some .int) 0 := ⟨(al_in (tb2 (List.mem_of_getElem? (i := 187) (by rfl))) (by decide +kernel)), (al_in (tb1 (List.mem_of_getElem? (i := 15) (by rfl))) (by decide +kernel)), ⟨by decide +kernel, by decide +kernel, by decide +kernel⟩, by decide⟩
theorem mi_J0_length_8abf5 : Cond.instanceMethod yJ0_length_8abf5 ∈ ALLg := (al_in (tb2 (List.mem_of_getElem? (i := 185) (by rfl))) (by decide +kernel))
theorem ms_J0_length_8abf5 : Cond.selects (yJ0_length_8abf5).cls yJ0_length_8abf5 yJ0_length_8abf5 ∈ ALLg := (al_in (tb2 (List.mem_of_getElem? (i := 186) (by rfl))) (by decide +kernel))
theorem ml_X12_148 : Cond.methodLink RX12 148 yJ0_charAt_5068e ∈ ALLg := (al_in (tb7 (List.mem_of_getElem? (i := 4) (by rfl))) (by decide +kernel))
theorem ml_J0_492 : Cond.methodLink RJ0 492 yJ0_isLatin1_aae02 ∈ ALLg := (al_in (tb2 (List.mem_of_getElem? (i := 198) (by rfl))) (by decide +kernel))
theorem mx_J0_isLatin1_aae02 : Mx yJ0_isLatin1_aae02 cJ0_isLatin1_aae02 1 (some .boolean) 0 := ⟨(al_in (tb2 (List.mem_of_getElem? (i := 201) (by rfl))) (by decide +kernel)), (al_in (tb1 (List.mem_of_getElem? (i := 15) (by rfl))) (by decide +kernel)), ⟨by decide +kernel, by decide +kernel, by decide +kernel⟩, by decide⟩
theorem mi_J0_isLatin1_aae02 : Cond.instanceMethod yJ0_isLatin1_aae02 ∈ ALLg := (al_in (tb2 (List.mem_of_getElem? (i := 199) (by rfl))) (by decide +kernel))
theorem ms_J0_isLatin1_aae02 : Cond.selects (yJ0_isLatin1_aae02).cls yJ0_isLatin1_aae02 yJ0_isLatin1_aae02 ∈ ALLg := (al_in (tb2 (List.mem_of_getElem? (i := 200) (by rfl))) (by decide +kernel))
theorem ml_J0_495 : Cond.methodLink RJ0 495 yJ1_charAt_3b067 ∈ ALLg := (al_in (tb2 (List.mem_of_getElem? (i := 202) (by rfl))) (by decide +kernel))
theorem ml_J1_9 : Cond.methodLink RJ1 9 yJ0_checkIndex_df160 ∈ ALLg := (al_in (tb2 (List.mem_of_getElem? (i := 205) (by rfl))) (by decide +kernel))
theorem sf_J0_1053 : Cond.fieldLink RJ0 1053 "jdk/internal/util/Preconditions" "SIOOBE_FORMATTER" "Ljava/util/function/BiFunction;" ∈ ALLg := (al_in (tb2 (List.mem_of_getElem? (i := 208) (by rfl))) (by decide +kernel))
theorem ml_J0_1059 : Cond.methodLink RJ0 1059 yJ3_checkIndex_8e157 ∈ ALLg := (al_in (tb2 (List.mem_of_getElem? (i := 210) (by rfl))) (by decide +kernel))
theorem mx_J3_checkIndex_8e157 : Mx yJ3_checkIndex_8e157 cJ3_checkIndex_8e157 3 (some .int) 3 := ⟨(al_in (tb2 (List.mem_of_getElem? (i := 212) (by rfl))) (by decide +kernel)), (al_in (tb1 (List.mem_of_getElem? (i := 17) (by rfl))) (by decide +kernel)), ⟨by decide +kernel, by decide +kernel, by decide +kernel⟩, by decide⟩
theorem mt_J3_checkIndex_8e157 : Cond.static yJ3_checkIndex_8e157 ∈ ALLg := (al_in (tb2 (List.mem_of_getElem? (i := 211) (by rfl))) (by decide +kernel))
theorem mx_J0_checkIndex_df160 : Mx yJ0_checkIndex_df160 cJ0_checkIndex_df160 2 none 2 := ⟨(al_in (tb2 (List.mem_of_getElem? (i := 207) (by rfl))) (by decide +kernel)), (al_in (tb1 (List.mem_of_getElem? (i := 15) (by rfl))) (by decide +kernel)), ⟨by decide +kernel, by decide +kernel, by decide +kernel⟩, by decide⟩
theorem mt_J0_checkIndex_df160 : Cond.static yJ0_checkIndex_df160 ∈ ALLg := (al_in (tb2 (List.mem_of_getElem? (i := 206) (by rfl))) (by decide +kernel))
theorem mx_J1_charAt_3b067 : Mx yJ1_charAt_3b067 cJ1_charAt_3b067 2 (some .char) 2 := ⟨(al_in (tb2 (List.mem_of_getElem? (i := 204) (by rfl))) (by decide +kernel)), (al_in (tb1 (List.mem_of_getElem? (i := 16) (by rfl))) (by decide +kernel)), ⟨by decide +kernel, by decide +kernel, by decide +kernel⟩, by decide⟩
theorem mt_J1_charAt_3b067 : Cond.static yJ1_charAt_3b067 ∈ ALLg := (al_in (tb2 (List.mem_of_getElem? (i := 203) (by rfl))) (by decide +kernel))
theorem mx_J0_charAt_5068e : Mx yJ0_charAt_5068e cJ0_charAt_5068e 2 (some .char) 1 := ⟨(al_in (tb2 (List.mem_of_getElem? (i := 197) (by rfl))) (by decide +kernel)), (al_in (tb1 (List.mem_of_getElem? (i := 15) (by rfl))) (by decide +kernel)), ⟨by decide +kernel, by decide +kernel, by decide +kernel⟩, by decide⟩
theorem mi_J0_charAt_5068e : Cond.instanceMethod yJ0_charAt_5068e ∈ ALLg := (al_in (tb2 (List.mem_of_getElem? (i := 195) (by rfl))) (by decide +kernel))
theorem ms_J0_charAt_5068e : Cond.selects (yJ0_charAt_5068e).cls yJ0_charAt_5068e yJ0_charAt_5068e ∈ ALLg := (al_in (tb2 (List.mem_of_getElem? (i := 196) (by rfl))) (by decide +kernel))
theorem ml_X12_152 : Cond.methodLink RX12 152 yX12_is ∈ ALLg := (al_in (tb6 (List.mem_of_getElem? (i := 235) (by rfl))) (by decide +kernel))
theorem mx_X12_is : Mx yX12_is cX12_is 4 (some .boolean) 1 := ⟨(al_in (tb6 (List.mem_of_getElem? (i := 238) (by rfl))) (by decide +kernel)), (al_in (tb1 (List.mem_of_getElem? (i := 13) (by rfl))) (by decide +kernel)), ⟨by decide +kernel, by decide +kernel, by decide +kernel⟩, by decide⟩
theorem mi_X12_is : Cond.instanceMethod yX12_is ∈ ALLg := (al_in (tb6 (List.mem_of_getElem? (i := 237) (by rfl))) (by decide +kernel))
theorem ms_X12_is : Cond.selects (yX12_is).cls yX12_is yX12_is ∈ ALLg := (al_in (tb0 (List.mem_of_getElem? (i := 46) (by rfl))) (by decide +kernel))
theorem ml_X12_156 : Cond.methodLink RX12 156 yX12_advance ∈ ALLg := (al_in (tb6 (List.mem_of_getElem? (i := 209) (by rfl))) (by decide +kernel))
theorem mx_X12_advance : Mx yX12_advance cX12_advance 2 none 0 := ⟨(al_in (tb6 (List.mem_of_getElem? (i := 212) (by rfl))) (by decide +kernel)), (al_in (tb1 (List.mem_of_getElem? (i := 13) (by rfl))) (by decide +kernel)), ⟨by decide +kernel, by decide +kernel, by decide +kernel⟩, by decide⟩
theorem mi_X12_advance : Cond.instanceMethod yX12_advance ∈ ALLg := (al_in (tb6 (List.mem_of_getElem? (i := 211) (by rfl))) (by decide +kernel))
theorem ms_X12_advance : Cond.selects (yX12_advance).cls yX12_advance yX12_advance ∈ ALLg := (al_in (tb0 (List.mem_of_getElem? (i := 41) (by rfl))) (by decide +kernel))
theorem ml_X12_159 : Cond.methodLink RX12 159 yX12_takes ∈ ALLg := (al_in (tb6 (List.mem_of_getElem? (i := 231) (by rfl))) (by decide +kernel))
theorem mx_X12_takes : Mx yX12_takes cX12_takes 3 (some .boolean) 1 := ⟨(al_in (tb6 (List.mem_of_getElem? (i := 234) (by rfl))) (by decide +kernel)), (al_in (tb1 (List.mem_of_getElem? (i := 13) (by rfl))) (by decide +kernel)), ⟨by decide +kernel, by decide +kernel, by decide +kernel⟩, by decide⟩
theorem mi_X12_takes : Cond.instanceMethod yX12_takes ∈ ALLg := (al_in (tb6 (List.mem_of_getElem? (i := 233) (by rfl))) (by decide +kernel))
theorem ms_X12_takes : Cond.selects (yX12_takes).cls yX12_takes yX12_takes ∈ ALLg := (al_in (tb0 (List.mem_of_getElem? (i := 45) (by rfl))) (by decide +kernel))
theorem ml_X12_162 : Cond.methodLink RX12 162 yX12_errs ∈ ALLg := (al_in (tb7 (List.mem_of_getElem? (i := 5) (by rfl))) (by decide +kernel))
theorem mx_X12_errs : Mx yX12_errs cX12_errs 2 none 1 := ⟨(al_in (tb7 (List.mem_of_getElem? (i := 8) (by rfl))) (by decide +kernel)), (al_in (tb1 (List.mem_of_getElem? (i := 13) (by rfl))) (by decide +kernel)), ⟨by decide +kernel, by decide +kernel, by decide +kernel⟩, by decide⟩
theorem mi_X12_errs : Cond.instanceMethod yX12_errs ∈ ALLg := (al_in (tb7 (List.mem_of_getElem? (i := 7) (by rfl))) (by decide +kernel))
theorem ms_X12_errs : Cond.selects (yX12_errs).cls yX12_errs yX12_errs ∈ ALLg := (al_in (tb0 (List.mem_of_getElem? (i := 48) (by rfl))) (by decide +kernel))
theorem ml_X12_166 : Cond.methodLink RX12 166 yX12_needs ∈ ALLg := (al_in (tb6 (List.mem_of_getElem? (i := 227) (by rfl))) (by decide +kernel))
theorem mx_X12_needs : Mx yX12_needs cX12_needs 2 none 1 := ⟨(al_in (tb6 (List.mem_of_getElem? (i := 230) (by rfl))) (by decide +kernel)), (al_in (tb1 (List.mem_of_getElem? (i := 13) (by rfl))) (by decide +kernel)), ⟨by decide +kernel, by decide +kernel, by decide +kernel⟩, by decide⟩
theorem mi_X12_needs : Cond.instanceMethod yX12_needs ∈ ALLg := (al_in (tb6 (List.mem_of_getElem? (i := 229) (by rfl))) (by decide +kernel))
theorem ms_X12_needs : Cond.selects (yX12_needs).cls yX12_needs yX12_needs ∈ ALLg := (al_in (tb0 (List.mem_of_getElem? (i := 44) (by rfl))) (by decide +kernel))
theorem ml_X12_170 : Cond.methodLink RX12 170 yX12_number ∈ ALLg := (al_in (tb7 (List.mem_of_getElem? (i := 9) (by rfl))) (by decide +kernel))
theorem mx_X12_number : Mx yX12_number cX12_number 4 (some .int) 2 := ⟨(al_in (tb7 (List.mem_of_getElem? (i := 12) (by rfl))) (by decide +kernel)), (al_in (tb1 (List.mem_of_getElem? (i := 13) (by rfl))) (by decide +kernel)), ⟨by decide +kernel, by decide +kernel, by decide +kernel⟩, by decide⟩
theorem mi_X12_number : Cond.instanceMethod yX12_number ∈ ALLg := (al_in (tb7 (List.mem_of_getElem? (i := 11) (by rfl))) (by decide +kernel))
theorem ms_X12_number : Cond.selects (yX12_number).cls yX12_number yX12_number ∈ ALLg := (al_in (tb0 (List.mem_of_getElem? (i := 49) (by rfl))) (by decide +kernel))
theorem fl_X12_28 : Fl RX12 28 12 6 true (.array .int) := ⟨RX12, TX12, 29, tyX12, ⟨rfl, by decide, inX12, tyX12_ok, nmX12, rfl, by decide +kernel⟩, rfl, (al_in (tb6 (List.mem_of_getElem? (i := 90) (by rfl))) (by decide +kernel))⟩
theorem ml_X12_175 : Cond.methodLink RX12 175 yX12_signOf ∈ ALLg := (al_in (tb7 (List.mem_of_getElem? (i := 23) (by rfl))) (by decide +kernel))
theorem mx_X12_signOf : Mx yX12_signOf cX12_signOf 1 (some .int) 1 := ⟨(al_in (tb7 (List.mem_of_getElem? (i := 25) (by rfl))) (by decide +kernel)), (al_in (tb1 (List.mem_of_getElem? (i := 13) (by rfl))) (by decide +kernel)), ⟨by decide +kernel, by decide +kernel, by decide +kernel⟩, by decide⟩
theorem mt_X12_signOf : Cond.static yX12_signOf ∈ ALLg := (al_in (tb7 (List.mem_of_getElem? (i := 24) (by rfl))) (by decide +kernel))
theorem fl_X12_13 : Fl RX12 13 12 1 true (.array .int) := ⟨RX12, TX12, 29, tyX12, ⟨rfl, by decide, inX12, tyX12_ok, nmX12, rfl, by decide +kernel⟩, rfl, (al_in (tb6 (List.mem_of_getElem? (i := 85) (by rfl))) (by decide +kernel))⟩
theorem fl_X12_34 : Fl RX12 34 12 14 true (.array .int) := ⟨RX12, TX12, 29, tyX12, ⟨rfl, by decide, inX12, tyX12_ok, nmX12, rfl, by decide +kernel⟩, rfl, (al_in (tb6 (List.mem_of_getElem? (i := 98) (by rfl))) (by decide +kernel))⟩
theorem ml_X12_181 : Cond.methodLink RX12 181 yX12_begin ∈ ALLg := (al_in (tb6 (List.mem_of_getElem? (i := 201) (by rfl))) (by decide +kernel))
theorem mx_X12_begin : Mx yX12_begin cX12_begin 1 none 0 := ⟨(al_in (tb6 (List.mem_of_getElem? (i := 204) (by rfl))) (by decide +kernel)), (al_in (tb1 (List.mem_of_getElem? (i := 13) (by rfl))) (by decide +kernel)), ⟨by decide +kernel, by decide +kernel, by decide +kernel⟩, by decide⟩
theorem mi_X12_begin : Cond.instanceMethod yX12_begin ∈ ALLg := (al_in (tb6 (List.mem_of_getElem? (i := 203) (by rfl))) (by decide +kernel))
theorem ms_X12_begin : Cond.selects (yX12_begin).cls yX12_begin yX12_begin ∈ ALLg := (al_in (tb0 (List.mem_of_getElem? (i := 39) (by rfl))) (by decide +kernel))
theorem fl_X12_43 : Fl RX12 43 12 18 true (.array .int) := ⟨RX12, TX12, 29, tyX12, ⟨rfl, by decide, inX12, tyX12_ok, nmX12, rfl, by decide +kernel⟩, rfl, (al_in (tb6 (List.mem_of_getElem? (i := 102) (by rfl))) (by decide +kernel))⟩
theorem ml_X12_357 : Cond.methodLink RX12 357 yX12_asks ∈ ALLg := (al_in (tb7 (List.mem_of_getElem? (i := 181) (by rfl))) (by decide +kernel))
theorem ml_X12_319 : Cond.methodLink RX12 319 yX12_isCloth ∈ ALLg := (al_in (tb7 (List.mem_of_getElem? (i := 148) (by rfl))) (by decide +kernel))
theorem kl_X12_90 : Cond.constantLong RX12 90 3 ∈ ALLg := (al_in (tb7 (List.mem_of_getElem? (i := 151) (by rfl))) (by decide +kernel))
theorem mx_X12_isCloth : Mx yX12_isCloth cX12_isCloth 1 (some .boolean) 1 := ⟨(al_in (tb7 (List.mem_of_getElem? (i := 150) (by rfl))) (by decide +kernel)), (al_in (tb1 (List.mem_of_getElem? (i := 13) (by rfl))) (by decide +kernel)), ⟨by decide +kernel, by decide +kernel, by decide +kernel⟩, by decide⟩
theorem mt_X12_isCloth : Cond.static yX12_isCloth ∈ ALLg := (al_in (tb7 (List.mem_of_getElem? (i := 149) (by rfl))) (by decide +kernel))
theorem ml_X12_221 : Cond.methodLink RX12 221 yX12_isWay ∈ ALLg := (al_in (tb7 (List.mem_of_getElem? (i := 70) (by rfl))) (by decide +kernel))
theorem kl_X12_92 : Cond.constantLong RX12 92 5 ∈ ALLg := (al_in (tb7 (List.mem_of_getElem? (i := 73) (by rfl))) (by decide +kernel))
theorem mx_X12_isWay : Mx yX12_isWay cX12_isWay 1 (some .boolean) 1 := ⟨(al_in (tb7 (List.mem_of_getElem? (i := 72) (by rfl))) (by decide +kernel)), (al_in (tb1 (List.mem_of_getElem? (i := 13) (by rfl))) (by decide +kernel)), ⟨by decide +kernel, by decide +kernel, by decide +kernel⟩, by decide⟩
theorem mt_X12_isWay : Cond.static yX12_isWay ∈ ALLg := (al_in (tb7 (List.mem_of_getElem? (i := 71) (by rfl))) (by decide +kernel))
theorem ml_X12_351 : Cond.methodLink RX12 351 yX12_isThere ∈ ALLg := (al_in (tb7 (List.mem_of_getElem? (i := 185) (by rfl))) (by decide +kernel))
theorem mx_X12_isThere : Mx yX12_isThere cX12_isThere 2 (some .boolean) 1 := ⟨(al_in (tb7 (List.mem_of_getElem? (i := 188) (by rfl))) (by decide +kernel)), (al_in (tb1 (List.mem_of_getElem? (i := 13) (by rfl))) (by decide +kernel)), ⟨by decide +kernel, by decide +kernel, by decide +kernel⟩, by decide⟩
theorem mi_X12_isThere : Cond.instanceMethod yX12_isThere ∈ ALLg := (al_in (tb7 (List.mem_of_getElem? (i := 187) (by rfl))) (by decide +kernel))
theorem ms_X12_isThere : Cond.selects (yX12_isThere).cls yX12_isThere yX12_isThere ∈ ALLg := (al_in (tb0 (List.mem_of_getElem? (i := 73) (by rfl))) (by decide +kernel))
theorem ml_X12_354 : Cond.methodLink RX12 354 yX12_isTold ∈ ALLg := (al_in (tb7 (List.mem_of_getElem? (i := 189) (by rfl))) (by decide +kernel))
theorem ml_X12_94 : Cond.methodLink RX12 94 yX12_ofWay ∈ ALLg := (al_in (tb7 (List.mem_of_getElem? (i := 93) (by rfl))) (by decide +kernel))
theorem mx_X12_ofWay : Mx yX12_ofWay cX12_ofWay 3 (some .int) 2 := ⟨(al_in (tb7 (List.mem_of_getElem? (i := 96) (by rfl))) (by decide +kernel)), (al_in (tb1 (List.mem_of_getElem? (i := 13) (by rfl))) (by decide +kernel)), ⟨by decide +kernel, by decide +kernel, by decide +kernel⟩, by decide⟩
theorem mi_X12_ofWay : Cond.instanceMethod yX12_ofWay ∈ ALLg := (al_in (tb7 (List.mem_of_getElem? (i := 95) (by rfl))) (by decide +kernel))
theorem ms_X12_ofWay : Cond.selects (yX12_ofWay).cls yX12_ofWay yX12_ofWay ∈ ALLg := (al_in (tb0 (List.mem_of_getElem? (i := 63) (by rfl))) (by decide +kernel))
theorem mx_X12_isTold : Mx yX12_isTold cX12_isTold 2 (some .boolean) 1 := ⟨(al_in (tb7 (List.mem_of_getElem? (i := 192) (by rfl))) (by decide +kernel)), (al_in (tb1 (List.mem_of_getElem? (i := 13) (by rfl))) (by decide +kernel)), ⟨by decide +kernel, by decide +kernel, by decide +kernel⟩, by decide⟩
theorem mi_X12_isTold : Cond.instanceMethod yX12_isTold ∈ ALLg := (al_in (tb7 (List.mem_of_getElem? (i := 191) (by rfl))) (by decide +kernel))
theorem ms_X12_isTold : Cond.selects (yX12_isTold).cls yX12_isTold yX12_isTold ∈ ALLg := (al_in (tb0 (List.mem_of_getElem? (i := 74) (by rfl))) (by decide +kernel))
theorem mx_X12_asks : Mx yX12_asks cX12_asks 3 (some .int) 2 := ⟨(al_in (tb7 (List.mem_of_getElem? (i := 184) (by rfl))) (by decide +kernel)), (al_in (tb1 (List.mem_of_getElem? (i := 13) (by rfl))) (by decide +kernel)), ⟨by decide +kernel, by decide +kernel, by decide +kernel⟩, by decide⟩
theorem mi_X12_asks : Cond.instanceMethod yX12_asks ∈ ALLg := (al_in (tb7 (List.mem_of_getElem? (i := 183) (by rfl))) (by decide +kernel))
theorem ms_X12_asks : Cond.selects (yX12_asks).cls yX12_asks yX12_asks ∈ ALLg := (al_in (tb0 (List.mem_of_getElem? (i := 72) (by rfl))) (by decide +kernel))
theorem ml_X12_360 : Cond.methodLink RX12 360 yX12_readWords ∈ ALLg := (al_in (tb7 (List.mem_of_getElem? (i := 193) (by rfl))) (by decide +kernel))
theorem mx_X12_readWords : Mx yX12_readWords cX12_readWords 2 (some .int) 0 := ⟨(al_in (tb7 (List.mem_of_getElem? (i := 196) (by rfl))) (by decide +kernel)), (al_in (tb1 (List.mem_of_getElem? (i := 13) (by rfl))) (by decide +kernel)), ⟨by decide +kernel, by decide +kernel, by decide +kernel⟩, by decide⟩
theorem mi_X12_readWords : Cond.instanceMethod yX12_readWords ∈ ALLg := (al_in (tb7 (List.mem_of_getElem? (i := 195) (by rfl))) (by decide +kernel))
theorem ms_X12_readWords : Cond.selects (yX12_readWords).cls yX12_readWords yX12_readWords ∈ ALLg := (al_in (tb0 (List.mem_of_getElem? (i := 75) (by rfl))) (by decide +kernel))
theorem ml_X12_241 : Cond.methodLink RX12 241 yX12_roomOf ∈ ALLg := (al_in (tb7 (List.mem_of_getElem? (i := 85) (by rfl))) (by decide +kernel))
theorem ml_X12_338 : Cond.methodLink RX12 338 yX12_lists ∈ ALLg := (al_in (tb7 (List.mem_of_getElem? (i := 89) (by rfl))) (by decide +kernel))
theorem fl_X12_335 : Fl RX12 335 12 17 false .int := ⟨RX12, TX12, 29, tyX12, ⟨rfl, by decide, inX12, tyX12_ok, nmX12, rfl, by decide +kernel⟩, rfl, (al_in (tb6 (List.mem_of_getElem? (i := 101) (by rfl))) (by decide +kernel))⟩
theorem ml_X12_203 : Cond.methodLink RX12 203 yX12_area ∈ ALLg := (al_in (tb7 (List.mem_of_getElem? (i := 34) (by rfl))) (by decide +kernel))
theorem ml_X12_83 : Cond.methodLink RX12 83 yX12_rows ∈ ALLg := (al_in (tb7 (List.mem_of_getElem? (i := 38) (by rfl))) (by decide +kernel))
theorem mx_X12_rows : Mx yX12_rows cX12_rows 1 (some .int) 0 := ⟨(al_in (tb7 (List.mem_of_getElem? (i := 41) (by rfl))) (by decide +kernel)), (al_in (tb1 (List.mem_of_getElem? (i := 13) (by rfl))) (by decide +kernel)), ⟨by decide +kernel, by decide +kernel, by decide +kernel⟩, by decide⟩
theorem mi_X12_rows : Cond.instanceMethod yX12_rows ∈ ALLg := (al_in (tb7 (List.mem_of_getElem? (i := 40) (by rfl))) (by decide +kernel))
theorem ms_X12_rows : Cond.selects (yX12_rows).cls yX12_rows yX12_rows ∈ ALLg := (al_in (tb0 (List.mem_of_getElem? (i := 55) (by rfl))) (by decide +kernel))
theorem ml_X12_87 : Cond.methodLink RX12 87 yX12_wide ∈ ALLg := (al_in (tb7 (List.mem_of_getElem? (i := 42) (by rfl))) (by decide +kernel))
theorem mx_X12_wide : Mx yX12_wide cX12_wide 1 (some .int) 0 := ⟨(al_in (tb7 (List.mem_of_getElem? (i := 45) (by rfl))) (by decide +kernel)), (al_in (tb1 (List.mem_of_getElem? (i := 13) (by rfl))) (by decide +kernel)), ⟨by decide +kernel, by decide +kernel, by decide +kernel⟩, by decide⟩
theorem mi_X12_wide : Cond.instanceMethod yX12_wide ∈ ALLg := (al_in (tb7 (List.mem_of_getElem? (i := 44) (by rfl))) (by decide +kernel))
theorem ms_X12_wide : Cond.selects (yX12_wide).cls yX12_wide yX12_wide ∈ ALLg := (al_in (tb0 (List.mem_of_getElem? (i := 56) (by rfl))) (by decide +kernel))
theorem mx_X12_area : Mx yX12_area cX12_area 1 (some .int) 0 := ⟨(al_in (tb7 (List.mem_of_getElem? (i := 37) (by rfl))) (by decide +kernel)), (al_in (tb1 (List.mem_of_getElem? (i := 13) (by rfl))) (by decide +kernel)), ⟨by decide +kernel, by decide +kernel, by decide +kernel⟩, by decide⟩
theorem mi_X12_area : Cond.instanceMethod yX12_area ∈ ALLg := (al_in (tb7 (List.mem_of_getElem? (i := 36) (by rfl))) (by decide +kernel))
theorem ms_X12_area : Cond.selects (yX12_area).cls yX12_area yX12_area ∈ ALLg := (al_in (tb0 (List.mem_of_getElem? (i := 54) (by rfl))) (by decide +kernel))
theorem ml_X12_98 : Cond.methodLink RX12 98 yX12_sortOf ∈ ALLg := (al_in (tb7 (List.mem_of_getElem? (i := 50) (by rfl))) (by decide +kernel))
theorem mx_X12_sortOf : Mx yX12_sortOf cX12_sortOf 4 (some .int) 1 := ⟨(al_in (tb7 (List.mem_of_getElem? (i := 53) (by rfl))) (by decide +kernel)), (al_in (tb1 (List.mem_of_getElem? (i := 13) (by rfl))) (by decide +kernel)), ⟨by decide +kernel, by decide +kernel, by decide +kernel⟩, by decide⟩
theorem mi_X12_sortOf : Cond.instanceMethod yX12_sortOf ∈ ALLg := (al_in (tb7 (List.mem_of_getElem? (i := 52) (by rfl))) (by decide +kernel))
theorem ms_X12_sortOf : Cond.selects (yX12_sortOf).cls yX12_sortOf yX12_sortOf ∈ ALLg := (al_in (tb0 (List.mem_of_getElem? (i := 58) (by rfl))) (by decide +kernel))
theorem fl_X12_40 : Fl RX12 40 12 16 true (.array .int) := ⟨RX12, TX12, 29, tyX12, ⟨rfl, by decide, inX12, tyX12_ok, nmX12, rfl, by decide +kernel⟩, rfl, (al_in (tb6 (List.mem_of_getElem? (i := 100) (by rfl))) (by decide +kernel))⟩
theorem mx_X12_lists : Mx yX12_lists cX12_lists 7 none 1 := ⟨(al_in (tb7 (List.mem_of_getElem? (i := 92) (by rfl))) (by decide +kernel)), (al_in (tb1 (List.mem_of_getElem? (i := 13) (by rfl))) (by decide +kernel)), ⟨by decide +kernel, by decide +kernel, by decide +kernel⟩, by decide⟩
theorem mi_X12_lists : Cond.instanceMethod yX12_lists ∈ ALLg := (al_in (tb7 (List.mem_of_getElem? (i := 91) (by rfl))) (by decide +kernel))
theorem ms_X12_lists : Cond.selects (yX12_lists).cls yX12_lists yX12_lists ∈ ALLg := (al_in (tb0 (List.mem_of_getElem? (i := 62) (by rfl))) (by decide +kernel))
theorem mx_X12_roomOf : Mx yX12_roomOf cX12_roomOf 2 (some .int) 1 := ⟨(al_in (tb7 (List.mem_of_getElem? (i := 88) (by rfl))) (by decide +kernel)), (al_in (tb1 (List.mem_of_getElem? (i := 13) (by rfl))) (by decide +kernel)), ⟨by decide +kernel, by decide +kernel, by decide +kernel⟩, by decide⟩
theorem mi_X12_roomOf : Cond.instanceMethod yX12_roomOf ∈ ALLg := (al_in (tb7 (List.mem_of_getElem? (i := 87) (by rfl))) (by decide +kernel))
theorem ms_X12_roomOf : Cond.selects (yX12_roomOf).cls yX12_roomOf yX12_roomOf ∈ ALLg := (al_in (tb0 (List.mem_of_getElem? (i := 61) (by rfl))) (by decide +kernel))
theorem ml_X12_363 : Cond.methodLink RX12 363 yX12_takes0 ∈ ALLg := (al_in (tb7 (List.mem_of_getElem? (i := 197) (by rfl))) (by decide +kernel))
theorem fl_X12_37 : Fl RX12 37 12 15 true (.array .int) := ⟨RX12, TX12, 29, tyX12, ⟨rfl, by decide, inX12, tyX12_ok, nmX12, rfl, by decide +kernel⟩, rfl, (al_in (tb6 (List.mem_of_getElem? (i := 99) (by rfl))) (by decide +kernel))⟩
theorem ml_X12_301 : Cond.methodLink RX12 301 yX12_stands ∈ ALLg := (al_in (tb7 (List.mem_of_getElem? (i := 201) (by rfl))) (by decide +kernel))
theorem mx_X12_stands : Mx yX12_stands cX12_stands 3 (some .int) 2 := ⟨(al_in (tb7 (List.mem_of_getElem? (i := 204) (by rfl))) (by decide +kernel)), (al_in (tb1 (List.mem_of_getElem? (i := 13) (by rfl))) (by decide +kernel)), ⟨by decide +kernel, by decide +kernel, by decide +kernel⟩, by decide⟩
theorem mi_X12_stands : Cond.instanceMethod yX12_stands ∈ ALLg := (al_in (tb7 (List.mem_of_getElem? (i := 203) (by rfl))) (by decide +kernel))
theorem ms_X12_stands : Cond.selects (yX12_stands).cls yX12_stands yX12_stands ∈ ALLg := (al_in (tb0 (List.mem_of_getElem? (i := 77) (by rfl))) (by decide +kernel))
theorem mx_X12_takes0 : Mx yX12_takes0 cX12_takes0 3 none 1 := ⟨(al_in (tb7 (List.mem_of_getElem? (i := 200) (by rfl))) (by decide +kernel)), (al_in (tb1 (List.mem_of_getElem? (i := 13) (by rfl))) (by decide +kernel)), ⟨by decide +kernel, by decide +kernel, by decide +kernel⟩, by decide⟩
theorem mi_X12_takes0 : Cond.instanceMethod yX12_takes0 ∈ ALLg := (al_in (tb7 (List.mem_of_getElem? (i := 199) (by rfl))) (by decide +kernel))
theorem ms_X12_takes0 : Cond.selects (yX12_takes0).cls yX12_takes0 yX12_takes0 ∈ ALLg := (al_in (tb0 (List.mem_of_getElem? (i := 76) (by rfl))) (by decide +kernel))
theorem ml_X12_366 : Cond.methodLink RX12 366 yX12_puts ∈ ALLg := (al_in (tb7 (List.mem_of_getElem? (i := 205) (by rfl))) (by decide +kernel))
theorem ml_X12_347 : Cond.methodLink RX12 347 yX12_putBit ∈ ALLg := (al_in (tb7 (List.mem_of_getElem? (i := 209) (by rfl))) (by decide +kernel))
theorem ml_X12_341 : Cond.methodLink RX12 341 yX12_tells ∈ ALLg := (al_in (tb7 (List.mem_of_getElem? (i := 213) (by rfl))) (by decide +kernel))
theorem mx_X12_tells : Mx yX12_tells cX12_tells 6 (some .int) 2 := ⟨(al_in (tb7 (List.mem_of_getElem? (i := 216) (by rfl))) (by decide +kernel)), (al_in (tb1 (List.mem_of_getElem? (i := 13) (by rfl))) (by decide +kernel)), ⟨by decide +kernel, by decide +kernel, by decide +kernel⟩, by decide⟩
theorem mi_X12_tells : Cond.instanceMethod yX12_tells ∈ ALLg := (al_in (tb7 (List.mem_of_getElem? (i := 215) (by rfl))) (by decide +kernel))
theorem ms_X12_tells : Cond.selects (yX12_tells).cls yX12_tells yX12_tells ∈ ALLg := (al_in (tb0 (List.mem_of_getElem? (i := 80) (by rfl))) (by decide +kernel))
theorem ml_X12_344 : Cond.methodLink RX12 344 yX12_turnOver ∈ ALLg := (al_in (tb7 (List.mem_of_getElem? (i := 217) (by rfl))) (by decide +kernel))
theorem ml_X12_314 : Cond.methodLink RX12 314 yX12_turnedOf ∈ ALLg := (al_in (tb7 (List.mem_of_getElem? (i := 169) (by rfl))) (by decide +kernel))
theorem mx_X12_turnedOf : Mx yX12_turnedOf cX12_turnedOf 2 (some .int) 1 := ⟨(al_in (tb7 (List.mem_of_getElem? (i := 172) (by rfl))) (by decide +kernel)), (al_in (tb1 (List.mem_of_getElem? (i := 13) (by rfl))) (by decide +kernel)), ⟨by decide +kernel, by decide +kernel, by decide +kernel⟩, by decide⟩
theorem mi_X12_turnedOf : Cond.instanceMethod yX12_turnedOf ∈ ALLg := (al_in (tb7 (List.mem_of_getElem? (i := 171) (by rfl))) (by decide +kernel))
theorem ms_X12_turnedOf : Cond.selects (yX12_turnedOf).cls yX12_turnedOf yX12_turnedOf ∈ ALLg := (al_in (tb0 (List.mem_of_getElem? (i := 70) (by rfl))) (by decide +kernel))
theorem mx_X12_turnOver : Mx yX12_turnOver cX12_turnOver 2 (some .int) 1 := ⟨(al_in (tb7 (List.mem_of_getElem? (i := 220) (by rfl))) (by decide +kernel)), (al_in (tb1 (List.mem_of_getElem? (i := 13) (by rfl))) (by decide +kernel)), ⟨by decide +kernel, by decide +kernel, by decide +kernel⟩, by decide⟩
theorem mi_X12_turnOver : Cond.instanceMethod yX12_turnOver ∈ ALLg := (al_in (tb7 (List.mem_of_getElem? (i := 219) (by rfl))) (by decide +kernel))
theorem ms_X12_turnOver : Cond.selects (yX12_turnOver).cls yX12_turnOver yX12_turnOver ∈ ALLg := (al_in (tb0 (List.mem_of_getElem? (i := 81) (by rfl))) (by decide +kernel))
theorem mx_X12_putBit : Mx yX12_putBit cX12_putBit 8 (some .int) 3 := ⟨(al_in (tb7 (List.mem_of_getElem? (i := 212) (by rfl))) (by decide +kernel)), (al_in (tb1 (List.mem_of_getElem? (i := 13) (by rfl))) (by decide +kernel)), ⟨by decide +kernel, by decide +kernel, by decide +kernel⟩, by decide⟩
theorem mi_X12_putBit : Cond.instanceMethod yX12_putBit ∈ ALLg := (al_in (tb7 (List.mem_of_getElem? (i := 211) (by rfl))) (by decide +kernel))
theorem ms_X12_putBit : Cond.selects (yX12_putBit).cls yX12_putBit yX12_putBit ∈ ALLg := (al_in (tb0 (List.mem_of_getElem? (i := 79) (by rfl))) (by decide +kernel))
theorem mx_X12_puts : Mx yX12_puts cX12_puts 7 (some .int) 3 := ⟨(al_in (tb7 (List.mem_of_getElem? (i := 208) (by rfl))) (by decide +kernel)), (al_in (tb1 (List.mem_of_getElem? (i := 13) (by rfl))) (by decide +kernel)), ⟨by decide +kernel, by decide +kernel, by decide +kernel⟩, by decide⟩
theorem mi_X12_puts : Cond.instanceMethod yX12_puts ∈ ALLg := (al_in (tb7 (List.mem_of_getElem? (i := 207) (by rfl))) (by decide +kernel))
theorem ms_X12_puts : Cond.selects (yX12_puts).cls yX12_puts yX12_puts ∈ ALLg := (al_in (tb0 (List.mem_of_getElem? (i := 78) (by rfl))) (by decide +kernel))
theorem ml_X12_332 : Cond.methodLink RX12 332 yX12_gives ∈ ALLg := (al_in (tb7 (List.mem_of_getElem? (i := 173) (by rfl))) (by decide +kernel))
theorem mx_X12_gives : Mx yX12_gives cX12_gives 3 none 1 := ⟨(al_in (tb7 (List.mem_of_getElem? (i := 176) (by rfl))) (by decide +kernel)), (al_in (tb1 (List.mem_of_getElem? (i := 13) (by rfl))) (by decide +kernel)), ⟨by decide +kernel, by decide +kernel, by decide +kernel⟩, by decide⟩
theorem mi_X12_gives : Cond.instanceMethod yX12_gives ∈ ALLg := (al_in (tb7 (List.mem_of_getElem? (i := 175) (by rfl))) (by decide +kernel))
theorem ms_X12_gives : Cond.selects (yX12_gives).cls yX12_gives yX12_gives ∈ ALLg := (al_in (tb0 (List.mem_of_getElem? (i := 71) (by rfl))) (by decide +kernel))
theorem kl_X12_77 : Cond.constantLong RX12 77 2 ∈ ALLg := (al_in (tb6 (List.mem_of_getElem? (i := 177) (by rfl))) (by decide +kernel))
theorem fl_X12_20 : Fl RX12 20 12 3 true (.array .boolean) := ⟨RX12, TX12, 29, tyX12, ⟨rfl, by decide, inX12, tyX12_ok, nmX12, rfl, by decide +kernel⟩, rfl, (al_in (tb6 (List.mem_of_getElem? (i := 87) (by rfl))) (by decide +kernel))⟩
theorem fl_X12_17 : Fl RX12 17 12 2 true (.array .int) := ⟨RX12, TX12, 29, tyX12, ⟨rfl, by decide, inX12, tyX12_ok, nmX12, rfl, by decide +kernel⟩, rfl, (al_in (tb6 (List.mem_of_getElem? (i := 86) (by rfl))) (by decide +kernel))⟩
theorem sr_X12_210 : (RX12, 210, "hand", 43) ∈ strW := List.mem_of_getElem? (i := 43) (by rfl)
theorem sr_X12_212 : (RX12, 212, "f", 44) ∈ strW := List.mem_of_getElem? (i := 44) (by rfl)
theorem ml_X12_189 : Cond.methodLink RX12 189 yX12_told ∈ ALLg := (al_in (tb6 (List.mem_of_getElem? (i := 223) (by rfl))) (by decide +kernel))
theorem mx_X12_told : Mx yX12_told cX12_told 4 (some .int) 3 := ⟨(al_in (tb6 (List.mem_of_getElem? (i := 226) (by rfl))) (by decide +kernel)), (al_in (tb1 (List.mem_of_getElem? (i := 13) (by rfl))) (by decide +kernel)), ⟨by decide +kernel, by decide +kernel, by decide +kernel⟩, by decide⟩
theorem mi_X12_told : Cond.instanceMethod yX12_told ∈ ALLg := (al_in (tb6 (List.mem_of_getElem? (i := 225) (by rfl))) (by decide +kernel))
theorem ms_X12_told : Cond.selects (yX12_told).cls yX12_told yX12_told ∈ ALLg := (al_in (tb0 (List.mem_of_getElem? (i := 43) (by rfl))) (by decide +kernel))
theorem sr_X12_214 : (RX12, 214, "h", 45) ∈ strW := List.mem_of_getElem? (i := 45) (by rfl)
theorem sr_X12_216 : (RX12, 216, "m", 46) ∈ strW := List.mem_of_getElem? (i := 46) (by rfl)
theorem ml_X12_178 : Cond.methodLink RX12 178 yX12_ends ∈ ALLg := (al_in (tb7 (List.mem_of_getElem? (i := 14) (by rfl))) (by decide +kernel))
theorem mx_X12_ends : Mx yX12_ends cX12_ends 1 none 0 := ⟨(al_in (tb7 (List.mem_of_getElem? (i := 17) (by rfl))) (by decide +kernel)), (al_in (tb1 (List.mem_of_getElem? (i := 13) (by rfl))) (by decide +kernel)), ⟨by decide +kernel, by decide +kernel, by decide +kernel⟩, by decide⟩
theorem mi_X12_ends : Cond.instanceMethod yX12_ends ∈ ALLg := (al_in (tb7 (List.mem_of_getElem? (i := 16) (by rfl))) (by decide +kernel))
theorem ms_X12_ends : Cond.selects (yX12_ends).cls yX12_ends yX12_ends ∈ ALLg := (al_in (tb0 (List.mem_of_getElem? (i := 50) (by rfl))) (by decide +kernel))
theorem ml_X12_218 : Cond.methodLink RX12 218 yX12_endsAll ∈ ALLg := (al_in (tb7 (List.mem_of_getElem? (i := 62) (by rfl))) (by decide +kernel))
theorem mx_X12_endsAll : Mx yX12_endsAll cX12_endsAll 1 none 0 := ⟨(al_in (tb7 (List.mem_of_getElem? (i := 65) (by rfl))) (by decide +kernel)), (al_in (tb1 (List.mem_of_getElem? (i := 13) (by rfl))) (by decide +kernel)), ⟨by decide +kernel, by decide +kernel, by decide +kernel⟩, by decide⟩
theorem mi_X12_endsAll : Cond.instanceMethod yX12_endsAll ∈ ALLg := (al_in (tb7 (List.mem_of_getElem? (i := 64) (by rfl))) (by decide +kernel))
theorem ms_X12_endsAll : Cond.selects (yX12_endsAll).cls yX12_endsAll yX12_endsAll ∈ ALLg := (al_in (tb0 (List.mem_of_getElem? (i := 59) (by rfl))) (by decide +kernel))
theorem ml_X12_197 : Cond.methodLink RX12 197 yX12_keeps ∈ ALLg := (al_in (tb7 (List.mem_of_getElem? (i := 26) (by rfl))) (by decide +kernel))
theorem mx_X12_keeps : Mx yX12_keeps cX12_keeps 4 none 2 := ⟨(al_in (tb7 (List.mem_of_getElem? (i := 29) (by rfl))) (by decide +kernel)), (al_in (tb1 (List.mem_of_getElem? (i := 13) (by rfl))) (by decide +kernel)), ⟨by decide +kernel, by decide +kernel, by decide +kernel⟩, by decide⟩
theorem mi_X12_keeps : Cond.instanceMethod yX12_keeps ∈ ALLg := (al_in (tb7 (List.mem_of_getElem? (i := 28) (by rfl))) (by decide +kernel))
theorem ms_X12_keeps : Cond.selects (yX12_keeps).cls yX12_keeps yX12_keeps ∈ ALLg := (al_in (tb0 (List.mem_of_getElem? (i := 52) (by rfl))) (by decide +kernel))
theorem sr_X12_224 : (RX12, 224, "way", 47) ∈ strW := List.mem_of_getElem? (i := 47) (by rfl)
theorem sr_X12_226 : (RX12, 226, "over", 48) ∈ strW := List.mem_of_getElem? (i := 48) (by rfl)
theorem ml_X12_228 : Cond.methodLink RX12 228 yX12_sortsHere ∈ ALLg := (al_in (tb7 (List.mem_of_getElem? (i := 76) (by rfl))) (by decide +kernel))
theorem mx_X12_sortsHere : Mx yX12_sortsHere cX12_sortsHere 4 (some .int) 0 := ⟨(al_in (tb7 (List.mem_of_getElem? (i := 79) (by rfl))) (by decide +kernel)), (al_in (tb1 (List.mem_of_getElem? (i := 13) (by rfl))) (by decide +kernel)), ⟨by decide +kernel, by decide +kernel, by decide +kernel⟩, by decide⟩
theorem mi_X12_sortsHere : Cond.instanceMethod yX12_sortsHere ∈ ALLg := (al_in (tb7 (List.mem_of_getElem? (i := 78) (by rfl))) (by decide +kernel))
theorem ms_X12_sortsHere : Cond.selects (yX12_sortsHere).cls yX12_sortsHere yX12_sortsHere ∈ ALLg := (al_in (tb0 (List.mem_of_getElem? (i := 60) (by rfl))) (by decide +kernel))
theorem sr_X12_231 : (RX12, 231, "step", 49) ∈ strW := List.mem_of_getElem? (i := 49) (by rfl)
theorem sr_X12_233 : (RX12, 233, "group", 50) ∈ strW := List.mem_of_getElem? (i := 50) (by rfl)
theorem sr_X12_235 : (RX12, 235, "guard", 51) ∈ strW := List.mem_of_getElem? (i := 51) (by rfl)
theorem sr_X12_237 : (RX12, 237, "turn", 52) ∈ strW := List.mem_of_getElem? (i := 52) (by rfl)
theorem sr_X12_239 : (RX12, 239, "top", 53) ∈ strW := List.mem_of_getElem? (i := 53) (by rfl)
theorem sr_X12_173 : (RX12, 173, "row", 42) ∈ strW := List.mem_of_getElem? (i := 42) (by rfl)
theorem ml_X12_184 : Cond.methodLink RX12 184 yX12_clears ∈ ALLg := (al_in (tb6 (List.mem_of_getElem? (i := 205) (by rfl))) (by decide +kernel))
theorem mx_X12_clears : Mx yX12_clears cX12_clears 4 none 2 := ⟨(al_in (tb6 (List.mem_of_getElem? (i := 208) (by rfl))) (by decide +kernel)), (al_in (tb1 (List.mem_of_getElem? (i := 13) (by rfl))) (by decide +kernel)), ⟨by decide +kernel, by decide +kernel, by decide +kernel⟩, by decide⟩
theorem mi_X12_clears : Cond.instanceMethod yX12_clears ∈ ALLg := (al_in (tb6 (List.mem_of_getElem? (i := 207) (by rfl))) (by decide +kernel))
theorem ms_X12_clears : Cond.selects (yX12_clears).cls yX12_clears yX12_clears ∈ ALLg := (al_in (tb0 (List.mem_of_getElem? (i := 40) (by rfl))) (by decide +kernel))
theorem sr_X12_188 : (RX12, 188, "wide", 40) ∈ strW := List.mem_of_getElem? (i := 40) (by rfl)
theorem sr_X12_193 : (RX12, 193, "rows", 41) ∈ strW := List.mem_of_getElem? (i := 41) (by rfl)
theorem ml_X12_194 : Cond.methodLink RX12 194 yX12_readRow ∈ ALLg := (al_in (tb7 (List.mem_of_getElem? (i := 18) (by rfl))) (by decide +kernel))
theorem mx_X12_readRow : Mx yX12_readRow cX12_readRow 5 none 0 := ⟨(al_in (tb7 (List.mem_of_getElem? (i := 21) (by rfl))) (by decide +kernel)), (al_in (tb1 (List.mem_of_getElem? (i := 13) (by rfl))) (by decide +kernel)), ⟨by decide +kernel, by decide +kernel, by decide +kernel⟩, by decide⟩
theorem mi_X12_readRow : Cond.instanceMethod yX12_readRow ∈ ALLg := (al_in (tb7 (List.mem_of_getElem? (i := 20) (by rfl))) (by decide +kernel))
theorem ms_X12_readRow : Cond.selects (yX12_readRow).cls yX12_readRow yX12_readRow ∈ ALLg := (al_in (tb0 (List.mem_of_getElem? (i := 51) (by rfl))) (by decide +kernel))
theorem ml_X12_200 : Cond.methodLink RX12 200 yX12_frees ∈ ALLg := (al_in (tb7 (List.mem_of_getElem? (i := 30) (by rfl))) (by decide +kernel))
theorem ml_X12_206 : Cond.methodLink RX12 206 yX12_isFree ∈ ALLg := (al_in (tb7 (List.mem_of_getElem? (i := 46) (by rfl))) (by decide +kernel))
theorem mx_X12_isFree : Mx yX12_isFree cX12_isFree 2 (some .boolean) 1 := ⟨(al_in (tb7 (List.mem_of_getElem? (i := 49) (by rfl))) (by decide +kernel)), (al_in (tb1 (List.mem_of_getElem? (i := 13) (by rfl))) (by decide +kernel)), ⟨by decide +kernel, by decide +kernel, by decide +kernel⟩, by decide⟩
theorem mi_X12_isFree : Cond.instanceMethod yX12_isFree ∈ ALLg := (al_in (tb7 (List.mem_of_getElem? (i := 48) (by rfl))) (by decide +kernel))
theorem ms_X12_isFree : Cond.selects (yX12_isFree).cls yX12_isFree yX12_isFree ∈ ALLg := (al_in (tb0 (List.mem_of_getElem? (i := 57) (by rfl))) (by decide +kernel))
theorem mx_X12_frees : Mx yX12_frees cX12_frees 3 (some .int) 0 := ⟨(al_in (tb7 (List.mem_of_getElem? (i := 33) (by rfl))) (by decide +kernel)), (al_in (tb1 (List.mem_of_getElem? (i := 13) (by rfl))) (by decide +kernel)), ⟨by decide +kernel, by decide +kernel, by decide +kernel⟩, by decide⟩
theorem mi_X12_frees : Cond.instanceMethod yX12_frees ∈ ALLg := (al_in (tb7 (List.mem_of_getElem? (i := 32) (by rfl))) (by decide +kernel))
theorem ms_X12_frees : Cond.selects (yX12_frees).cls yX12_frees yX12_frees ∈ ALLg := (al_in (tb0 (List.mem_of_getElem? (i := 53) (by rfl))) (by decide +kernel))
theorem sr_X12_287 : (RX12, 287, "lose", 71) ∈ strW := List.mem_of_getElem? (i := 71) (by rfl)
theorem sr_X12_289 : (RX12, 289, "moth", 72) ∈ strW := List.mem_of_getElem? (i := 72) (by rfl)
theorem sr_X12_291 : (RX12, 291, "wash", 73) ∈ strW := List.mem_of_getElem? (i := 73) (by rfl)
theorem sr_X12_297 : (RX12, 297, "from", 76) ∈ strW := List.mem_of_getElem? (i := 76) (by rfl)
theorem sr_X12_293 : (RX12, 293, "columns", 74) ∈ strW := List.mem_of_getElem? (i := 74) (by rfl)
theorem sr_X12_295 : (RX12, 295, "to", 75) ∈ strW := List.mem_of_getElem? (i := 75) (by rfl)
theorem ml_X12_298 : Cond.methodLink RX12 298 yX12_readLoss ∈ ALLg := (al_in (tb7 (List.mem_of_getElem? (i := 134) (by rfl))) (by decide +kernel))
theorem mx_X12_readLoss : Mx yX12_readLoss cX12_readLoss 4 none 0 := ⟨(al_in (tb7 (List.mem_of_getElem? (i := 137) (by rfl))) (by decide +kernel)), (al_in (tb1 (List.mem_of_getElem? (i := 13) (by rfl))) (by decide +kernel)), ⟨by decide +kernel, by decide +kernel, by decide +kernel⟩, by decide⟩
theorem mi_X12_readLoss : Cond.instanceMethod yX12_readLoss ∈ ALLg := (al_in (tb7 (List.mem_of_getElem? (i := 136) (by rfl))) (by decide +kernel))
theorem ms_X12_readLoss : Cond.selects (yX12_readLoss).cls yX12_readLoss yX12_readLoss ∈ ALLg := (al_in (tb0 (List.mem_of_getElem? (i := 67) (by rfl))) (by decide +kernel))
theorem kl_X12_317 : Cond.constantLong RX12 317 2000000000 ∈ ALLg := (al_in (tb7 (List.mem_of_getElem? (i := 155) (by rfl))) (by decide +kernel))
theorem kl_X12_304 : Cond.constantLong RX12 304 1103515245 ∈ ALLg := (al_in (tb7 (List.mem_of_getElem? (i := 164) (by rfl))) (by decide +kernel))
theorem kl_X12_306 : Cond.constantLong RX12 306 12345 ∈ ALLg := (al_in (tb7 (List.mem_of_getElem? (i := 165) (by rfl))) (by decide +kernel))
theorem kl_X12_308 : Cond.constantLong RX12 308 2147483648 ∈ ALLg := (al_in (tb7 (List.mem_of_getElem? (i := 166) (by rfl))) (by decide +kernel))
theorem kl_X12_310 : Cond.constantLong RX12 310 65536 ∈ ALLg := (al_in (tb7 (List.mem_of_getElem? (i := 167) (by rfl))) (by decide +kernel))
theorem kl_X12_312 : Cond.constantLong RX12 312 100 ∈ ALLg := (al_in (tb7 (List.mem_of_getElem? (i := 168) (by rfl))) (by decide +kernel))
theorem ml_X12_370 : Cond.methodLink RX12 370 yX12_bitOf ∈ ALLg := (al_in (tb7 (List.mem_of_getElem? (i := 229) (by rfl))) (by decide +kernel))
theorem mx_X12_bitOf : Mx yX12_bitOf cX12_bitOf 7 (some .int) 2 := ⟨(al_in (tb7 (List.mem_of_getElem? (i := 232) (by rfl))) (by decide +kernel)), (al_in (tb1 (List.mem_of_getElem? (i := 13) (by rfl))) (by decide +kernel)), ⟨by decide +kernel, by decide +kernel, by decide +kernel⟩, by decide⟩
theorem mi_X12_bitOf : Cond.instanceMethod yX12_bitOf ∈ ALLg := (al_in (tb7 (List.mem_of_getElem? (i := 231) (by rfl))) (by decide +kernel))
theorem ms_X12_bitOf : Cond.selects (yX12_bitOf).cls yX12_bitOf yX12_bitOf ∈ ALLg := (al_in (tb0 (List.mem_of_getElem? (i := 83) (by rfl))) (by decide +kernel))
theorem fl_X12_52 : Fl RX12 52 12 21 true (.array .int) := ⟨RX12, TX12, 29, tyX12, ⟨rfl, by decide, inX12, tyX12_ok, nmX12, rfl, by decide +kernel⟩, rfl, (al_in (tb6 (List.mem_of_getElem? (i := 105) (by rfl))) (by decide +kernel))⟩
theorem ml_X12_373 : Cond.methodLink RX12 373 yX12_reads ∈ ALLg := (al_in (tb7 (List.mem_of_getElem? (i := 225) (by rfl))) (by decide +kernel))
theorem mx_X12_reads : Mx yX12_reads cX12_reads 9 (some .int) 1 := ⟨(al_in (tb7 (List.mem_of_getElem? (i := 228) (by rfl))) (by decide +kernel)), (al_in (tb1 (List.mem_of_getElem? (i := 13) (by rfl))) (by decide +kernel)), ⟨by decide +kernel, by decide +kernel, by decide +kernel⟩, by decide⟩
theorem mi_X12_reads : Cond.instanceMethod yX12_reads ∈ ALLg := (al_in (tb7 (List.mem_of_getElem? (i := 227) (by rfl))) (by decide +kernel))
theorem ms_X12_reads : Cond.selects (yX12_reads).cls yX12_reads yX12_reads ∈ ALLg := (al_in (tb0 (List.mem_of_getElem? (i := 82) (by rfl))) (by decide +kernel))
theorem fl_X12_49 : Fl RX12 49 12 20 false .int := ⟨RX12, TX12, 29, tyX12, ⟨rfl, by decide, inX12, tyX12_ok, nmX12, rfl, by decide +kernel⟩, rfl, (al_in (tb6 (List.mem_of_getElem? (i := 104) (by rfl))) (by decide +kernel))⟩
theorem fl_X12_46 : Fl RX12 46 12 19 true (.array .int) := ⟨RX12, TX12, 29, tyX12, ⟨rfl, by decide, inX12, tyX12_ok, nmX12, rfl, by decide +kernel⟩, rfl, (al_in (tb6 (List.mem_of_getElem? (i := 103) (by rfl))) (by decide +kernel))⟩
theorem ml_X12_376 : Cond.methodLink RX12 376 yX12_asksCloth ∈ ALLg := (al_in (tb8 (List.mem_of_getElem? (i := 9) (by rfl))) (by decide +kernel))
theorem mx_X12_asksCloth : Mx yX12_asksCloth cX12_asksCloth 2 (some .int) 1 := ⟨(al_in (tb8 (List.mem_of_getElem? (i := 12) (by rfl))) (by decide +kernel)), (al_in (tb1 (List.mem_of_getElem? (i := 13) (by rfl))) (by decide +kernel)), ⟨by decide +kernel, by decide +kernel, by decide +kernel⟩, by decide⟩
theorem mi_X12_asksCloth : Cond.instanceMethod yX12_asksCloth ∈ ALLg := (al_in (tb8 (List.mem_of_getElem? (i := 11) (by rfl))) (by decide +kernel))
theorem ms_X12_asksCloth : Cond.selects (yX12_asksCloth).cls yX12_asksCloth yX12_asksCloth ∈ ALLg := (al_in (tb0 (List.mem_of_getElem? (i := 84) (by rfl))) (by decide +kernel))
theorem ml_X12_379 : Cond.methodLink RX12 379 yX12_isPlace ∈ ALLg := (al_in (tb8 (List.mem_of_getElem? (i := 17) (by rfl))) (by decide +kernel))
theorem mx_X12_isPlace : Mx yX12_isPlace cX12_isPlace 3 (some .boolean) 2 := ⟨(al_in (tb8 (List.mem_of_getElem? (i := 20) (by rfl))) (by decide +kernel)), (al_in (tb1 (List.mem_of_getElem? (i := 13) (by rfl))) (by decide +kernel)), ⟨by decide +kernel, by decide +kernel, by decide +kernel⟩, by decide⟩
theorem mi_X12_isPlace : Cond.instanceMethod yX12_isPlace ∈ ALLg := (al_in (tb8 (List.mem_of_getElem? (i := 19) (by rfl))) (by decide +kernel))
theorem ms_X12_isPlace : Cond.selects (yX12_isPlace).cls yX12_isPlace yX12_isPlace ∈ ALLg := (al_in (tb0 (List.mem_of_getElem? (i := 85) (by rfl))) (by decide +kernel))
theorem ml_X12_383 : Cond.methodLink RX12 383 yX12_asksWay ∈ ALLg := (al_in (tb8 (List.mem_of_getElem? (i := 29) (by rfl))) (by decide +kernel))
theorem mx_X12_asksWay : Mx yX12_asksWay cX12_asksWay 2 (some .int) 1 := ⟨(al_in (tb8 (List.mem_of_getElem? (i := 32) (by rfl))) (by decide +kernel)), (al_in (tb1 (List.mem_of_getElem? (i := 13) (by rfl))) (by decide +kernel)), ⟨by decide +kernel, by decide +kernel, by decide +kernel⟩, by decide⟩
theorem mi_X12_asksWay : Cond.instanceMethod yX12_asksWay ∈ ALLg := (al_in (tb8 (List.mem_of_getElem? (i := 31) (by rfl))) (by decide +kernel))
theorem ms_X12_asksWay : Cond.selects (yX12_asksWay).cls yX12_asksWay yX12_asksWay ∈ ALLg := (al_in (tb0 (List.mem_of_getElem? (i := 86) (by rfl))) (by decide +kernel))
theorem ml_X12_386 : Cond.methodLink RX12 386 yJ9_max_7cf53 ∈ ALLg := (al_in (tb8 (List.mem_of_getElem? (i := 41) (by rfl))) (by decide +kernel))
theorem mm_X12_386 : Cond.methodLink RX12 386 Lib.Math.max.name ∈ ALLg := (al_in (tb8 (List.mem_of_getElem? (i := 41) (by rfl))) (by decide +kernel))
theorem mm_smax : Cond.static Lib.Math.max.name ∈ ALLg := (al_in (tb3 (List.mem_of_getElem? (i := 45) (by rfl))) (by decide +kernel))
theorem mm_cmax : Cond.code Lib.Math.max.name Lib.Math.max.code 2 (some .int) ∈ ALLg := (al_in (tb3 (List.mem_of_getElem? (i := 46) (by rfl))) (by decide +kernel))
theorem fl_X12_55 : Fl RX12 55 12 22 true (.array .int) := ⟨RX12, TX12, 29, tyX12, ⟨rfl, by decide, inX12, tyX12_ok, nmX12, rfl, by decide +kernel⟩, rfl, (al_in (tb6 (List.mem_of_getElem? (i := 106) (by rfl))) (by decide +kernel))⟩
theorem kl_X12_389 : Cond.constantLong RX12 389 7 ∈ ALLg := (al_in (tb8 (List.mem_of_getElem? (i := 46) (by rfl))) (by decide +kernel))
theorem ml_X12_391 : Cond.methodLink RX12 391 yX12_countAll ∈ ALLg := (al_in (tb8 (List.mem_of_getElem? (i := 47) (by rfl))) (by decide +kernel))
theorem mx_X12_countAll : Mx yX12_countAll cX12_countAll 7 none 0 := ⟨(al_in (tb8 (List.mem_of_getElem? (i := 50) (by rfl))) (by decide +kernel)), (al_in (tb1 (List.mem_of_getElem? (i := 13) (by rfl))) (by decide +kernel)), ⟨by decide +kernel, by decide +kernel, by decide +kernel⟩, by decide⟩
theorem mi_X12_countAll : Cond.instanceMethod yX12_countAll ∈ ALLg := (al_in (tb8 (List.mem_of_getElem? (i := 49) (by rfl))) (by decide +kernel))
theorem ms_X12_countAll : Cond.selects (yX12_countAll).cls yX12_countAll yX12_countAll ∈ ALLg := (al_in (tb0 (List.mem_of_getElem? (i := 87) (by rfl))) (by decide +kernel))
theorem ml_X12_394 : Cond.methodLink RX12 394 yX12_partOf ∈ ALLg := (al_in (tb8 (List.mem_of_getElem? (i := 63) (by rfl))) (by decide +kernel))
theorem mx_X12_partOf : Mx yX12_partOf cX12_partOf 3 (some .long) 1 := ⟨(al_in (tb8 (List.mem_of_getElem? (i := 66) (by rfl))) (by decide +kernel)), (al_in (tb1 (List.mem_of_getElem? (i := 13) (by rfl))) (by decide +kernel)), ⟨by decide +kernel, by decide +kernel, by decide +kernel⟩, by decide⟩
theorem mi_X12_partOf : Cond.instanceMethod yX12_partOf ∈ ALLg := (al_in (tb8 (List.mem_of_getElem? (i := 65) (by rfl))) (by decide +kernel))
theorem ms_X12_partOf : Cond.selects (yX12_partOf).cls yX12_partOf yX12_partOf ∈ ALLg := (al_in (tb0 (List.mem_of_getElem? (i := 90) (by rfl))) (by decide +kernel))
theorem kl_X12_398 : Cond.constantLong RX12 398 (-1000000000) ∈ ALLg := (al_in (tb8 (List.mem_of_getElem? (i := 67) (by rfl))) (by decide +kernel))
theorem kl_X12_400 : Cond.constantLong RX12 400 1000000000 ∈ ALLg := (al_in (tb8 (List.mem_of_getElem? (i := 68) (by rfl))) (by decide +kernel))
theorem ml_X12_402 : Cond.methodLink RX12 402 yX12_holds ∈ ALLg := (al_in (tb8 (List.mem_of_getElem? (i := 59) (by rfl))) (by decide +kernel))
theorem mx_X12_holds : Mx yX12_holds cX12_holds 11 (some .boolean) 1 := ⟨(al_in (tb8 (List.mem_of_getElem? (i := 62) (by rfl))) (by decide +kernel)), (al_in (tb1 (List.mem_of_getElem? (i := 13) (by rfl))) (by decide +kernel)), ⟨by decide +kernel, by decide +kernel, by decide +kernel⟩, by decide⟩
theorem mi_X12_holds : Cond.instanceMethod yX12_holds ∈ ALLg := (al_in (tb8 (List.mem_of_getElem? (i := 61) (by rfl))) (by decide +kernel))
theorem ms_X12_holds : Cond.selects (yX12_holds).cls yX12_holds yX12_holds ∈ ALLg := (al_in (tb0 (List.mem_of_getElem? (i := 89) (by rfl))) (by decide +kernel))
theorem ml_X12_405 : Cond.methodLink RX12 405 yX12_stopping ∈ ALLg := (al_in (tb8 (List.mem_of_getElem? (i := 55) (by rfl))) (by decide +kernel))
theorem mx_X12_stopping : Mx yX12_stopping cX12_stopping 4 (some .int) 0 := ⟨(al_in (tb8 (List.mem_of_getElem? (i := 58) (by rfl))) (by decide +kernel)), (al_in (tb1 (List.mem_of_getElem? (i := 13) (by rfl))) (by decide +kernel)), ⟨by decide +kernel, by decide +kernel, by decide +kernel⟩, by decide⟩
theorem mi_X12_stopping : Cond.instanceMethod yX12_stopping ∈ ALLg := (al_in (tb8 (List.mem_of_getElem? (i := 57) (by rfl))) (by decide +kernel))
theorem ms_X12_stopping : Cond.selects (yX12_stopping).cls yX12_stopping yX12_stopping ∈ ALLg := (al_in (tb0 (List.mem_of_getElem? (i := 88) (by rfl))) (by decide +kernel))
theorem ml_X12_322 : Cond.methodLink RX12 322 yX12_isSeed ∈ ALLg := (al_in (tb7 (List.mem_of_getElem? (i := 152) (by rfl))) (by decide +kernel))
theorem mx_X12_isSeed : Mx yX12_isSeed cX12_isSeed 1 (some .boolean) 1 := ⟨(al_in (tb7 (List.mem_of_getElem? (i := 154) (by rfl))) (by decide +kernel)), (al_in (tb1 (List.mem_of_getElem? (i := 13) (by rfl))) (by decide +kernel)), ⟨by decide +kernel, by decide +kernel, by decide +kernel⟩, by decide⟩
theorem mt_X12_isSeed : Cond.static yX12_isSeed ∈ ALLg := (al_in (tb7 (List.mem_of_getElem? (i := 153) (by rfl))) (by decide +kernel))
theorem kl_X12_408 : Cond.constantLong RX12 408 50 ∈ ALLg := (al_in (tb8 (List.mem_of_getElem? (i := 73) (by rfl))) (by decide +kernel))
theorem ml_X12_325 : Cond.methodLink RX12 325 yX12_hasPattern ∈ ALLg := (al_in (tb7 (List.mem_of_getElem? (i := 156) (by rfl))) (by decide +kernel))
theorem mx_X12_hasPattern : Mx yX12_hasPattern cX12_hasPattern 1 (some .boolean) 0 := ⟨(al_in (tb7 (List.mem_of_getElem? (i := 159) (by rfl))) (by decide +kernel)), (al_in (tb1 (List.mem_of_getElem? (i := 13) (by rfl))) (by decide +kernel)), ⟨by decide +kernel, by decide +kernel, by decide +kernel⟩, by decide⟩
theorem mi_X12_hasPattern : Cond.instanceMethod yX12_hasPattern ∈ ALLg := (al_in (tb7 (List.mem_of_getElem? (i := 158) (by rfl))) (by decide +kernel))
theorem ms_X12_hasPattern : Cond.selects (yX12_hasPattern).cls yX12_hasPattern yX12_hasPattern ∈ ALLg := (al_in (tb0 (List.mem_of_getElem? (i := 68) (by rfl))) (by decide +kernel))
theorem ml_X12_328 : Cond.methodLink RX12 328 yX12_knits ∈ ALLg := (al_in (tb7 (List.mem_of_getElem? (i := 160) (by rfl))) (by decide +kernel))
theorem mx_X12_knits : Mx yX12_knits cX12_knits 7 (some .int) 1 := ⟨(al_in (tb7 (List.mem_of_getElem? (i := 163) (by rfl))) (by decide +kernel)), (al_in (tb1 (List.mem_of_getElem? (i := 13) (by rfl))) (by decide +kernel)), ⟨by decide +kernel, by decide +kernel, by decide +kernel⟩, by decide⟩
theorem mi_X12_knits : Cond.instanceMethod yX12_knits ∈ ALLg := (al_in (tb7 (List.mem_of_getElem? (i := 162) (by rfl))) (by decide +kernel))
theorem ms_X12_knits : Cond.selects (yX12_knits).cls yX12_knits yX12_knits ∈ ALLg := (al_in (tb0 (List.mem_of_getElem? (i := 69) (by rfl))) (by decide +kernel))
theorem ml_X12_410 : Cond.methodLink RX12 410 yX12_isSaid ∈ ALLg := (al_in (tb8 (List.mem_of_getElem? (i := 78) (by rfl))) (by decide +kernel))
theorem mx_X12_isSaid : Mx yX12_isSaid cX12_isSaid 3 (some .boolean) 0 := ⟨(al_in (tb8 (List.mem_of_getElem? (i := 81) (by rfl))) (by decide +kernel)), (al_in (tb1 (List.mem_of_getElem? (i := 13) (by rfl))) (by decide +kernel)), ⟨by decide +kernel, by decide +kernel, by decide +kernel⟩, by decide⟩
theorem mi_X12_isSaid : Cond.instanceMethod yX12_isSaid ∈ ALLg := (al_in (tb8 (List.mem_of_getElem? (i := 80) (by rfl))) (by decide +kernel))
theorem ms_X12_isSaid : Cond.selects (yX12_isSaid).cls yX12_isSaid yX12_isSaid ∈ ALLg := (al_in (tb0 (List.mem_of_getElem? (i := 91) (by rfl))) (by decide +kernel))
theorem ml_X12_413 : Cond.methodLink RX12 413 yX12_suffers ∈ ALLg := (al_in (tb8 (List.mem_of_getElem? (i := 86) (by rfl))) (by decide +kernel))
theorem mx_X12_suffers : Mx yX12_suffers cX12_suffers 7 none 0 := ⟨(al_in (tb8 (List.mem_of_getElem? (i := 89) (by rfl))) (by decide +kernel)), (al_in (tb1 (List.mem_of_getElem? (i := 13) (by rfl))) (by decide +kernel)), ⟨by decide +kernel, by decide +kernel, by decide +kernel⟩, by decide⟩
theorem mi_X12_suffers : Cond.instanceMethod yX12_suffers ∈ ALLg := (al_in (tb8 (List.mem_of_getElem? (i := 88) (by rfl))) (by decide +kernel))
theorem ms_X12_suffers : Cond.selects (yX12_suffers).cls yX12_suffers yX12_suffers ∈ ALLg := (al_in (tb0 (List.mem_of_getElem? (i := 92) (by rfl))) (by decide +kernel))
theorem ml_X12_416 : Cond.methodLink RX12 416 yX12_isReadAgain ∈ ALLg := (al_in (tb8 (List.mem_of_getElem? (i := 90) (by rfl))) (by decide +kernel))
theorem mx_X12_isReadAgain : Mx yX12_isReadAgain cX12_isReadAgain 4 (some .boolean) 1 := ⟨(al_in (tb8 (List.mem_of_getElem? (i := 93) (by rfl))) (by decide +kernel)), (al_in (tb1 (List.mem_of_getElem? (i := 13) (by rfl))) (by decide +kernel)), ⟨by decide +kernel, by decide +kernel, by decide +kernel⟩, by decide⟩
theorem mi_X12_isReadAgain : Cond.instanceMethod yX12_isReadAgain ∈ ALLg := (al_in (tb8 (List.mem_of_getElem? (i := 92) (by rfl))) (by decide +kernel))
theorem ms_X12_isReadAgain : Cond.selects (yX12_isReadAgain).cls yX12_isReadAgain yX12_isReadAgain ∈ ALLg := (al_in (tb0 (List.mem_of_getElem? (i := 93) (by rfl))) (by decide +kernel))
theorem ml_X12_419 : Cond.methodLink RX12 419 yX12_asksTwo ∈ ALLg := (al_in (tb8 (List.mem_of_getElem? (i := 102) (by rfl))) (by decide +kernel))
theorem mx_X12_asksTwo : Mx yX12_asksTwo cX12_asksTwo 3 (some .int) 2 := ⟨(al_in (tb8 (List.mem_of_getElem? (i := 105) (by rfl))) (by decide +kernel)), (al_in (tb1 (List.mem_of_getElem? (i := 13) (by rfl))) (by decide +kernel)), ⟨by decide +kernel, by decide +kernel, by decide +kernel⟩, by decide⟩
theorem mi_X12_asksTwo : Cond.instanceMethod yX12_asksTwo ∈ ALLg := (al_in (tb8 (List.mem_of_getElem? (i := 104) (by rfl))) (by decide +kernel))
theorem ms_X12_asksTwo : Cond.selects (yX12_asksTwo).cls yX12_asksTwo yX12_asksTwo ∈ ALLg := (al_in (tb0 (List.mem_of_getElem? (i := 94) (by rfl))) (by decide +kernel))
theorem fl_X12_58 : Fl RX12 58 12 23 true (.array .int) := ⟨RX12, TX12, 29, tyX12, ⟨rfl, by decide, inX12, tyX12_ok, nmX12, rfl, by decide +kernel⟩, rfl, (al_in (tb6 (List.mem_of_getElem? (i := 107) (by rfl))) (by decide +kernel))⟩
theorem fl_X12_61 : Fl RX12 61 12 24 true (.array .int) := ⟨RX12, TX12, 29, tyX12, ⟨rfl, by decide, inX12, tyX12_ok, nmX12, rfl, by decide +kernel⟩, rfl, (al_in (tb6 (List.mem_of_getElem? (i := 108) (by rfl))) (by decide +kernel))⟩
theorem ml_X12_422 : Cond.methodLink RX12 422 yX12_unravels ∈ ALLg := (al_in (tb8 (List.mem_of_getElem? (i := 114) (by rfl))) (by decide +kernel))
theorem mx_X12_unravels : Mx yX12_unravels cX12_unravels 5 (some .int) 0 := ⟨(al_in (tb8 (List.mem_of_getElem? (i := 117) (by rfl))) (by decide +kernel)), (al_in (tb1 (List.mem_of_getElem? (i := 13) (by rfl))) (by decide +kernel)), ⟨by decide +kernel, by decide +kernel, by decide +kernel⟩, by decide⟩
theorem mi_X12_unravels : Cond.instanceMethod yX12_unravels ∈ ALLg := (al_in (tb8 (List.mem_of_getElem? (i := 116) (by rfl))) (by decide +kernel))
theorem ms_X12_unravels : Cond.selects (yX12_unravels).cls yX12_unravels yX12_unravels ∈ ALLg := (al_in (tb0 (List.mem_of_getElem? (i := 95) (by rfl))) (by decide +kernel))
theorem fl_X12_64 : Fl RX12 64 12 25 true (.array .int) := ⟨RX12, TX12, 29, tyX12, ⟨rfl, by decide, inX12, tyX12_ok, nmX12, rfl, by decide +kernel⟩, rfl, (al_in (tb6 (List.mem_of_getElem? (i := 109) (by rfl))) (by decide +kernel))⟩
theorem ml_X12_425 : Cond.methodLink RX12 425 yX12_isSlot ∈ ALLg := (al_in (tb8 (List.mem_of_getElem? (i := 142) (by rfl))) (by decide +kernel))
theorem mx_X12_isSlot : Mx yX12_isSlot cX12_isSlot 1 (some .boolean) 1 := ⟨(al_in (tb8 (List.mem_of_getElem? (i := 144) (by rfl))) (by decide +kernel)), (al_in (tb1 (List.mem_of_getElem? (i := 13) (by rfl))) (by decide +kernel)), ⟨by decide +kernel, by decide +kernel, by decide +kernel⟩, by decide⟩
theorem mt_X12_isSlot : Cond.static yX12_isSlot ∈ ALLg := (al_in (tb8 (List.mem_of_getElem? (i := 143) (by rfl))) (by decide +kernel))
theorem fl_X12_67 : Fl RX12 67 12 26 true (.array .int) := ⟨RX12, TX12, 29, tyX12, ⟨rfl, by decide, inX12, tyX12_ok, nmX12, rfl, by decide +kernel⟩, rfl, (al_in (tb6 (List.mem_of_getElem? (i := 110) (by rfl))) (by decide +kernel))⟩
theorem fl_X12_70 : Fl RX12 70 12 27 true (.array .long) := ⟨RX12, TX12, 29, tyX12, ⟨rfl, by decide, inX12, tyX12_ok, nmX12, rfl, by decide +kernel⟩, rfl, (al_in (tb6 (List.mem_of_getElem? (i := 111) (by rfl))) (by decide +kernel))⟩
theorem ml_X12_428 : Cond.methodLink RX12 428 yX12_cut ∈ ALLg := (al_in (tb8 (List.mem_of_getElem? (i := 149) (by rfl))) (by decide +kernel))
theorem mx_X12_cut : Mx yX12_cut cX12_cut 4 (some .long) 2 := ⟨(al_in (tb8 (List.mem_of_getElem? (i := 151) (by rfl))) (by decide +kernel)), (al_in (tb1 (List.mem_of_getElem? (i := 13) (by rfl))) (by decide +kernel)), ⟨by decide +kernel, by decide +kernel, by decide +kernel⟩, by decide⟩
theorem mt_X12_cut : Cond.static yX12_cut ∈ ALLg := (al_in (tb8 (List.mem_of_getElem? (i := 150) (by rfl))) (by decide +kernel))
theorem fl_X12_74 : Fl RX12 74 12 28 true (.array .long) := ⟨RX12, TX12, 29, tyX12, ⟨rfl, by decide, inX12, tyX12_ok, nmX12, rfl, by decide +kernel⟩, rfl, (al_in (tb6 (List.mem_of_getElem? (i := 112) (by rfl))) (by decide +kernel))⟩
