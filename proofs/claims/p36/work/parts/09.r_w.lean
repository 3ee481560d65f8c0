theorem fl_X12_13 : Fl RX12 13 12 1 true (.array .int) := ⟨RX12, TX12, 29, tyX12, ⟨rfl, by decide, inX12, tyX12_ok, nmX12, rfl, by decide +kernel⟩, rfl, (al_in (tb6 (List.mem_of_getElem? (i := 85) (by rfl))) (by decide +kernel))⟩
theorem fl_X12_34 : Fl RX12 34 12 14 true (.array .int) := ⟨RX12, TX12, 29, tyX12, ⟨rfl, by decide, inX12, tyX12_ok, nmX12, rfl, by decide +kernel⟩, rfl, (al_in (tb6 (List.mem_of_getElem? (i := 98) (by rfl))) (by decide +kernel))⟩
theorem ml_X12_181 : Cond.methodLink RX12 181 yX12_begin ∈ ALLg := (al_in (tb6 (List.mem_of_getElem? (i := 201) (by rfl))) (by decide +kernel))
theorem fl_X12_102 : Fl RX12 102 12 5 false .int := ⟨RX12, TX12, 29, tyX12, ⟨rfl, by decide, inX12, tyX12_ok, nmX12, rfl, by decide +kernel⟩, rfl, (al_in (tb6 (List.mem_of_getElem? (i := 89) (by rfl))) (by decide +kernel))⟩
theorem fl_X12_105 : Fl RX12 105 12 7 false .int := ⟨RX12, TX12, 29, tyX12, ⟨rfl, by decide, inX12, tyX12_ok, nmX12, rfl, by decide +kernel⟩, rfl, (al_in (tb6 (List.mem_of_getElem? (i := 91) (by rfl))) (by decide +kernel))⟩
theorem fl_X12_108 : Fl RX12 108 12 8 false .int := ⟨RX12, TX12, 29, tyX12, ⟨rfl, by decide, inX12, tyX12_ok, nmX12, rfl, by decide +kernel⟩, rfl, (al_in (tb6 (List.mem_of_getElem? (i := 92) (by rfl))) (by decide +kernel))⟩
theorem fl_X12_111 : Fl RX12 111 12 12 false .int := ⟨RX12, TX12, 29, tyX12, ⟨rfl, by decide, inX12, tyX12_ok, nmX12, rfl, by decide +kernel⟩, rfl, (al_in (tb6 (List.mem_of_getElem? (i := 96) (by rfl))) (by decide +kernel))⟩
theorem fl_X12_31 : Fl RX12 31 12 13 false .int := ⟨RX12, TX12, 29, tyX12, ⟨rfl, by decide, inX12, tyX12_ok, nmX12, rfl, by decide +kernel⟩, rfl, (al_in (tb6 (List.mem_of_getElem? (i := 97) (by rfl))) (by decide +kernel))⟩
theorem mx_X12_begin : Mx yX12_begin cX12_begin 1 none 0 := ⟨(al_in (tb6 (List.mem_of_getElem? (i := 204) (by rfl))) (by decide +kernel)), (al_in (tb1 (List.mem_of_getElem? (i := 13) (by rfl))) (by decide +kernel)), ⟨by decide +kernel, by decide +kernel, by decide +kernel⟩, by decide⟩
theorem mi_X12_begin : Cond.instanceMethod yX12_begin ∈ ALLg := (al_in (tb6 (List.mem_of_getElem? (i := 203) (by rfl))) (by decide +kernel))
theorem ms_X12_begin : Cond.selects (yX12_begin).cls yX12_begin yX12_begin ∈ ALLg := (al_in (tb0 (List.mem_of_getElem? (i := 39) (by rfl))) (by decide +kernel))
theorem ml_X12_156 : Cond.methodLink RX12 156 yX12_advance ∈ ALLg := (al_in (tb6 (List.mem_of_getElem? (i := 209) (by rfl))) (by decide +kernel))
theorem ml_X12_114 : Cond.methodLink RX12 114 yX12_see ∈ ALLg := (al_in (tb6 (List.mem_of_getElem? (i := 213) (by rfl))) (by decide +kernel))
theorem fl_X12_24 : Fl RX12 24 12 4 true (.array .byte) := ⟨RX12, TX12, 29, tyX12, ⟨rfl, by decide, inX12, tyX12_ok, nmX12, rfl, by decide +kernel⟩, rfl, (al_in (tb6 (List.mem_of_getElem? (i := 88) (by rfl))) (by decide +kernel))⟩
theorem mx_X12_see : Mx yX12_see cX12_see 2 (some .int) 1 := ⟨(al_in (tb6 (List.mem_of_getElem? (i := 216) (by rfl))) (by decide +kernel)), (al_in (tb1 (List.mem_of_getElem? (i := 13) (by rfl))) (by decide +kernel)), ⟨by decide +kernel, by decide +kernel, by decide +kernel⟩, by decide⟩
theorem mi_X12_see : Cond.instanceMethod yX12_see ∈ ALLg := (al_in (tb6 (List.mem_of_getElem? (i := 215) (by rfl))) (by decide +kernel))
theorem ms_X12_see : Cond.selects (yX12_see).cls yX12_see yX12_see ∈ ALLg := (al_in (tb0 (List.mem_of_getElem? (i := 42) (by rfl))) (by decide +kernel))
theorem fl_X12_117 : Fl RX12 117 12 9 false .int := ⟨RX12, TX12, 29, tyX12, ⟨rfl, by decide, inX12, tyX12_ok, nmX12, rfl, by decide +kernel⟩, rfl, (al_in (tb6 (List.mem_of_getElem? (i := 93) (by rfl))) (by decide +kernel))⟩
theorem kl_X12_123 : Cond.constantLong RX12 123 97 ∈ ALLg := (al_in (tb6 (List.mem_of_getElem? (i := 217) (by rfl))) (by decide +kernel))
theorem kl_X12_125 : Cond.constantLong RX12 125 122 ∈ ALLg := (al_in (tb6 (List.mem_of_getElem? (i := 218) (by rfl))) (by decide +kernel))
theorem ml_X12_79 : Cond.methodLink RX12 79 yX12_in ∈ ALLg := (al_in (tb6 (List.mem_of_getElem? (i := 178) (by rfl))) (by decide +kernel))
theorem mx_X12_in : Mx yX12_in cX12_in 6 (some .boolean) 3 := ⟨(al_in (tb6 (List.mem_of_getElem? (i := 180) (by rfl))) (by decide +kernel)), (al_in (tb1 (List.mem_of_getElem? (i := 13) (by rfl))) (by decide +kernel)), ⟨by decide +kernel, by decide +kernel, by decide +kernel⟩, by decide⟩
theorem mt_X12_in : Cond.static yX12_in ∈ ALLg := (al_in (tb6 (List.mem_of_getElem? (i := 179) (by rfl))) (by decide +kernel))
theorem kl_X12_127 : Cond.constantLong RX12 127 48 ∈ ALLg := (al_in (tb6 (List.mem_of_getElem? (i := 219) (by rfl))) (by decide +kernel))
theorem kl_X12_129 : Cond.constantLong RX12 129 57 ∈ ALLg := (al_in (tb6 (List.mem_of_getElem? (i := 220) (by rfl))) (by decide +kernel))
theorem fl_X12_120 : Fl RX12 120 12 10 false .int := ⟨RX12, TX12, 29, tyX12, ⟨rfl, by decide, inX12, tyX12_ok, nmX12, rfl, by decide +kernel⟩, rfl, (al_in (tb6 (List.mem_of_getElem? (i := 94) (by rfl))) (by decide +kernel))⟩
theorem fl_X12_131 : Fl RX12 131 12 11 false .int := ⟨RX12, TX12, 29, tyX12, ⟨rfl, by decide, inX12, tyX12_ok, nmX12, rfl, by decide +kernel⟩, rfl, (al_in (tb6 (List.mem_of_getElem? (i := 95) (by rfl))) (by decide +kernel))⟩
theorem ml_X12_134 : Cond.methodLink RX12 134 yJ9_min_7cf53 ∈ ALLg := (al_in (tb6 (List.mem_of_getElem? (i := 221) (by rfl))) (by decide +kernel))
theorem mm_X12_134 : Cond.methodLink RX12 134 Lib.Math.min.name ∈ ALLg := (al_in (tb6 (List.mem_of_getElem? (i := 221) (by rfl))) (by decide +kernel))
theorem mm_smin : Cond.static Lib.Math.min.name ∈ ALLg := (al_in (tb2 (List.mem_of_getElem? (i := 173) (by rfl))) (by decide +kernel))
theorem mm_i : Cond.initialized "java/lang/Math" ∈ ALLg := (al_in (tb1 (List.mem_of_getElem? (i := 14) (by rfl))) (by decide +kernel))
theorem mm_cmin : Cond.code Lib.Math.min.name Lib.Math.min.code 2 (some .int) ∈ ALLg := (al_in (tb2 (List.mem_of_getElem? (i := 174) (by rfl))) (by decide +kernel))
theorem mx_X12_advance : Mx yX12_advance cX12_advance 2 none 0 := ⟨(al_in (tb6 (List.mem_of_getElem? (i := 212) (by rfl))) (by decide +kernel)), (al_in (tb1 (List.mem_of_getElem? (i := 13) (by rfl))) (by decide +kernel)), ⟨by decide +kernel, by decide +kernel, by decide +kernel⟩, by decide⟩
theorem mi_X12_advance : Cond.instanceMethod yX12_advance ∈ ALLg := (al_in (tb6 (List.mem_of_getElem? (i := 211) (by rfl))) (by decide +kernel))
theorem ms_X12_advance : Cond.selects (yX12_advance).cls yX12_advance yX12_advance ∈ ALLg := (al_in (tb0 (List.mem_of_getElem? (i := 41) (by rfl))) (by decide +kernel))
theorem ml_X12_139 : Cond.methodLink RX12 139 yX12_good ∈ ALLg := (al_in (tb6 (List.mem_of_getElem? (i := 239) (by rfl))) (by decide +kernel))
theorem mx_X12_good : Mx yX12_good cX12_good 1 (some .boolean) 0 := ⟨(al_in (tb7 (List.mem_of_getElem? (i := 2) (by rfl))) (by decide +kernel)), (al_in (tb1 (List.mem_of_getElem? (i := 13) (by rfl))) (by decide +kernel)), ⟨by decide +kernel, by decide +kernel, by decide +kernel⟩, by decide⟩
theorem mi_X12_good : Cond.instanceMethod yX12_good ∈ ALLg := (al_in (tb7 (List.mem_of_getElem? (i := 1) (by rfl))) (by decide +kernel))
theorem ms_X12_good : Cond.selects (yX12_good).cls yX12_good yX12_good ∈ ALLg := (al_in (tb0 (List.mem_of_getElem? (i := 47) (by rfl))) (by decide +kernel))
theorem ml_X12_197 : Cond.methodLink RX12 197 yX12_keeps ∈ ALLg := (al_in (tb7 (List.mem_of_getElem? (i := 26) (by rfl))) (by decide +kernel))
theorem mx_X12_keeps : Mx yX12_keeps cX12_keeps 4 none 2 := ⟨(al_in (tb7 (List.mem_of_getElem? (i := 29) (by rfl))) (by decide +kernel)), (al_in (tb1 (List.mem_of_getElem? (i := 13) (by rfl))) (by decide +kernel)), ⟨by decide +kernel, by decide +kernel, by decide +kernel⟩, by decide⟩
theorem mi_X12_keeps : Cond.instanceMethod yX12_keeps ∈ ALLg := (al_in (tb7 (List.mem_of_getElem? (i := 28) (by rfl))) (by decide +kernel))
theorem ms_X12_keeps : Cond.selects (yX12_keeps).cls yX12_keeps yX12_keeps ∈ ALLg := (al_in (tb0 (List.mem_of_getElem? (i := 52) (by rfl))) (by decide +kernel))
theorem ml_X12_298 : Cond.methodLink RX12 298 yX12_readLoss ∈ ALLg := (al_in (tb7 (List.mem_of_getElem? (i := 134) (by rfl))) (by decide +kernel))
theorem sr_X12_287 : (RX12, 287, "lose", 71) ∈ strW := List.mem_of_getElem? (i := 71) (by rfl)
theorem ml_X12_152 : Cond.methodLink RX12 152 yX12_is ∈ ALLg := (al_in (tb6 (List.mem_of_getElem? (i := 235) (by rfl))) (by decide +kernel))
theorem ml_X12_143 : Cond.methodLink RX12 143 yJ0_length_8abf5 ∈ ALLg := (al_in (tb7 (List.mem_of_getElem? (i := 3) (by rfl))) (by decide +kernel))
theorem sf_J0_9 : Cond.fieldLink RJ0 9 "java/lang/String" "value" "[B" ∈ ALLg := (al_in (tb8 (List.mem_of_getElem? (i := 161) (by rfl))) (by decide +kernel))
theorem ml_J0_335 : Cond.methodLink RJ0 335 yJ0_coder_7d493 ∈ ALLg := (al_in (tb2 (List.mem_of_getElem? (i := 188) (by rfl))) (by decide +kernel))
theorem sf_J0_38 : Cond.fieldLink RJ0 38 "java/lang/String" "COMPACT_STRINGS" "Z" ∈ ALLg := (al_in (tb2 (List.mem_of_getElem? (i := 192) (by rfl))) (by decide +kernel))
theorem sf_J0_15 : Cond.fieldLink RJ0 15 "java/lang/String" "coder" "B" ∈ ALLg := (al_in (tb8 (List.mem_of_getElem? (i := 162) (by rfl))) (by decide +kernel))
theorem mx_J0_coder_7d493 : Mx yJ0_coder_7d493 cJ0_coder_7d493 1 (some .byte) 0 := ⟨(al_in (tb2 (List.mem_of_getElem? (i := 191) (by rfl))) (by decide +kernel)), (al_in (tb1 (List.mem_of_getElem? (i := 15) (by rfl))) (by decide +kernel)), ⟨by decide +kernel, by decide +kernel, by decide +kernel⟩, by decide⟩
theorem mi_J0_coder_7d493 : Cond.instanceMethod yJ0_coder_7d493 ∈ ALLg := (al_in (tb2 (List.mem_of_getElem? (i := 189) (by rfl))) (by decide +kernel))
theorem ms_J0_coder_7d493 : Cond.selects (yJ0_coder_7d493).cls yJ0_coder_7d493 yJ0_coder_7d493 ∈ ALLg := (al_in (tb2 (List.mem_of_getElem? (i := 190) (by rfl))) (by decide +kernel))
theorem mx_J0_length_8abf5 : Mx yJ0_length_8abf5 cJ0_length_8abf5 1 (some .int) 0 := ⟨(al_in (tb2 (List.mem_of_getElem? (i := 187) (by rfl))) (by decide +kernel)), (al_in (tb1 (List.mem_of_getElem? (i := 15) (by rfl))) (by decide +kernel)), ⟨by decide +kernel, by decide +kernel, by decide +kernel⟩, by decide⟩
theorem mi_J0_length_8abf5 : Cond.instanceMethod yJ0_length_8abf5 ∈ ALLg := (al_in (tb2 (List.mem_of_getElem? (i := 185) (by rfl))) (by decide +kernel))
theorem ms_J0_length_8abf5 : Cond.selects (yJ0_length_8abf5).cls yJ0_length_8abf5 yJ0_length_8abf5 ∈ ALLg := (al_in (tb2 (List.mem_of_getElem? (i := 186) (by rfl))) (by decide +kernel))
theorem ml_X12_148 : Cond.methodLink RX12 148 yJ0_charAt_5068e ∈ ALLg := (al_in (tb7 (List.mem_of_getElem? (i := 4) (by rfl))) (by decide +kernel))
theorem ml_J0_492 : Cond.methodLink RJ0 492 yJ0_isLatin1_aae02 ∈ ALLg := (al_in (tb2 (List.mem_of_getElem? (i := 198) (by rfl))) (by decide +kernel))
theorem mx_J0_isLatin1_aae02 : Mx yJ0_isLatin1_aae02 cJ0_isLatin1_aae02 1 (some .boolean) 0 := ⟨(al_in (tb2 (List.mem_of_getElem? (i := 201) (by rfl))) (by decide +kernel)), (al_in (tb1 (List.mem_of_getElem? (i := 15) (by rfl))) (by decide +kernel)), ⟨by decide +kernel, by decide +kernel, by decide +kernel⟩, by decide⟩
theorem mi_J0_isLatin1_aae02 : Cond.instanceMethod yJ0_isLatin1_aae02 ∈ ALLg := (al_in (tb2 (List.mem_of_getElem? (i := 199) (by rfl))) (by decide +kernel))
theorem ms_J0_isLatin1_aae02 : Cond.selects (yJ0_isLatin1_aae02).cls yJ0_isLatin1_aae02 yJ0_isLatin1_aae02 ∈ ALLg := (al_in (tb2 (List.mem_of_getElem? (i := 200) (by rfl))) (by decide +kernel))
theorem ml_J0_495 : Cond.methodLink RJ0 495 yJ1_charAt_3b067 ∈ ALLg := (al_in (tb2 (List.mem_of_getElem? (i := 202) (by rfl))) (by decide +kernel))
theorem ml_J1_9 : Cond.methodLink RJ1 9 yJ0_checkIndex_df160 ∈ ALLg := (al_in (tb2 (List.mem_of_getElem? (i := 205) (by rfl))) (by decide +kernel))
theorem sf_J0_1053 : Cond.fieldLink RJ0 1053 "jdk/internal/util/Preconditions" "SIOOBE_FORMATTER" "Ljava/util/function/BiFunction;" ∈ ALLg := (al_in (tb2 (List.mem_of_getElem? (i := 208) (by rfl))) (by decide +kernel))
theorem ml_J0_1059 : Cond.methodLink RJ0 1059 yJ3_checkIndex_8e157 ∈ ALLg := (al_in (tb2 (List.mem_of_getElem? (i := 210) (by rfl))) (by decide +kernel))
theorem mx_J3_checkIndex_8e157 : Mx yJ3_checkIndex_8e157 cJ3_checkIndex_8e157 3 (some .int) 3 := ⟨(al_in (tb2 (List.mem_of_getElem? (i := 212) (by rfl))) (by decide +kernel)), (al_in (tb1 (List.mem_of_getElem? (i := 17) (by rfl))) (by decide +kernel)), ⟨by decide +kernel, by decide +kernel, by decide +kernel⟩, by decide⟩
theorem mt_J3_checkIndex_8e157 : Cond.static yJ3_checkIndex_8e157 ∈ ALLg := (al_in (tb2 (List.mem_of_getElem? (i := 211) (by rfl))) (by decide +kernel))
theorem mx_J0_checkIndex_df160 : Mx yJ0_checkIndex_df160 cJ0_checkIndex_df160 2 none 2 := ⟨(al_in (tb2 (List.mem_of_getElem? (i := 207) (by rfl))) (by decide +kernel)), (al_in (tb1 (List.mem_of_getElem? (i := 15) (by rfl))) (by decide +kernel)), ⟨by decide +kernel, by decide +kernel, by decide +kernel⟩, by decide⟩
theorem mt_J0_checkIndex_df160 : Cond.static yJ0_checkIndex_df160 ∈ ALLg := (al_in (tb2 (List.mem_of_getElem? (i := 206) (by rfl))) (by decide +kernel))
theorem mx_J1_charAt_3b067 : Mx yJ1_charAt_3b067 cJ1_charAt_3b067 2 (some .char) 2 := ⟨(al_in (tb2 (List.mem_of_getElem? (i := 204) (by rfl))) (by decide +kernel)), (al_in (tb1 (List.mem_of_getElem? (i := 16) (by rfl))) (by decide +kernel)), ⟨by decide +kernel, by decide +kernel, by decide +kernel⟩, by decide⟩
theorem mt_J1_charAt_3b067 : Cond.static yJ1_charAt_3b067 ∈ ALLg := (al_in (tb2 (List.mem_of_getElem? (i := 203) (by rfl))) (by decide +kernel))
theorem mx_J0_charAt_5068e : Mx yJ0_charAt_5068e cJ0_charAt_5068e 2 (some .char) 1 := ⟨(al_in (tb2 (List.mem_of_getElem? (i := 197) (by rfl))) (by decide +kernel)), (al_in (tb1 (List.mem_of_getElem? (i := 15) (by rfl))) (by decide +kernel)), ⟨by decide +kernel, by decide +kernel, by decide +kernel⟩, by decide⟩
theorem mi_J0_charAt_5068e : Cond.instanceMethod yJ0_charAt_5068e ∈ ALLg := (al_in (tb2 (List.mem_of_getElem? (i := 195) (by rfl))) (by decide +kernel))
theorem ms_J0_charAt_5068e : Cond.selects (yJ0_charAt_5068e).cls yJ0_charAt_5068e yJ0_charAt_5068e ∈ ALLg := (al_in (tb2 (List.mem_of_getElem? (i := 196) (by rfl))) (by decide +kernel))
theorem mx_X12_is : Mx yX12_is cX12_is 4 (some .boolean) 1 := ⟨(al_in (tb6 (List.mem_of_getElem? (i := 238) (by rfl))) (by decide +kernel)), (al_in (tb1 (List.mem_of_getElem? (i := 13) (by rfl))) (by decide +kernel)), ⟨by decide +kernel, by decide +kernel, by decide +kernel⟩, by decide⟩
theorem mi_X12_is : Cond.instanceMethod yX12_is ∈ ALLg := (al_in (tb6 (List.mem_of_getElem? (i := 237) (by rfl))) (by decide +kernel))
theorem ms_X12_is : Cond.selects (yX12_is).cls yX12_is yX12_is ∈ ALLg := (al_in (tb0 (List.mem_of_getElem? (i := 46) (by rfl))) (by decide +kernel))
theorem sr_X12_289 : (RX12, 289, "moth", 72) ∈ strW := List.mem_of_getElem? (i := 72) (by rfl)
theorem sr_X12_291 : (RX12, 291, "wash", 73) ∈ strW := List.mem_of_getElem? (i := 73) (by rfl)
theorem ml_X12_159 : Cond.methodLink RX12 159 yX12_takes ∈ ALLg := (al_in (tb6 (List.mem_of_getElem? (i := 231) (by rfl))) (by decide +kernel))
theorem mx_X12_takes : Mx yX12_takes cX12_takes 3 (some .boolean) 1 := ⟨(al_in (tb6 (List.mem_of_getElem? (i := 234) (by rfl))) (by decide +kernel)), (al_in (tb1 (List.mem_of_getElem? (i := 13) (by rfl))) (by decide +kernel)), ⟨by decide +kernel, by decide +kernel, by decide +kernel⟩, by decide⟩
theorem mi_X12_takes : Cond.instanceMethod yX12_takes ∈ ALLg := (al_in (tb6 (List.mem_of_getElem? (i := 233) (by rfl))) (by decide +kernel))
theorem ms_X12_takes : Cond.selects (yX12_takes).cls yX12_takes yX12_takes ∈ ALLg := (al_in (tb0 (List.mem_of_getElem? (i := 45) (by rfl))) (by decide +kernel))
theorem ml_X12_178 : Cond.methodLink RX12 178 yX12_ends ∈ ALLg := (al_in (tb7 (List.mem_of_getElem? (i := 14) (by rfl))) (by decide +kernel))
theorem ml_X12_162 : Cond.methodLink RX12 162 yX12_errs ∈ ALLg := (al_in (tb7 (List.mem_of_getElem? (i := 5) (by rfl))) (by decide +kernel))
theorem mx_X12_errs : Mx yX12_errs cX12_errs 2 none 1 := ⟨(al_in (tb7 (List.mem_of_getElem? (i := 8) (by rfl))) (by decide +kernel)), (al_in (tb1 (List.mem_of_getElem? (i := 13) (by rfl))) (by decide +kernel)), ⟨by decide +kernel, by decide +kernel, by decide +kernel⟩, by decide⟩
theorem mi_X12_errs : Cond.instanceMethod yX12_errs ∈ ALLg := (al_in (tb7 (List.mem_of_getElem? (i := 7) (by rfl))) (by decide +kernel))
theorem ms_X12_errs : Cond.selects (yX12_errs).cls yX12_errs yX12_errs ∈ ALLg := (al_in (tb0 (List.mem_of_getElem? (i := 48) (by rfl))) (by decide +kernel))
theorem mx_X12_ends : Mx yX12_ends cX12_ends 1 none 0 := ⟨(al_in (tb7 (List.mem_of_getElem? (i := 17) (by rfl))) (by decide +kernel)), (al_in (tb1 (List.mem_of_getElem? (i := 13) (by rfl))) (by decide +kernel)), ⟨by decide +kernel, by decide +kernel, by decide +kernel⟩, by decide⟩
theorem mi_X12_ends : Cond.instanceMethod yX12_ends ∈ ALLg := (al_in (tb7 (List.mem_of_getElem? (i := 16) (by rfl))) (by decide +kernel))
theorem ms_X12_ends : Cond.selects (yX12_ends).cls yX12_ends yX12_ends ∈ ALLg := (al_in (tb0 (List.mem_of_getElem? (i := 50) (by rfl))) (by decide +kernel))
theorem ml_X12_170 : Cond.methodLink RX12 170 yX12_number ∈ ALLg := (al_in (tb7 (List.mem_of_getElem? (i := 9) (by rfl))) (by decide +kernel))
theorem mx_X12_number : Mx yX12_number cX12_number 4 (some .int) 2 := ⟨(al_in (tb7 (List.mem_of_getElem? (i := 12) (by rfl))) (by decide +kernel)), (al_in (tb1 (List.mem_of_getElem? (i := 13) (by rfl))) (by decide +kernel)), ⟨by decide +kernel, by decide +kernel, by decide +kernel⟩, by decide⟩
theorem mi_X12_number : Cond.instanceMethod yX12_number ∈ ALLg := (al_in (tb7 (List.mem_of_getElem? (i := 11) (by rfl))) (by decide +kernel))
theorem ms_X12_number : Cond.selects (yX12_number).cls yX12_number yX12_number ∈ ALLg := (al_in (tb0 (List.mem_of_getElem? (i := 49) (by rfl))) (by decide +kernel))
theorem sr_X12_297 : (RX12, 297, "from", 76) ∈ strW := List.mem_of_getElem? (i := 76) (by rfl)
theorem ml_X12_189 : Cond.methodLink RX12 189 yX12_told ∈ ALLg := (al_in (tb6 (List.mem_of_getElem? (i := 223) (by rfl))) (by decide +kernel))
theorem ml_X12_166 : Cond.methodLink RX12 166 yX12_needs ∈ ALLg := (al_in (tb6 (List.mem_of_getElem? (i := 227) (by rfl))) (by decide +kernel))
theorem mx_X12_needs : Mx yX12_needs cX12_needs 2 none 1 := ⟨(al_in (tb6 (List.mem_of_getElem? (i := 230) (by rfl))) (by decide +kernel)), (al_in (tb1 (List.mem_of_getElem? (i := 13) (by rfl))) (by decide +kernel)), ⟨by decide +kernel, by decide +kernel, by decide +kernel⟩, by decide⟩
theorem mi_X12_needs : Cond.instanceMethod yX12_needs ∈ ALLg := (al_in (tb6 (List.mem_of_getElem? (i := 229) (by rfl))) (by decide +kernel))
theorem ms_X12_needs : Cond.selects (yX12_needs).cls yX12_needs yX12_needs ∈ ALLg := (al_in (tb0 (List.mem_of_getElem? (i := 44) (by rfl))) (by decide +kernel))
theorem mx_X12_told : Mx yX12_told cX12_told 4 (some .int) 3 := ⟨(al_in (tb6 (List.mem_of_getElem? (i := 226) (by rfl))) (by decide +kernel)), (al_in (tb1 (List.mem_of_getElem? (i := 13) (by rfl))) (by decide +kernel)), ⟨by decide +kernel, by decide +kernel, by decide +kernel⟩, by decide⟩
theorem mi_X12_told : Cond.instanceMethod yX12_told ∈ ALLg := (al_in (tb6 (List.mem_of_getElem? (i := 225) (by rfl))) (by decide +kernel))
theorem ms_X12_told : Cond.selects (yX12_told).cls yX12_told yX12_told ∈ ALLg := (al_in (tb0 (List.mem_of_getElem? (i := 43) (by rfl))) (by decide +kernel))
theorem sr_X12_293 : (RX12, 293, "columns", 74) ∈ strW := List.mem_of_getElem? (i := 74) (by rfl)
theorem sr_X12_295 : (RX12, 295, "to", 75) ∈ strW := List.mem_of_getElem? (i := 75) (by rfl)
theorem sr_X12_193 : (RX12, 193, "rows", 41) ∈ strW := List.mem_of_getElem? (i := 41) (by rfl)
theorem mx_X12_readLoss : Mx yX12_readLoss cX12_readLoss 4 none 0 := ⟨(al_in (tb7 (List.mem_of_getElem? (i := 137) (by rfl))) (by decide +kernel)), (al_in (tb1 (List.mem_of_getElem? (i := 13) (by rfl))) (by decide +kernel)), ⟨by decide +kernel, by decide +kernel, by decide +kernel⟩, by decide⟩
theorem mi_X12_readLoss : Cond.instanceMethod yX12_readLoss ∈ ALLg := (al_in (tb7 (List.mem_of_getElem? (i := 136) (by rfl))) (by decide +kernel))
theorem ms_X12_readLoss : Cond.selects (yX12_readLoss).cls yX12_readLoss yX12_readLoss ∈ ALLg := (al_in (tb0 (List.mem_of_getElem? (i := 67) (by rfl))) (by decide +kernel))
