theorem fl_X7_19 : Fl RX7 19 7 1 false .int := ⟨RX7, TX7, 7, tyX7, ⟨rfl, by decide, inX7, tyX7_ok, nmX7, rfl, by decide +kernel⟩, rfl, (al_in (tb1 (List.mem_of_getElem? (i := 37) (by rfl))) (by decide +kernel))⟩
theorem fl_X7_9 : Fl RX7 9 7 0 true (.array .int) := ⟨RX7, TX7, 7, tyX7, ⟨rfl, by decide, inX7, tyX7_ok, nmX7, rfl, by decide +kernel⟩, rfl, (al_in (tb1 (List.mem_of_getElem? (i := 36) (by rfl))) (by decide +kernel))⟩
theorem fl_X7_22 : Fl RX7 22 7 5 false .int := ⟨RX7, TX7, 7, tyX7, ⟨rfl, by decide, inX7, tyX7_ok, nmX7, rfl, by decide +kernel⟩, rfl, (al_in (tb1 (List.mem_of_getElem? (i := 43) (by rfl))) (by decide +kernel))⟩
theorem fl_X7_15 : Fl RX7 15 7 6 false .int := ⟨RX7, TX7, 7, tyX7, ⟨rfl, by decide, inX7, tyX7_ok, nmX7, rfl, by decide +kernel⟩, rfl, (al_in (tb1 (List.mem_of_getElem? (i := 45) (by rfl))) (by decide +kernel))⟩
theorem fl_X7_25 : Fl RX7 25 7 4 false .int := ⟨RX7, TX7, 7, tyX7, ⟨rfl, by decide, inX7, tyX7_ok, nmX7, rfl, by decide +kernel⟩, rfl, (al_in (tb1 (List.mem_of_getElem? (i := 42) (by rfl))) (by decide +kernel))⟩
theorem ml_X7_28 : Cond.methodLink RX7 28 yX7_advance ∈ ALLg := (al_in (tb2 (List.mem_of_getElem? (i := 154) (by rfl))) (by decide +kernel))
theorem ml_X7_31 : Cond.methodLink RX7 31 yX7_isFine ∈ ALLg := (al_in (tb2 (List.mem_of_getElem? (i := 158) (by rfl))) (by decide +kernel))
theorem mx_X7_isFine : Mx yX7_isFine cX7_isFine 1 (some .boolean) 0 := ⟨(al_in (tb2 (List.mem_of_getElem? (i := 161) (by rfl))) (by decide +kernel)), (al_in (tb1 (List.mem_of_getElem? (i := 2) (by rfl))) (by decide +kernel)), ⟨by decide +kernel, by decide +kernel, by decide +kernel⟩, by decide⟩
theorem mi_X7_isFine : Cond.instanceMethod yX7_isFine ∈ ALLg := (al_in (tb2 (List.mem_of_getElem? (i := 159) (by rfl))) (by decide +kernel))
theorem ms_X7_isFine : Cond.selects (yX7_isFine).cls yX7_isFine yX7_isFine ∈ ALLg := (al_in (tb2 (List.mem_of_getElem? (i := 160) (by rfl))) (by decide +kernel))
theorem fl_X7_38 : Fl RX7 38 7 3 false .int := ⟨RX7, TX7, 7, tyX7, ⟨rfl, by decide, inX7, tyX7_ok, nmX7, rfl, by decide +kernel⟩, rfl, (al_in (tb1 (List.mem_of_getElem? (i := 41) (by rfl))) (by decide +kernel))⟩
theorem ml_X7_41 : Cond.methodLink RX7 41 yX7_byteAt ∈ ALLg := (al_in (tb2 (List.mem_of_getElem? (i := 162) (by rfl))) (by decide +kernel))
theorem mx_X7_byteAt : Mx yX7_byteAt cX7_byteAt 2 (some .int) 1 := ⟨(al_in (tb2 (List.mem_of_getElem? (i := 165) (by rfl))) (by decide +kernel)), (al_in (tb1 (List.mem_of_getElem? (i := 2) (by rfl))) (by decide +kernel)), ⟨by decide +kernel, by decide +kernel, by decide +kernel⟩, by decide⟩
theorem mi_X7_byteAt : Cond.instanceMethod yX7_byteAt ∈ ALLg := (al_in (tb2 (List.mem_of_getElem? (i := 163) (by rfl))) (by decide +kernel))
theorem ms_X7_byteAt : Cond.selects (yX7_byteAt).cls yX7_byteAt yX7_byteAt ∈ ALLg := (al_in (tb2 (List.mem_of_getElem? (i := 164) (by rfl))) (by decide +kernel))
theorem ml_X7_45 : Cond.methodLink RX7 45 yX7_isBlank ∈ ALLg := (al_in (tb2 (List.mem_of_getElem? (i := 166) (by rfl))) (by decide +kernel))
theorem mx_X7_isBlank : Mx yX7_isBlank cX7_isBlank 1 (some .boolean) 1 := ⟨(al_in (tb2 (List.mem_of_getElem? (i := 168) (by rfl))) (by decide +kernel)), (al_in (tb1 (List.mem_of_getElem? (i := 2) (by rfl))) (by decide +kernel)), ⟨by decide +kernel, by decide +kernel, by decide +kernel⟩, by decide⟩
theorem mt_X7_isBlank : Cond.static yX7_isBlank ∈ ALLg := (al_in (tb2 (List.mem_of_getElem? (i := 167) (by rfl))) (by decide +kernel))
theorem ml_X7_49 : Cond.methodLink RX7 49 yX7_kindOf ∈ ALLg := (al_in (tb2 (List.mem_of_getElem? (i := 169) (by rfl))) (by decide +kernel))
theorem mx_X7_kindOf : Mx yX7_kindOf cX7_kindOf 1 (some .int) 1 := ⟨(al_in (tb2 (List.mem_of_getElem? (i := 171) (by rfl))) (by decide +kernel)), (al_in (tb1 (List.mem_of_getElem? (i := 2) (by rfl))) (by decide +kernel)), ⟨by decide +kernel, by decide +kernel, by decide +kernel⟩, by decide⟩
theorem mt_X7_kindOf : Cond.static yX7_kindOf ∈ ALLg := (al_in (tb2 (List.mem_of_getElem? (i := 170) (by rfl))) (by decide +kernel))
theorem fl_X7_35 : Fl RX7 35 7 2 false .int := ⟨RX7, TX7, 7, tyX7, ⟨rfl, by decide, inX7, tyX7_ok, nmX7, rfl, by decide +kernel⟩, rfl, (al_in (tb1 (List.mem_of_getElem? (i := 40) (by rfl))) (by decide +kernel))⟩
theorem ml_X7_52 : Cond.methodLink RX7 52 yJ9_min_7cf53 ∈ ALLg := (al_in (tb2 (List.mem_of_getElem? (i := 172) (by rfl))) (by decide +kernel))
theorem mm_X7_52 : Cond.methodLink RX7 52 Lib.Math.min.name ∈ ALLg := (al_in (tb2 (List.mem_of_getElem? (i := 172) (by rfl))) (by decide +kernel))
theorem mx_X7_advance : Mx yX7_advance cX7_advance 2 none 0 := ⟨(al_in (tb2 (List.mem_of_getElem? (i := 157) (by rfl))) (by decide +kernel)), (al_in (tb1 (List.mem_of_getElem? (i := 2) (by rfl))) (by decide +kernel)), ⟨by decide +kernel, by decide +kernel, by decide +kernel⟩, by decide⟩
theorem mi_X7_advance : Cond.instanceMethod yX7_advance ∈ ALLg := (al_in (tb2 (List.mem_of_getElem? (i := 155) (by rfl))) (by decide +kernel))
theorem ms_X7_advance : Cond.selects (yX7_advance).cls yX7_advance yX7_advance ∈ ALLg := (al_in (tb2 (List.mem_of_getElem? (i := 156) (by rfl))) (by decide +kernel))
theorem ml_X7_58 : Cond.methodLink RX7 58 yX7_isNumber ∈ ALLg := (al_in (tb3 (List.mem_of_getElem? (i := 0) (by rfl))) (by decide +kernel))
theorem mx_X7_isNumber : Mx yX7_isNumber cX7_isNumber 1 (some .boolean) 0 := ⟨(al_in (tb3 (List.mem_of_getElem? (i := 3) (by rfl))) (by decide +kernel)), (al_in (tb1 (List.mem_of_getElem? (i := 2) (by rfl))) (by decide +kernel)), ⟨by decide +kernel, by decide +kernel, by decide +kernel⟩, by decide⟩
theorem mi_X7_isNumber : Cond.instanceMethod yX7_isNumber ∈ ALLg := (al_in (tb3 (List.mem_of_getElem? (i := 1) (by rfl))) (by decide +kernel))
theorem ms_X7_isNumber : Cond.selects (yX7_isNumber).cls yX7_isNumber yX7_isNumber ∈ ALLg := (al_in (tb3 (List.mem_of_getElem? (i := 2) (by rfl))) (by decide +kernel))
theorem ml_X7_61 : Cond.methodLink RX7 61 yX7_numberTold ∈ ALLg := (al_in (tb3 (List.mem_of_getElem? (i := 4) (by rfl))) (by decide +kernel))
theorem mx_X7_numberTold : Mx yX7_numberTold cX7_numberTold 3 (some .int) 0 := ⟨(al_in (tb3 (List.mem_of_getElem? (i := 7) (by rfl))) (by decide +kernel)), (al_in (tb1 (List.mem_of_getElem? (i := 2) (by rfl))) (by decide +kernel)), ⟨by decide +kernel, by decide +kernel, by decide +kernel⟩, by decide⟩
theorem mi_X7_numberTold : Cond.instanceMethod yX7_numberTold ∈ ALLg := (al_in (tb3 (List.mem_of_getElem? (i := 6) (by rfl))) (by decide +kernel))
theorem ms_X7_numberTold : Cond.selects (yX7_numberTold).cls yX7_numberTold yX7_numberTold ∈ ALLg := (al_in (tb0 (List.mem_of_getElem? (i := 0) (by rfl))) (by decide +kernel))
theorem ml_X7_65 : Cond.methodLink RX7 65 yJ0_length_8abf5 ∈ ALLg := (al_in (tb2 (List.mem_of_getElem? (i := 184) (by rfl))) (by decide +kernel))
theorem ml_X7_70 : Cond.methodLink RX7 70 yJ0_charAt_5068e ∈ ALLg := (al_in (tb2 (List.mem_of_getElem? (i := 194) (by rfl))) (by decide +kernel))
theorem ml_X7_74 : Cond.methodLink RX7 74 yJ0_indexOf_0f7a4 ∈ ALLg := (al_in (tb3 (List.mem_of_getElem? (i := 29) (by rfl))) (by decide +kernel))
theorem ml_J0_633 : Cond.methodLink RJ0 633 yJ0_indexOf_7cf53 ∈ ALLg := (al_in (tb3 (List.mem_of_getElem? (i := 33) (by rfl))) (by decide +kernel))
theorem ml_J0_505 : Cond.methodLink RJ0 505 yJ0_length_8abf5 ∈ ALLg := (al_in (tb3 (List.mem_of_getElem? (i := 37) (by rfl))) (by decide +kernel))
theorem ml_J0_637 : Cond.methodLink RJ0 637 yJ1_indexOf_4cfef ∈ ALLg := (al_in (tb3 (List.mem_of_getElem? (i := 38) (by rfl))) (by decide +kernel))
theorem ml_J1_88 : Cond.methodLink RJ1 88 yJ1_canEncode_9a6ad ∈ ALLg := (al_in (tb3 (List.mem_of_getElem? (i := 41) (by rfl))) (by decide +kernel))
theorem mx_J1_canEncode_9a6ad : Mx yJ1_canEncode_9a6ad cJ1_canEncode_9a6ad 1 (some .boolean) 1 := ⟨(al_in (tb3 (List.mem_of_getElem? (i := 43) (by rfl))) (by decide +kernel)), (al_in (tb1 (List.mem_of_getElem? (i := 16) (by rfl))) (by decide +kernel)), ⟨by decide +kernel, by decide +kernel, by decide +kernel⟩, by decide⟩
theorem mt_J1_canEncode_9a6ad : Cond.static yJ1_canEncode_9a6ad ∈ ALLg := (al_in (tb3 (List.mem_of_getElem? (i := 42) (by rfl))) (by decide +kernel))
theorem ml_J1_92 : Cond.methodLink RJ1 92 yJ9_max_7cf53 ∈ ALLg := (al_in (tb3 (List.mem_of_getElem? (i := 44) (by rfl))) (by decide +kernel))
theorem mm_J1_92 : Cond.methodLink RJ1 92 Lib.Math.max.name ∈ ALLg := (al_in (tb3 (List.mem_of_getElem? (i := 44) (by rfl))) (by decide +kernel))
theorem ml_J1_38 : Cond.methodLink RJ1 38 yJ9_min_7cf53 ∈ ALLg := (al_in (tb3 (List.mem_of_getElem? (i := 47) (by rfl))) (by decide +kernel))
theorem mm_J1_38 : Cond.methodLink RJ1 38 Lib.Math.min.name ∈ ALLg := (al_in (tb3 (List.mem_of_getElem? (i := 47) (by rfl))) (by decide +kernel))
theorem ml_J1_95 : Cond.methodLink RJ1 95 yJ1_indexOfChar_4cfef ∈ ALLg := (al_in (tb3 (List.mem_of_getElem? (i := 48) (by rfl))) (by decide +kernel))
theorem mx_J1_indexOfChar_4cfef : Mx yJ1_indexOfChar_4cfef cJ1_indexOfChar_4cfef 6 (some .int) 4 := ⟨(al_in (tb3 (List.mem_of_getElem? (i := 50) (by rfl))) (by decide +kernel)), (al_in (tb1 (List.mem_of_getElem? (i := 16) (by rfl))) (by decide +kernel)), ⟨by decide +kernel, by decide +kernel, by decide +kernel⟩, by decide⟩
theorem mt_J1_indexOfChar_4cfef : Cond.static yJ1_indexOfChar_4cfef ∈ ALLg := (al_in (tb3 (List.mem_of_getElem? (i := 49) (by rfl))) (by decide +kernel))
theorem mx_J1_indexOf_4cfef : Mx yJ1_indexOf_4cfef cJ1_indexOf_4cfef 4 (some .int) 4 := ⟨(al_in (tb3 (List.mem_of_getElem? (i := 40) (by rfl))) (by decide +kernel)), (al_in (tb1 (List.mem_of_getElem? (i := 16) (by rfl))) (by decide +kernel)), ⟨by decide +kernel, by decide +kernel, by decide +kernel⟩, by decide⟩
theorem mt_J1_indexOf_4cfef : Cond.static yJ1_indexOf_4cfef ∈ ALLg := (al_in (tb3 (List.mem_of_getElem? (i := 39) (by rfl))) (by decide +kernel))
theorem mx_J0_indexOf_7cf53 : Mx yJ0_indexOf_7cf53 cJ0_indexOf_7cf53 3 (some .int) 2 := ⟨(al_in (tb3 (List.mem_of_getElem? (i := 36) (by rfl))) (by decide +kernel)), (al_in (tb1 (List.mem_of_getElem? (i := 15) (by rfl))) (by decide +kernel)), ⟨by decide +kernel, by decide +kernel, by decide +kernel⟩, by decide⟩
theorem mi_J0_indexOf_7cf53 : Cond.instanceMethod yJ0_indexOf_7cf53 ∈ ALLg := (al_in (tb3 (List.mem_of_getElem? (i := 34) (by rfl))) (by decide +kernel))
theorem ms_J0_indexOf_7cf53 : Cond.selects (yJ0_indexOf_7cf53).cls yJ0_indexOf_7cf53 yJ0_indexOf_7cf53 ∈ ALLg := (al_in (tb3 (List.mem_of_getElem? (i := 35) (by rfl))) (by decide +kernel))
theorem mx_J0_indexOf_0f7a4 : Mx yJ0_indexOf_0f7a4 cJ0_indexOf_0f7a4 2 (some .int) 1 := ⟨(al_in (tb3 (List.mem_of_getElem? (i := 32) (by rfl))) (by decide +kernel)), (al_in (tb1 (List.mem_of_getElem? (i := 15) (by rfl))) (by decide +kernel)), ⟨by decide +kernel, by decide +kernel, by decide +kernel⟩, by decide⟩
theorem mi_J0_indexOf_0f7a4 : Cond.instanceMethod yJ0_indexOf_0f7a4 ∈ ALLg := (al_in (tb3 (List.mem_of_getElem? (i := 30) (by rfl))) (by decide +kernel))
theorem ms_J0_indexOf_0f7a4 : Cond.selects (yJ0_indexOf_0f7a4).cls yJ0_indexOf_0f7a4 yJ0_indexOf_0f7a4 ∈ ALLg := (al_in (tb3 (List.mem_of_getElem? (i := 31) (by rfl))) (by decide +kernel))
theorem ml_X7_77 : Cond.methodLink RX7 77 yX7_isWord ∈ ALLg := (al_in (tb2 (List.mem_of_getElem? (i := 180) (by rfl))) (by decide +kernel))
theorem mx_X7_isWord : Mx yX7_isWord cX7_isWord 3 (some .boolean) 1 := ⟨(al_in (tb2 (List.mem_of_getElem? (i := 183) (by rfl))) (by decide +kernel)), (al_in (tb1 (List.mem_of_getElem? (i := 2) (by rfl))) (by decide +kernel)), ⟨by decide +kernel, by decide +kernel, by decide +kernel⟩, by decide⟩
theorem mi_X7_isWord : Cond.instanceMethod yX7_isWord ∈ ALLg := (al_in (tb2 (List.mem_of_getElem? (i := 181) (by rfl))) (by decide +kernel))
theorem ms_X7_isWord : Cond.selects (yX7_isWord).cls yX7_isWord yX7_isWord ∈ ALLg := (al_in (tb2 (List.mem_of_getElem? (i := 182) (by rfl))) (by decide +kernel))
theorem ml_X7_81 : Cond.methodLink RX7 81 yX7_complain ∈ ALLg := (al_in (tb2 (List.mem_of_getElem? (i := 232) (by rfl))) (by decide +kernel))
theorem mx_X7_complain : Mx yX7_complain cX7_complain 2 none 1 := ⟨(al_in (tb2 (List.mem_of_getElem? (i := 235) (by rfl))) (by decide +kernel)), (al_in (tb1 (List.mem_of_getElem? (i := 2) (by rfl))) (by decide +kernel)), ⟨by decide +kernel, by decide +kernel, by decide +kernel⟩, by decide⟩
theorem mi_X7_complain : Cond.instanceMethod yX7_complain ∈ ALLg := (al_in (tb2 (List.mem_of_getElem? (i := 233) (by rfl))) (by decide +kernel))
theorem ms_X7_complain : Cond.selects (yX7_complain).cls yX7_complain yX7_complain ∈ ALLg := (al_in (tb2 (List.mem_of_getElem? (i := 234) (by rfl))) (by decide +kernel))
theorem ml_X7_85 : Cond.methodLink RX7 85 yX7_isSemicolon ∈ ALLg := (al_in (tb3 (List.mem_of_getElem? (i := 13) (by rfl))) (by decide +kernel))
theorem mx_X7_isSemicolon : Mx yX7_isSemicolon cX7_isSemicolon 1 (some .boolean) 0 := ⟨(al_in (tb3 (List.mem_of_getElem? (i := 16) (by rfl))) (by decide +kernel)), (al_in (tb1 (List.mem_of_getElem? (i := 2) (by rfl))) (by decide +kernel)), ⟨by decide +kernel, by decide +kernel, by decide +kernel⟩, by decide⟩
theorem mi_X7_isSemicolon : Cond.instanceMethod yX7_isSemicolon ∈ ALLg := (al_in (tb3 (List.mem_of_getElem? (i := 14) (by rfl))) (by decide +kernel))
theorem ms_X7_isSemicolon : Cond.selects (yX7_isSemicolon).cls yX7_isSemicolon yX7_isSemicolon ∈ ALLg := (al_in (tb3 (List.mem_of_getElem? (i := 15) (by rfl))) (by decide +kernel))
theorem fl_X4_18 : Fl RX4 18 4 3 false .int := ⟨RX4, TX4, 5, tyX4, ⟨rfl, by decide, inX4, tyX4_ok, nmX4, rfl, by decide +kernel⟩, rfl, (al_in (tb1 (List.mem_of_getElem? (i := 81) (by rfl))) (by decide +kernel))⟩
theorem fl_X4_22 : Fl RX4 22 4 2 false .int := ⟨RX4, TX4, 5, tyX4, ⟨rfl, by decide, inX4, tyX4_ok, nmX4, rfl, by decide +kernel⟩, rfl, (al_in (tb1 (List.mem_of_getElem? (i := 79) (by rfl))) (by decide +kernel))⟩
theorem fl_X4_9 : Fl RX4 9 4 0 true (.array .int) := ⟨RX4, TX4, 5, tyX4, ⟨rfl, by decide, inX4, tyX4_ok, nmX4, rfl, by decide +kernel⟩, rfl, (al_in (tb1 (List.mem_of_getElem? (i := 75) (by rfl))) (by decide +kernel))⟩
theorem fl_X4_25 : Fl RX4 25 4 4 false .int := ⟨RX4, TX4, 5, tyX4, ⟨rfl, by decide, inX4, tyX4_ok, nmX4, rfl, by decide +kernel⟩, rfl, (al_in (tb1 (List.mem_of_getElem? (i := 87) (by rfl))) (by decide +kernel))⟩
theorem fl_X4_15 : Fl RX4 15 4 1 true (.array .int) := ⟨RX4, TX4, 5, tyX4, ⟨rfl, by decide, inX4, tyX4_ok, nmX4, rfl, by decide +kernel⟩, rfl, (al_in (tb1 (List.mem_of_getElem? (i := 76) (by rfl))) (by decide +kernel))⟩
theorem ml_X4_28 : Cond.methodLink RX4 28 yX4_sortAt ∈ ALLg := (al_in (tb3 (List.mem_of_getElem? (i := 116) (by rfl))) (by decide +kernel))
theorem mx_X4_sortAt : Mx yX4_sortAt cX4_sortAt 2 (some .int) 1 := ⟨(al_in (tb3 (List.mem_of_getElem? (i := 119) (by rfl))) (by decide +kernel)), (al_in (tb1 (List.mem_of_getElem? (i := 4) (by rfl))) (by decide +kernel)), ⟨by decide +kernel, by decide +kernel, by decide +kernel⟩, by decide⟩
theorem mi_X4_sortAt : Cond.instanceMethod yX4_sortAt ∈ ALLg := (al_in (tb3 (List.mem_of_getElem? (i := 117) (by rfl))) (by decide +kernel))
theorem ms_X4_sortAt : Cond.selects (yX4_sortAt).cls yX4_sortAt yX4_sortAt ∈ ALLg := (al_in (tb3 (List.mem_of_getElem? (i := 118) (by rfl))) (by decide +kernel))
theorem ml_X4_32 : Cond.methodLink RX4 32 yX4_notPlainAt ∈ ALLg := (al_in (tb4 (List.mem_of_getElem? (i := 195) (by rfl))) (by decide +kernel))
theorem mx_X4_notPlainAt : Mx yX4_notPlainAt cX4_notPlainAt 2 (some .int) 1 := ⟨(al_in (tb4 (List.mem_of_getElem? (i := 125) (by rfl))) (by decide +kernel)), (al_in (tb1 (List.mem_of_getElem? (i := 4) (by rfl))) (by decide +kernel)), ⟨by decide +kernel, by decide +kernel, by decide +kernel⟩, by decide⟩
theorem mi_X4_notPlainAt : Cond.instanceMethod yX4_notPlainAt ∈ ALLg := (al_in (tb4 (List.mem_of_getElem? (i := 123) (by rfl))) (by decide +kernel))
theorem ms_X4_notPlainAt : Cond.selects (yX4_notPlainAt).cls yX4_notPlainAt yX4_notPlainAt ∈ ALLg := (al_in (tb4 (List.mem_of_getElem? (i := 124) (by rfl))) (by decide +kernel))
theorem ml_X4_35 : Cond.methodLink RX4 35 yX4_rowOf ∈ ALLg := (al_in (tb5 (List.mem_of_getElem? (i := 195) (by rfl))) (by decide +kernel))
theorem mx_X4_rowOf : Mx yX4_rowOf cX4_rowOf 2 (some .int) 1 := ⟨(al_in (tb5 (List.mem_of_getElem? (i := 30) (by rfl))) (by decide +kernel)), (al_in (tb1 (List.mem_of_getElem? (i := 4) (by rfl))) (by decide +kernel)), ⟨by decide +kernel, by decide +kernel, by decide +kernel⟩, by decide⟩
theorem mi_X4_rowOf : Cond.instanceMethod yX4_rowOf ∈ ALLg := (al_in (tb5 (List.mem_of_getElem? (i := 28) (by rfl))) (by decide +kernel))
theorem ms_X4_rowOf : Cond.selects (yX4_rowOf).cls yX4_rowOf yX4_rowOf ∈ ALLg := (al_in (tb5 (List.mem_of_getElem? (i := 29) (by rfl))) (by decide +kernel))
theorem ml_X4_38 : Cond.methodLink RX4 38 yX4_columnOf ∈ ALLg := (al_in (tb5 (List.mem_of_getElem? (i := 196) (by rfl))) (by decide +kernel))
theorem mx_X4_columnOf : Mx yX4_columnOf cX4_columnOf 2 (some .int) 1 := ⟨(al_in (tb5 (List.mem_of_getElem? (i := 34) (by rfl))) (by decide +kernel)), (al_in (tb1 (List.mem_of_getElem? (i := 4) (by rfl))) (by decide +kernel)), ⟨by decide +kernel, by decide +kernel, by decide +kernel⟩, by decide⟩
theorem mi_X4_columnOf : Cond.instanceMethod yX4_columnOf ∈ ALLg := (al_in (tb5 (List.mem_of_getElem? (i := 32) (by rfl))) (by decide +kernel))
theorem ms_X4_columnOf : Cond.selects (yX4_columnOf).cls yX4_columnOf yX4_columnOf ∈ ALLg := (al_in (tb5 (List.mem_of_getElem? (i := 33) (by rfl))) (by decide +kernel))
theorem ml_X4_41 : Cond.methodLink RX4 41 yX4_placeOf ∈ ALLg := (al_in (tb3 (List.mem_of_getElem? (i := 94) (by rfl))) (by decide +kernel))
theorem mx_X4_placeOf : Mx yX4_placeOf cX4_placeOf 3 (some .int) 2 := ⟨(al_in (tb3 (List.mem_of_getElem? (i := 97) (by rfl))) (by decide +kernel)), (al_in (tb1 (List.mem_of_getElem? (i := 4) (by rfl))) (by decide +kernel)), ⟨by decide +kernel, by decide +kernel, by decide +kernel⟩, by decide⟩
theorem mi_X4_placeOf : Cond.instanceMethod yX4_placeOf ∈ ALLg := (al_in (tb3 (List.mem_of_getElem? (i := 95) (by rfl))) (by decide +kernel))
theorem ms_X4_placeOf : Cond.selects (yX4_placeOf).cls yX4_placeOf yX4_placeOf ∈ ALLg := (al_in (tb3 (List.mem_of_getElem? (i := 96) (by rfl))) (by decide +kernel))
theorem mo_X4_45 : Cond.methodLink RX4 45 arraycopyName ∈ ALLg := (al_in (tb3 (List.mem_of_getElem? (i := 136) (by rfl))) (by decide +kernel))
theorem cp_n_ : Cond.native arraycopyName ∈ ALLg := (al_in (tb3 (List.mem_of_getElem? (i := 138) (by rfl))) (by decide +kernel))
theorem cp_s_ : Cond.static arraycopyName ∈ ALLg := (al_in (tb3 (List.mem_of_getElem? (i := 137) (by rfl))) (by decide +kernel))
theorem cp_i_ : Cond.initialized "java/lang/System" ∈ ALLg := (al_in (tb1 (List.mem_of_getElem? (i := 20) (by rfl))) (by decide +kernel))
theorem ml_X4_51 : Cond.methodLink RX4 51 yX7_start ∈ ALLg := (al_in (tb2 (List.mem_of_getElem? (i := 150) (by rfl))) (by decide +kernel))
theorem mx_X7_start : Mx yX7_start cX7_start 1 none 0 := ⟨(al_in (tb2 (List.mem_of_getElem? (i := 153) (by rfl))) (by decide +kernel)), (al_in (tb1 (List.mem_of_getElem? (i := 2) (by rfl))) (by decide +kernel)), ⟨by decide +kernel, by decide +kernel, by decide +kernel⟩, by decide⟩
theorem mi_X7_start : Cond.instanceMethod yX7_start ∈ ALLg := (al_in (tb2 (List.mem_of_getElem? (i := 151) (by rfl))) (by decide +kernel))
theorem ms_X7_start : Cond.selects (yX7_start).cls yX7_start yX7_start ∈ ALLg := (al_in (tb2 (List.mem_of_getElem? (i := 152) (by rfl))) (by decide +kernel))
theorem sr_X4_56 : (RX4, 56, "wide", 0) ∈ strW := List.mem_of_getElem? (i := 0) (by rfl)
theorem ml_X4_57 : Cond.methodLink RX4 57 yX7_takeWord ∈ ALLg := (al_in (tb2 (List.mem_of_getElem? (i := 176) (by rfl))) (by decide +kernel))
theorem mx_X7_takeWord : Mx yX7_takeWord cX7_takeWord 2 none 1 := ⟨(al_in (tb2 (List.mem_of_getElem? (i := 179) (by rfl))) (by decide +kernel)), (al_in (tb1 (List.mem_of_getElem? (i := 2) (by rfl))) (by decide +kernel)), ⟨by decide +kernel, by decide +kernel, by decide +kernel⟩, by decide⟩
theorem mi_X7_takeWord : Cond.instanceMethod yX7_takeWord ∈ ALLg := (al_in (tb2 (List.mem_of_getElem? (i := 177) (by rfl))) (by decide +kernel))
theorem ms_X7_takeWord : Cond.selects (yX7_takeWord).cls yX7_takeWord yX7_takeWord ∈ ALLg := (al_in (tb2 (List.mem_of_getElem? (i := 178) (by rfl))) (by decide +kernel))
theorem ml_X4_61 : Cond.methodLink RX4 61 yX7_takeNumber ∈ ALLg := (al_in (tb2 (List.mem_of_getElem? (i := 236) (by rfl))) (by decide +kernel))
theorem mx_X7_takeNumber : Mx yX7_takeNumber cX7_takeNumber 4 (some .int) 2 := ⟨(al_in (tb2 (List.mem_of_getElem? (i := 239) (by rfl))) (by decide +kernel)), (al_in (tb1 (List.mem_of_getElem? (i := 2) (by rfl))) (by decide +kernel)), ⟨by decide +kernel, by decide +kernel, by decide +kernel⟩, by decide⟩
theorem mi_X7_takeNumber : Cond.instanceMethod yX7_takeNumber ∈ ALLg := (al_in (tb2 (List.mem_of_getElem? (i := 237) (by rfl))) (by decide +kernel))
theorem ms_X7_takeNumber : Cond.selects (yX7_takeNumber).cls yX7_takeNumber yX7_takeNumber ∈ ALLg := (al_in (tb2 (List.mem_of_getElem? (i := 238) (by rfl))) (by decide +kernel))
theorem sr_X4_64 : (RX4, 64, "rows", 1) ∈ strW := List.mem_of_getElem? (i := 1) (by rfl)
theorem ml_X4_66 : Cond.methodLink RX4 66 yX7_takeSemicolon ∈ ALLg := (al_in (tb3 (List.mem_of_getElem? (i := 9) (by rfl))) (by decide +kernel))
theorem mx_X7_takeSemicolon : Mx yX7_takeSemicolon cX7_takeSemicolon 1 none 0 := ⟨(al_in (tb3 (List.mem_of_getElem? (i := 12) (by rfl))) (by decide +kernel)), (al_in (tb1 (List.mem_of_getElem? (i := 2) (by rfl))) (by decide +kernel)), ⟨by decide +kernel, by decide +kernel, by decide +kernel⟩, by decide⟩
theorem mi_X7_takeSemicolon : Cond.instanceMethod yX7_takeSemicolon ∈ ALLg := (al_in (tb3 (List.mem_of_getElem? (i := 10) (by rfl))) (by decide +kernel))
theorem ms_X7_takeSemicolon : Cond.selects (yX7_takeSemicolon).cls yX7_takeSemicolon yX7_takeSemicolon ∈ ALLg := (al_in (tb3 (List.mem_of_getElem? (i := 11) (by rfl))) (by decide +kernel))
theorem ml_X4_69 : Cond.methodLink RX4 69 yX4_tellRow ∈ ALLg := (al_in (tb3 (List.mem_of_getElem? (i := 17) (by rfl))) (by decide +kernel))
theorem sr_X4_87 : (RX4, 87, "row", 2) ∈ strW := List.mem_of_getElem? (i := 2) (by rfl)
theorem ml_X4_89 : Cond.methodLink RX4 89 yX7_isWord ∈ ALLg := (al_in (tb3 (List.mem_of_getElem? (i := 22) (by rfl))) (by decide +kernel))
theorem ml_X4_93 : Cond.methodLink RX4 93 yX7_complain ∈ ALLg := (al_in (tb3 (List.mem_of_getElem? (i := 23) (by rfl))) (by decide +kernel))
theorem sr_X4_96 : (RX4, 96, "kpfhm", 3) ∈ strW := List.mem_of_getElem? (i := 3) (by rfl)
theorem ml_X4_98 : Cond.methodLink RX4 98 yX7_isWordOf ∈ ALLg := (al_in (tb3 (List.mem_of_getElem? (i := 25) (by rfl))) (by decide +kernel))
theorem mx_X7_isWordOf : Mx yX7_isWordOf cX7_isWordOf 3 (some .boolean) 1 := ⟨(al_in (tb3 (List.mem_of_getElem? (i := 28) (by rfl))) (by decide +kernel)), (al_in (tb1 (List.mem_of_getElem? (i := 2) (by rfl))) (by decide +kernel)), ⟨by decide +kernel, by decide +kernel, by decide +kernel⟩, by decide⟩
theorem mi_X7_isWordOf : Cond.instanceMethod yX7_isWordOf ∈ ALLg := (al_in (tb3 (List.mem_of_getElem? (i := 26) (by rfl))) (by decide +kernel))
theorem ms_X7_isWordOf : Cond.selects (yX7_isWordOf).cls yX7_isWordOf yX7_isWordOf ∈ ALLg := (al_in (tb3 (List.mem_of_getElem? (i := 27) (by rfl))) (by decide +kernel))
theorem ml_X4_101 : Cond.methodLink RX4 101 yX7_wordLength ∈ ALLg := (al_in (tb3 (List.mem_of_getElem? (i := 86) (by rfl))) (by decide +kernel))
theorem mx_X7_wordLength : Mx yX7_wordLength cX7_wordLength 1 (some .int) 0 := ⟨(al_in (tb3 (List.mem_of_getElem? (i := 89) (by rfl))) (by decide +kernel)), (al_in (tb1 (List.mem_of_getElem? (i := 2) (by rfl))) (by decide +kernel)), ⟨by decide +kernel, by decide +kernel, by decide +kernel⟩, by decide⟩
theorem mi_X7_wordLength : Cond.instanceMethod yX7_wordLength ∈ ALLg := (al_in (tb3 (List.mem_of_getElem? (i := 87) (by rfl))) (by decide +kernel))
theorem ms_X7_wordLength : Cond.selects (yX7_wordLength).cls yX7_wordLength yX7_wordLength ∈ ALLg := (al_in (tb3 (List.mem_of_getElem? (i := 88) (by rfl))) (by decide +kernel))
theorem ml_X4_105 : Cond.methodLink RX4 105 yX4_fillRow ∈ ALLg := (al_in (tb3 (List.mem_of_getElem? (i := 90) (by rfl))) (by decide +kernel))
theorem ml_X4_111 : Cond.methodLink RX4 111 yX7_signOfWord ∈ ALLg := (al_in (tb3 (List.mem_of_getElem? (i := 98) (by rfl))) (by decide +kernel))
theorem mx_X7_signOfWord : Mx yX7_signOfWord cX7_signOfWord 3 (some .int) 2 := ⟨(al_in (tb3 (List.mem_of_getElem? (i := 101) (by rfl))) (by decide +kernel)), (al_in (tb1 (List.mem_of_getElem? (i := 2) (by rfl))) (by decide +kernel)), ⟨by decide +kernel, by decide +kernel, by decide +kernel⟩, by decide⟩
theorem mi_X7_signOfWord : Cond.instanceMethod yX7_signOfWord ∈ ALLg := (al_in (tb3 (List.mem_of_getElem? (i := 99) (by rfl))) (by decide +kernel))
theorem ms_X7_signOfWord : Cond.selects (yX7_signOfWord).cls yX7_signOfWord yX7_signOfWord ∈ ALLg := (al_in (tb3 (List.mem_of_getElem? (i := 100) (by rfl))) (by decide +kernel))
theorem ml_X4_115 : Cond.methodLink RX4 115 yX4_setSort ∈ ALLg := (al_in (tb3 (List.mem_of_getElem? (i := 102) (by rfl))) (by decide +kernel))
theorem mx_X4_setSort : Mx yX4_setSort cX4_setSort 3 none 2 := ⟨(al_in (tb3 (List.mem_of_getElem? (i := 105) (by rfl))) (by decide +kernel)), (al_in (tb1 (List.mem_of_getElem? (i := 4) (by rfl))) (by decide +kernel)), ⟨by decide +kernel, by decide +kernel, by decide +kernel⟩, by decide⟩
theorem mi_X4_setSort : Cond.instanceMethod yX4_setSort ∈ ALLg := (al_in (tb3 (List.mem_of_getElem? (i := 104) (by rfl))) (by decide +kernel))
theorem ms_X4_setSort : Cond.selects (yX4_setSort).cls yX4_setSort yX4_setSort ∈ ALLg := (al_in (tb0 (List.mem_of_getElem? (i := 3) (by rfl))) (by decide +kernel))
theorem mx_X4_fillRow : Mx yX4_fillRow cX4_fillRow 5 none 2 := ⟨(al_in (tb3 (List.mem_of_getElem? (i := 93) (by rfl))) (by decide +kernel)), (al_in (tb1 (List.mem_of_getElem? (i := 4) (by rfl))) (by decide +kernel)), ⟨by decide +kernel, by decide +kernel, by decide +kernel⟩, by decide⟩
theorem mi_X4_fillRow : Cond.instanceMethod yX4_fillRow ∈ ALLg := (al_in (tb3 (List.mem_of_getElem? (i := 92) (by rfl))) (by decide +kernel))
theorem ms_X4_fillRow : Cond.selects (yX4_fillRow).cls yX4_fillRow yX4_fillRow ∈ ALLg := (al_in (tb0 (List.mem_of_getElem? (i := 2) (by rfl))) (by decide +kernel))
theorem ml_X4_108 : Cond.methodLink RX4 108 yX7_advance ∈ ALLg := (al_in (tb3 (List.mem_of_getElem? (i := 106) (by rfl))) (by decide +kernel))
theorem mx_X4_tellRow : Mx yX4_tellRow cX4_tellRow 3 none 2 := ⟨(al_in (tb3 (List.mem_of_getElem? (i := 20) (by rfl))) (by decide +kernel)), (al_in (tb1 (List.mem_of_getElem? (i := 4) (by rfl))) (by decide +kernel)), ⟨by decide +kernel, by decide +kernel, by decide +kernel⟩, by decide⟩
theorem mi_X4_tellRow : Cond.instanceMethod yX4_tellRow ∈ ALLg := (al_in (tb3 (List.mem_of_getElem? (i := 19) (by rfl))) (by decide +kernel))
theorem ms_X4_tellRow : Cond.selects (yX4_tellRow).cls yX4_tellRow yX4_tellRow ∈ ALLg := (al_in (tb0 (List.mem_of_getElem? (i := 1) (by rfl))) (by decide +kernel))
theorem ml_X4_73 : Cond.methodLink RX4 73 yX7_goesOn ∈ ALLg := (al_in (tb3 (List.mem_of_getElem? (i := 107) (by rfl))) (by decide +kernel))
theorem mx_X7_goesOn : Mx yX7_goesOn cX7_goesOn 1 (some .boolean) 0 := ⟨(al_in (tb3 (List.mem_of_getElem? (i := 110) (by rfl))) (by decide +kernel)), (al_in (tb1 (List.mem_of_getElem? (i := 2) (by rfl))) (by decide +kernel)), ⟨by decide +kernel, by decide +kernel, by decide +kernel⟩, by decide⟩
theorem mi_X7_goesOn : Cond.instanceMethod yX7_goesOn ∈ ALLg := (al_in (tb3 (List.mem_of_getElem? (i := 108) (by rfl))) (by decide +kernel))
theorem ms_X7_goesOn : Cond.selects (yX7_goesOn).cls yX7_goesOn yX7_goesOn ∈ ALLg := (al_in (tb3 (List.mem_of_getElem? (i := 109) (by rfl))) (by decide +kernel))
theorem ml_X4_77 : Cond.methodLink RX4 77 yX7_isFine ∈ ALLg := (al_in (tb3 (List.mem_of_getElem? (i := 111) (by rfl))) (by decide +kernel))
theorem ml_X4_80 : Cond.methodLink RX4 80 yX4_repeatRows ∈ ALLg := (al_in (tb3 (List.mem_of_getElem? (i := 112) (by rfl))) (by decide +kernel))
theorem mx_X4_repeatRows : Mx yX4_repeatRows cX4_repeatRows 4 none 1 := ⟨(al_in (tb3 (List.mem_of_getElem? (i := 115) (by rfl))) (by decide +kernel)), (al_in (tb1 (List.mem_of_getElem? (i := 4) (by rfl))) (by decide +kernel)), ⟨by decide +kernel, by decide +kernel, by decide +kernel⟩, by decide⟩
theorem mi_X4_repeatRows : Cond.instanceMethod yX4_repeatRows ∈ ALLg := (al_in (tb3 (List.mem_of_getElem? (i := 114) (by rfl))) (by decide +kernel))
theorem ms_X4_repeatRows : Cond.selects (yX4_repeatRows).cls yX4_repeatRows yX4_repeatRows ∈ ALLg := (al_in (tb0 (List.mem_of_getElem? (i := 4) (by rfl))) (by decide +kernel))
theorem ml_X4_84 : Cond.methodLink RX4 84 yX4_listFreePlaces ∈ ALLg := (al_in (tb3 (List.mem_of_getElem? (i := 120) (by rfl))) (by decide +kernel))
theorem ml_X4_119 : Cond.methodLink RX4 119 yX4_places ∈ ALLg := (al_in (tb3 (List.mem_of_getElem? (i := 124) (by rfl))) (by decide +kernel))
theorem mx_X4_places : Mx yX4_places cX4_places 1 (some .int) 0 := ⟨(al_in (tb3 (List.mem_of_getElem? (i := 127) (by rfl))) (by decide +kernel)), (al_in (tb1 (List.mem_of_getElem? (i := 4) (by rfl))) (by decide +kernel)), ⟨by decide +kernel, by decide +kernel, by decide +kernel⟩, by decide⟩
theorem mi_X4_places : Cond.instanceMethod yX4_places ∈ ALLg := (al_in (tb3 (List.mem_of_getElem? (i := 125) (by rfl))) (by decide +kernel))
theorem ms_X4_places : Cond.selects (yX4_places).cls yX4_places yX4_places ∈ ALLg := (al_in (tb3 (List.mem_of_getElem? (i := 126) (by rfl))) (by decide +kernel))
theorem mx_X4_listFreePlaces : Mx yX4_listFreePlaces cX4_listFreePlaces 2 none 0 := ⟨(al_in (tb3 (List.mem_of_getElem? (i := 123) (by rfl))) (by decide +kernel)), (al_in (tb1 (List.mem_of_getElem? (i := 4) (by rfl))) (by decide +kernel)), ⟨by decide +kernel, by decide +kernel, by decide +kernel⟩, by decide⟩
theorem mi_X4_listFreePlaces : Cond.instanceMethod yX4_listFreePlaces ∈ ALLg := (al_in (tb3 (List.mem_of_getElem? (i := 122) (by rfl))) (by decide +kernel))
theorem ms_X4_listFreePlaces : Cond.selects (yX4_listFreePlaces).cls yX4_listFreePlaces yX4_listFreePlaces ∈ ALLg := (al_in (tb0 (List.mem_of_getElem? (i := 5) (by rfl))) (by decide +kernel))
theorem fl_X10_21 : Fl RX10 21 10 0 false .boolean := ⟨RX10, TX10, 7, tyX10, ⟨rfl, by decide, inX10, tyX10_ok, nmX10, rfl, by decide +kernel⟩, rfl, (al_in (tb1 (List.mem_of_getElem? (i := 145) (by rfl))) (by decide +kernel))⟩
theorem fl_X10_25 : Fl RX10 25 10 1 false .int := ⟨RX10, TX10, 7, tyX10, ⟨rfl, by decide, inX10, tyX10_ok, nmX10, rfl, by decide +kernel⟩, rfl, (al_in (tb1 (List.mem_of_getElem? (i := 148) (by rfl))) (by decide +kernel))⟩
theorem fl_X10_9 : Fl RX10 9 10 2 false .int := ⟨RX10, TX10, 7, tyX10, ⟨rfl, by decide, inX10, tyX10_ok, nmX10, rfl, by decide +kernel⟩, rfl, (al_in (tb1 (List.mem_of_getElem? (i := 149) (by rfl))) (by decide +kernel))⟩
theorem fl_X10_15 : Fl RX10 15 10 3 false .int := ⟨RX10, TX10, 7, tyX10, ⟨rfl, by decide, inX10, tyX10_ok, nmX10, rfl, by decide +kernel⟩, rfl, (al_in (tb1 (List.mem_of_getElem? (i := 151) (by rfl))) (by decide +kernel))⟩
theorem fl_X10_18 : Fl RX10 18 10 4 false .int := ⟨RX10, TX10, 7, tyX10, ⟨rfl, by decide, inX10, tyX10_ok, nmX10, rfl, by decide +kernel⟩, rfl, (al_in (tb1 (List.mem_of_getElem? (i := 153) (by rfl))) (by decide +kernel))⟩
theorem fl_X10_28 : Fl RX10 28 10 5 false .boolean := ⟨RX10, TX10, 7, tyX10, ⟨rfl, by decide, inX10, tyX10_ok, nmX10, rfl, by decide +kernel⟩, rfl, (al_in (tb1 (List.mem_of_getElem? (i := 155) (by rfl))) (by decide +kernel))⟩
theorem fl_X10_31 : Fl RX10 31 10 6 false .boolean := ⟨RX10, TX10, 7, tyX10, ⟨rfl, by decide, inX10, tyX10_ok, nmX10, rfl, by decide +kernel⟩, rfl, (al_in (tb1 (List.mem_of_getElem? (i := 158) (by rfl))) (by decide +kernel))⟩
theorem ml_X10_34 : Cond.methodLink RX10 34 yX7_start ∈ ALLg := (al_in (tb3 (List.mem_of_getElem? (i := 176) (by rfl))) (by decide +kernel))
theorem sr_X10_39 : (RX10, 39, "way", 8) ∈ strW := List.mem_of_getElem? (i := 8) (by rfl)
theorem ml_X10_41 : Cond.methodLink RX10 41 yX7_takeWord ∈ ALLg := (al_in (tb3 (List.mem_of_getElem? (i := 178) (by rfl))) (by decide +kernel))
theorem sr_X10_45 : (RX10, 45, "over", 9) ∈ strW := List.mem_of_getElem? (i := 9) (by rfl)
theorem ml_X10_47 : Cond.methodLink RX10 47 yX10_tellSorts ∈ ALLg := (al_in (tb3 (List.mem_of_getElem? (i := 180) (by rfl))) (by decide +kernel))
theorem sr_X10_80 : (RX10, 80, "fhm", 10) ∈ strW := List.mem_of_getElem? (i := 10) (by rfl)
theorem ml_X10_82 : Cond.methodLink RX10 82 yX7_isWordOf ∈ ALLg := (al_in (tb3 (List.mem_of_getElem? (i := 185) (by rfl))) (by decide +kernel))
theorem ml_X10_85 : Cond.methodLink RX10 85 yX7_wordLength ∈ ALLg := (al_in (tb3 (List.mem_of_getElem? (i := 186) (by rfl))) (by decide +kernel))
theorem ml_X10_96 : Cond.methodLink RX10 96 yX7_complain ∈ ALLg := (al_in (tb3 (List.mem_of_getElem? (i := 189) (by rfl))) (by decide +kernel))
theorem ml_X10_93 : Cond.methodLink RX10 93 yX7_advance ∈ ALLg := (al_in (tb3 (List.mem_of_getElem? (i := 188) (by rfl))) (by decide +kernel))
theorem ml_X10_89 : Cond.methodLink RX10 89 yX7_signOfWord ∈ ALLg := (al_in (tb3 (List.mem_of_getElem? (i := 187) (by rfl))) (by decide +kernel))
theorem mx_X10_tellSorts : Mx yX10_tellSorts cX10_tellSorts 5 none 1 := ⟨(al_in (tb3 (List.mem_of_getElem? (i := 183) (by rfl))) (by decide +kernel)), (al_in (tb1 (List.mem_of_getElem? (i := 7) (by rfl))) (by decide +kernel)), ⟨by decide +kernel, by decide +kernel, by decide +kernel⟩, by decide⟩
theorem mi_X10_tellSorts : Cond.instanceMethod yX10_tellSorts ∈ ALLg := (al_in (tb3 (List.mem_of_getElem? (i := 182) (by rfl))) (by decide +kernel))
theorem ms_X10_tellSorts : Cond.selects (yX10_tellSorts).cls yX10_tellSorts yX10_tellSorts ∈ ALLg := (al_in (tb0 (List.mem_of_getElem? (i := 7) (by rfl))) (by decide +kernel))
theorem sr_X10_51 : (RX10, 51, "step", 11) ∈ strW := List.mem_of_getElem? (i := 11) (by rfl)
theorem ml_X10_52 : Cond.methodLink RX10 52 yX7_mayTakeWord ∈ ALLg := (al_in (tb3 (List.mem_of_getElem? (i := 191) (by rfl))) (by decide +kernel))
theorem mx_X7_mayTakeWord : Mx yX7_mayTakeWord cX7_mayTakeWord 2 (some .boolean) 1 := ⟨(al_in (tb3 (List.mem_of_getElem? (i := 194) (by rfl))) (by decide +kernel)), (al_in (tb1 (List.mem_of_getElem? (i := 2) (by rfl))) (by decide +kernel)), ⟨by decide +kernel, by decide +kernel, by decide +kernel⟩, by decide⟩
theorem mi_X7_mayTakeWord : Cond.instanceMethod yX7_mayTakeWord ∈ ALLg := (al_in (tb3 (List.mem_of_getElem? (i := 192) (by rfl))) (by decide +kernel))
theorem ms_X7_mayTakeWord : Cond.selects (yX7_mayTakeWord).cls yX7_mayTakeWord yX7_mayTakeWord ∈ ALLg := (al_in (tb3 (List.mem_of_getElem? (i := 193) (by rfl))) (by decide +kernel))
theorem ml_X10_56 : Cond.methodLink RX10 56 yX7_takeNumber ∈ ALLg := (al_in (tb3 (List.mem_of_getElem? (i := 195) (by rfl))) (by decide +kernel))
theorem sr_X10_60 : (RX10, 60, "group", 12) ∈ strW := List.mem_of_getElem? (i := 12) (by rfl)
theorem sr_X10_61 : (RX10, 61, "guard", 13) ∈ strW := List.mem_of_getElem? (i := 13) (by rfl)
theorem ml_X10_62 : Cond.methodLink RX10 62 yX10_takeGuard ∈ ALLg := (al_in (tb3 (List.mem_of_getElem? (i := 198) (by rfl))) (by decide +kernel))
theorem ml_X10_100 : Cond.methodLink RX10 100 yX7_isEvenNumber ∈ ALLg := (al_in (tb3 (List.mem_of_getElem? (i := 201) (by rfl))) (by decide +kernel))
theorem mx_X7_isEvenNumber : Mx yX7_isEvenNumber cX7_isEvenNumber 1 (some .boolean) 0 := ⟨(al_in (tb3 (List.mem_of_getElem? (i := 204) (by rfl))) (by decide +kernel)), (al_in (tb1 (List.mem_of_getElem? (i := 2) (by rfl))) (by decide +kernel)), ⟨by decide +kernel, by decide +kernel, by decide +kernel⟩, by decide⟩
theorem mi_X7_isEvenNumber : Cond.instanceMethod yX7_isEvenNumber ∈ ALLg := (al_in (tb3 (List.mem_of_getElem? (i := 202) (by rfl))) (by decide +kernel))
theorem ms_X7_isEvenNumber : Cond.selects (yX7_isEvenNumber).cls yX7_isEvenNumber yX7_isEvenNumber ∈ ALLg := (al_in (tb3 (List.mem_of_getElem? (i := 203) (by rfl))) (by decide +kernel))
theorem mx_X10_takeGuard : Mx yX10_takeGuard cX10_takeGuard 1 (some .int) 1 := ⟨(al_in (tb3 (List.mem_of_getElem? (i := 200) (by rfl))) (by decide +kernel)), (al_in (tb1 (List.mem_of_getElem? (i := 7) (by rfl))) (by decide +kernel)), ⟨by decide +kernel, by decide +kernel, by decide +kernel⟩, by decide⟩
theorem mt_X10_takeGuard : Cond.static yX10_takeGuard ∈ ALLg := (al_in (tb3 (List.mem_of_getElem? (i := 199) (by rfl))) (by decide +kernel))
theorem sr_X10_66 : (RX10, 66, "turn", 14) ∈ strW := List.mem_of_getElem? (i := 14) (by rfl)
theorem sr_X10_68 : (RX10, 68, "top", 15) ∈ strW := List.mem_of_getElem? (i := 15) (by rfl)
theorem ml_X10_70 : Cond.methodLink RX10 70 yX7_takeSemicolon ∈ ALLg := (al_in (tb3 (List.mem_of_getElem? (i := 207) (by rfl))) (by decide +kernel))
theorem ml_X10_73 : Cond.methodLink RX10 73 yX7_takeEnd ∈ ALLg := (al_in (tb3 (List.mem_of_getElem? (i := 208) (by rfl))) (by decide +kernel))
theorem mx_X7_takeEnd : Mx yX7_takeEnd cX7_takeEnd 1 none 0 := ⟨(al_in (tb3 (List.mem_of_getElem? (i := 162) (by rfl))) (by decide +kernel)), (al_in (tb1 (List.mem_of_getElem? (i := 2) (by rfl))) (by decide +kernel)), ⟨by decide +kernel, by decide +kernel, by decide +kernel⟩, by decide⟩
theorem mi_X7_takeEnd : Cond.instanceMethod yX7_takeEnd ∈ ALLg := (al_in (tb3 (List.mem_of_getElem? (i := 160) (by rfl))) (by decide +kernel))
theorem ms_X7_takeEnd : Cond.selects (yX7_takeEnd).cls yX7_takeEnd yX7_takeEnd ∈ ALLg := (al_in (tb3 (List.mem_of_getElem? (i := 161) (by rfl))) (by decide +kernel))
theorem ml_X10_76 : Cond.methodLink RX10 76 yX7_isFine ∈ ALLg := (al_in (tb3 (List.mem_of_getElem? (i := 209) (by rfl))) (by decide +kernel))
theorem fl_X9_13 : Fl RX9 13 9 0 true (.array .int) := ⟨RX9, TX9, 3, tyX9, ⟨rfl, by decide, inX9, tyX9_ok, nmX9, rfl, by decide +kernel⟩, rfl, (al_in (tb1 (List.mem_of_getElem? (i := 107) (by rfl))) (by decide +kernel))⟩
theorem mo_X9_17 : Cond.methodLink RX9 17 arraycopyName ∈ ALLg := (al_in (tb4 (List.mem_of_getElem? (i := 54) (by rfl))) (by decide +kernel))
theorem fl_X9_23 : Fl RX9 23 9 1 false .int := ⟨RX9, TX9, 3, tyX9, ⟨rfl, by decide, inX9, tyX9_ok, nmX9, rfl, by decide +kernel⟩, rfl, (al_in (tb1 (List.mem_of_getElem? (i := 108) (by rfl))) (by decide +kernel))⟩
theorem fl_X9_27 : Fl RX9 27 9 2 false .int := ⟨RX9, TX9, 3, tyX9, ⟨rfl, by decide, inX9, tyX9_ok, nmX9, rfl, by decide +kernel⟩, rfl, (al_in (tb1 (List.mem_of_getElem? (i := 109) (by rfl))) (by decide +kernel))⟩
theorem ml_X9_30 : Cond.methodLink RX9 30 yX7_start ∈ ALLg := (al_in (tb4 (List.mem_of_getElem? (i := 1) (by rfl))) (by decide +kernel))
theorem ml_X9_53 : Cond.methodLink RX9 53 yX7_isFine ∈ ALLg := (al_in (tb4 (List.mem_of_getElem? (i := 12) (by rfl))) (by decide +kernel))
theorem ml_X9_35 : Cond.methodLink RX9 35 yX7_goesOn ∈ ALLg := (al_in (tb4 (List.mem_of_getElem? (i := 2) (by rfl))) (by decide +kernel))
theorem sr_X9_39 : (RX9, 39, "stop", 16) ∈ strW := List.mem_of_getElem? (i := 16) (by rfl)
theorem ml_X9_41 : Cond.methodLink RX9 41 yX7_isWord ∈ ALLg := (al_in (tb4 (List.mem_of_getElem? (i := 4) (by rfl))) (by decide +kernel))
theorem ml_X9_45 : Cond.methodLink RX9 45 yX7_complain ∈ ALLg := (al_in (tb4 (List.mem_of_getElem? (i := 5) (by rfl))) (by decide +kernel))
theorem ml_X9_49 : Cond.methodLink RX9 49 yX9_tellLine ∈ ALLg := (al_in (tb4 (List.mem_of_getElem? (i := 6) (by rfl))) (by decide +kernel))
theorem ml_X9_56 : Cond.methodLink RX9 56 yX7_takeWord ∈ ALLg := (al_in (tb4 (List.mem_of_getElem? (i := 10) (by rfl))) (by decide +kernel))
theorem sr_X9_60 : (RX9, 60, "if", 17) ∈ strW := List.mem_of_getElem? (i := 17) (by rfl)
theorem ml_X9_62 : Cond.methodLink RX9 62 yX9_tellPart ∈ ALLg := (al_in (tb4 (List.mem_of_getElem? (i := 13) (by rfl))) (by decide +kernel))
theorem ml_X9_75 : Cond.methodLink RX9 75 yX7_isNumber ∈ ALLg := (al_in (tb4 (List.mem_of_getElem? (i := 17) (by rfl))) (by decide +kernel))
theorem ml_X9_82 : Cond.methodLink RX9 82 yX9_nameOfCounter ∈ ALLg := (al_in (tb4 (List.mem_of_getElem? (i := 23) (by rfl))) (by decide +kernel))
theorem sr_X9_95 : (RX9, 95, "purls", 18) ∈ strW := List.mem_of_getElem? (i := 18) (by rfl)
theorem sr_X9_97 : (RX9, 97, "holes", 19) ∈ strW := List.mem_of_getElem? (i := 19) (by rfl)
theorem sr_X9_99 : (RX9, 99, "slips", 20) ∈ strW := List.mem_of_getElem? (i := 20) (by rfl)
theorem sr_X9_101 : (RX9, 101, "runs", 21) ∈ strW := List.mem_of_getElem? (i := 21) (by rfl)
theorem sr_X9_103 : (RX9, 103, "most", 22) ∈ strW := List.mem_of_getElem? (i := 22) (by rfl)
theorem sr_X9_105 : (RX9, 105, "least", 23) ∈ strW := List.mem_of_getElem? (i := 23) (by rfl)
theorem sr_X9_107 : (RX9, 107, "lost", 24) ∈ strW := List.mem_of_getElem? (i := 24) (by rfl)
theorem sr_X9_109 : (RX9, 109, "free", 25) ∈ strW := List.mem_of_getElem? (i := 25) (by rfl)
theorem mx_X9_nameOfCounter : Mx yX9_nameOfCounter cX9_nameOfCounter 1 (some (.object "java/lang/String")) 1 := ⟨(al_in (tb4 (List.mem_of_getElem? (i := 25) (by rfl))) (by decide +kernel)), (al_in (tb1 (List.mem_of_getElem? (i := 5) (by rfl))) (by decide +kernel)), ⟨by decide +kernel, by decide +kernel, by decide +kernel⟩, by decide⟩
theorem mt_X9_nameOfCounter : Cond.static yX9_nameOfCounter ∈ ALLg := (al_in (tb4 (List.mem_of_getElem? (i := 24) (by rfl))) (by decide +kernel))
theorem ml_X9_86 : Cond.methodLink RX9 86 yX7_mayTakeWord ∈ ALLg := (al_in (tb4 (List.mem_of_getElem? (i := 34) (by rfl))) (by decide +kernel))
theorem ml_X9_72 : Cond.methodLink RX9 72 yX9_addCode ∈ ALLg := (al_in (tb4 (List.mem_of_getElem? (i := 19) (by rfl))) (by decide +kernel))
theorem mx_X9_addCode : Mx yX9_addCode cX9_addCode 2 none 1 := ⟨(al_in (tb4 (List.mem_of_getElem? (i := 22) (by rfl))) (by decide +kernel)), (al_in (tb1 (List.mem_of_getElem? (i := 5) (by rfl))) (by decide +kernel)), ⟨by decide +kernel, by decide +kernel, by decide +kernel⟩, by decide⟩
theorem mi_X9_addCode : Cond.instanceMethod yX9_addCode ∈ ALLg := (al_in (tb4 (List.mem_of_getElem? (i := 21) (by rfl))) (by decide +kernel))
theorem ms_X9_addCode : Cond.selects (yX9_addCode).cls yX9_addCode yX9_addCode ∈ ALLg := (al_in (tb0 (List.mem_of_getElem? (i := 12) (by rfl))) (by decide +kernel))
theorem ml_X9_78 : Cond.methodLink RX9 78 yX7_takeNumber ∈ ALLg := (al_in (tb4 (List.mem_of_getElem? (i := 18) (by rfl))) (by decide +kernel))
theorem mx_X9_tellPart : Mx yX9_tellPart cX9_tellPart 3 none 1 := ⟨(al_in (tb4 (List.mem_of_getElem? (i := 16) (by rfl))) (by decide +kernel)), (al_in (tb1 (List.mem_of_getElem? (i := 5) (by rfl))) (by decide +kernel)), ⟨by decide +kernel, by decide +kernel, by decide +kernel⟩, by decide⟩
theorem mi_X9_tellPart : Cond.instanceMethod yX9_tellPart ∈ ALLg := (al_in (tb4 (List.mem_of_getElem? (i := 15) (by rfl))) (by decide +kernel))
theorem ms_X9_tellPart : Cond.selects (yX9_tellPart).cls yX9_tellPart yX9_tellPart ∈ ALLg := (al_in (tb0 (List.mem_of_getElem? (i := 11) (by rfl))) (by decide +kernel))
theorem ml_X9_65 : Cond.methodLink RX9 65 yX9_linkAt ∈ ALLg := (al_in (tb4 (List.mem_of_getElem? (i := 35) (by rfl))) (by decide +kernel))
theorem ml_X9_92 : Cond.methodLink RX9 92 yX9_nameOfLink ∈ ALLg := (al_in (tb4 (List.mem_of_getElem? (i := 39) (by rfl))) (by decide +kernel))
theorem sr_X9_111 : (RX9, 111, "plus", 26) ∈ strW := List.mem_of_getElem? (i := 26) (by rfl)
theorem sr_X9_113 : (RX9, 113, "minus", 27) ∈ strW := List.mem_of_getElem? (i := 27) (by rfl)
theorem sr_X9_115 : (RX9, 115, "times", 28) ∈ strW := List.mem_of_getElem? (i := 28) (by rfl)
theorem sr_X9_117 : (RX9, 117, "more", 29) ∈ strW := List.mem_of_getElem? (i := 29) (by rfl)
theorem sr_X9_119 : (RX9, 119, "less", 30) ∈ strW := List.mem_of_getElem? (i := 30) (by rfl)
theorem sr_X9_121 : (RX9, 121, "same", 31) ∈ strW := List.mem_of_getElem? (i := 31) (by rfl)
theorem sr_X9_123 : (RX9, 123, "and", 32) ∈ strW := List.mem_of_getElem? (i := 32) (by rfl)
theorem mx_X9_nameOfLink : Mx yX9_nameOfLink cX9_nameOfLink 1 (some (.object "java/lang/String")) 1 := ⟨(al_in (tb4 (List.mem_of_getElem? (i := 41) (by rfl))) (by decide +kernel)), (al_in (tb1 (List.mem_of_getElem? (i := 5) (by rfl))) (by decide +kernel)), ⟨by decide +kernel, by decide +kernel, by decide +kernel⟩, by decide⟩
theorem mt_X9_nameOfLink : Cond.static yX9_nameOfLink ∈ ALLg := (al_in (tb4 (List.mem_of_getElem? (i := 40) (by rfl))) (by decide +kernel))
theorem ml_X9_89 : Cond.methodLink RX9 89 yX7_isSemicolon ∈ ALLg := (al_in (tb4 (List.mem_of_getElem? (i := 38) (by rfl))) (by decide +kernel))
theorem mx_X9_linkAt : Mx yX9_linkAt cX9_linkAt 4 (some .int) 2 := ⟨(al_in (tb4 (List.mem_of_getElem? (i := 37) (by rfl))) (by decide +kernel)), (al_in (tb1 (List.mem_of_getElem? (i := 5) (by rfl))) (by decide +kernel)), ⟨by decide +kernel, by decide +kernel, by decide +kernel⟩, by decide⟩
theorem mt_X9_linkAt : Cond.static yX9_linkAt ∈ ALLg := (al_in (tb4 (List.mem_of_getElem? (i := 36) (by rfl))) (by decide +kernel))
theorem ml_X9_69 : Cond.methodLink RX9 69 yX7_advance ∈ ALLg := (al_in (tb4 (List.mem_of_getElem? (i := 49) (by rfl))) (by decide +kernel))
theorem mx_X9_tellLine : Mx yX9_tellLine cX9_tellLine 5 none 1 := ⟨(al_in (tb4 (List.mem_of_getElem? (i := 9) (by rfl))) (by decide +kernel)), (al_in (tb1 (List.mem_of_getElem? (i := 5) (by rfl))) (by decide +kernel)), ⟨by decide +kernel, by decide +kernel, by decide +kernel⟩, by decide⟩
theorem mi_X9_tellLine : Cond.instanceMethod yX9_tellLine ∈ ALLg := (al_in (tb4 (List.mem_of_getElem? (i := 8) (by rfl))) (by decide +kernel))
theorem ms_X9_tellLine : Cond.selects (yX9_tellLine).cls yX9_tellLine yX9_tellLine ∈ ALLg := (al_in (tb0 (List.mem_of_getElem? (i := 10) (by rfl))) (by decide +kernel))
theorem ml_X9_125 : Cond.methodLink RX9 125 yX9_codeAt ∈ ALLg := (al_in (tb5 (List.mem_of_getElem? (i := 108) (by rfl))) (by decide +kernel))
theorem mx_X9_codeAt : Mx yX9_codeAt cX9_codeAt 2 (some .int) 1 := ⟨(al_in (tb5 (List.mem_of_getElem? (i := 111) (by rfl))) (by decide +kernel)), (al_in (tb1 (List.mem_of_getElem? (i := 5) (by rfl))) (by decide +kernel)), ⟨by decide +kernel, by decide +kernel, by decide +kernel⟩, by decide⟩
theorem mi_X9_codeAt : Cond.instanceMethod yX9_codeAt ∈ ALLg := (al_in (tb5 (List.mem_of_getElem? (i := 110) (by rfl))) (by decide +kernel))
theorem ms_X9_codeAt : Cond.selects (yX9_codeAt).cls yX9_codeAt yX9_codeAt ∈ ALLg := (al_in (tb0 (List.mem_of_getElem? (i := 29) (by rfl))) (by decide +kernel))
theorem ml_X9_129 : Cond.methodLink RX9 129 yX9_testHolds ∈ ALLg := (al_in (tb5 (List.mem_of_getElem? (i := 112) (by rfl))) (by decide +kernel))
theorem ml_X9_133 : Cond.methodLink RX9 133 yX9_sumOf ∈ ALLg := (al_in (tb5 (List.mem_of_getElem? (i := 116) (by rfl))) (by decide +kernel))
theorem ml_X9_144 : Cond.methodLink RX9 144 yX9_isBeyond ∈ ALLg := (al_in (tb5 (List.mem_of_getElem? (i := 121) (by rfl))) (by decide +kernel))
theorem kl_X9_148 : Cond.constantLong RX9 148 1000000000 ∈ ALLg := (al_in (tb5 (List.mem_of_getElem? (i := 124) (by rfl))) (by decide +kernel))
theorem kl_X9_150 : Cond.constantLong RX9 150 (-1000000000) ∈ ALLg := (al_in (tb5 (List.mem_of_getElem? (i := 125) (by rfl))) (by decide +kernel))
theorem mx_X9_isBeyond : Mx yX9_isBeyond cX9_isBeyond 2 (some .boolean) 1 := ⟨(al_in (tb5 (List.mem_of_getElem? (i := 123) (by rfl))) (by decide +kernel)), (al_in (tb1 (List.mem_of_getElem? (i := 5) (by rfl))) (by decide +kernel)), ⟨by decide +kernel, by decide +kernel, by decide +kernel⟩, by decide⟩
theorem mt_X9_isBeyond : Cond.static yX9_isBeyond ∈ ALLg := (al_in (tb5 (List.mem_of_getElem? (i := 122) (by rfl))) (by decide +kernel))
theorem kl_X9_137 : Cond.constantLong RX9 137 9223372036854775807 ∈ ALLg := (al_in (tb5 (List.mem_of_getElem? (i := 126) (by rfl))) (by decide +kernel))
theorem ml_X9_139 : Cond.methodLink RX9 139 yX6_valueOf ∈ ALLg := (al_in (tb5 (List.mem_of_getElem? (i := 120) (by rfl))) (by decide +kernel))
theorem fl_X6_69 : Fl RX6 69 6 9 false .int := ⟨RX6, TX6, 10, tyX6, ⟨rfl, by decide, inX6, tyX6_ok, nmX6, rfl, by decide +kernel⟩, rfl, (al_in (tb2 (List.mem_of_getElem? (i := 42) (by rfl))) (by decide +kernel))⟩
theorem ml_X6_99 : Cond.methodLink RX6 99 yX6_mostInRow ∈ ALLg := (al_in (tb5 (List.mem_of_getElem? (i := 88) (by rfl))) (by decide +kernel))
theorem fl_X6_57 : Fl RX6 57 6 6 false .int := ⟨RX6, TX6, 10, tyX6, ⟨rfl, by decide, inX6, tyX6_ok, nmX6, rfl, by decide +kernel⟩, rfl, (al_in (tb2 (List.mem_of_getElem? (i := 39) (by rfl))) (by decide +kernel))⟩
theorem fl_X6_22 : Fl RX6 22 6 2 true (.array .int) := ⟨RX6, TX6, 10, tyX6, ⟨rfl, by decide, inX6, tyX6_ok, nmX6, rfl, by decide +kernel⟩, rfl, (al_in (tb2 (List.mem_of_getElem? (i := 35) (by rfl))) (by decide +kernel))⟩
theorem mx_X6_mostInRow : Mx yX6_mostInRow cX6_mostInRow 3 (some .int) 0 := ⟨(al_in (tb5 (List.mem_of_getElem? (i := 91) (by rfl))) (by decide +kernel)), (al_in (tb1 (List.mem_of_getElem? (i := 11) (by rfl))) (by decide +kernel)), ⟨by decide +kernel, by decide +kernel, by decide +kernel⟩, by decide⟩
theorem mi_X6_mostInRow : Cond.instanceMethod yX6_mostInRow ∈ ALLg := (al_in (tb5 (List.mem_of_getElem? (i := 90) (by rfl))) (by decide +kernel))
theorem ms_X6_mostInRow : Cond.selects (yX6_mostInRow).cls yX6_mostInRow yX6_mostInRow ∈ ALLg := (al_in (tb0 (List.mem_of_getElem? (i := 26) (by rfl))) (by decide +kernel))
theorem ml_X6_103 : Cond.methodLink RX6 103 yX6_leastInRow ∈ ALLg := (al_in (tb5 (List.mem_of_getElem? (i := 92) (by rfl))) (by decide +kernel))
theorem mx_X6_leastInRow : Mx yX6_leastInRow cX6_leastInRow 3 (some .int) 0 := ⟨(al_in (tb5 (List.mem_of_getElem? (i := 95) (by rfl))) (by decide +kernel)), (al_in (tb1 (List.mem_of_getElem? (i := 11) (by rfl))) (by decide +kernel)), ⟨by decide +kernel, by decide +kernel, by decide +kernel⟩, by decide⟩
theorem mi_X6_leastInRow : Cond.instanceMethod yX6_leastInRow ∈ ALLg := (al_in (tb5 (List.mem_of_getElem? (i := 94) (by rfl))) (by decide +kernel))
theorem ms_X6_leastInRow : Cond.selects (yX6_leastInRow).cls yX6_leastInRow yX6_leastInRow ∈ ALLg := (al_in (tb0 (List.mem_of_getElem? (i := 27) (by rfl))) (by decide +kernel))
theorem fl_X6_66 : Fl RX6 66 6 8 false .int := ⟨RX6, TX6, 10, tyX6, ⟨rfl, by decide, inX6, tyX6_ok, nmX6, rfl, by decide +kernel⟩, rfl, (al_in (tb2 (List.mem_of_getElem? (i := 41) (by rfl))) (by decide +kernel))⟩
theorem fl_X6_61 : Fl RX6 61 6 7 false .int := ⟨RX6, TX6, 10, tyX6, ⟨rfl, by decide, inX6, tyX6_ok, nmX6, rfl, by decide +kernel⟩, rfl, (al_in (tb2 (List.mem_of_getElem? (i := 40) (by rfl))) (by decide +kernel))⟩
theorem fl_X6_18 : Fl RX6 18 6 1 true (.array .int) := ⟨RX6, TX6, 10, tyX6, ⟨rfl, by decide, inX6, tyX6_ok, nmX6, rfl, by decide +kernel⟩, rfl, (al_in (tb2 (List.mem_of_getElem? (i := 34) (by rfl))) (by decide +kernel))⟩
theorem mx_X6_valueOf : Mx yX6_valueOf cX6_valueOf 2 (some .int) 1 := ⟨(al_in (tb5 (List.mem_of_getElem? (i := 87) (by rfl))) (by decide +kernel)), (al_in (tb1 (List.mem_of_getElem? (i := 11) (by rfl))) (by decide +kernel)), ⟨by decide +kernel, by decide +kernel, by decide +kernel⟩, by decide⟩
theorem mi_X6_valueOf : Cond.instanceMethod yX6_valueOf ∈ ALLg := (al_in (tb5 (List.mem_of_getElem? (i := 85) (by rfl))) (by decide +kernel))
theorem ms_X6_valueOf : Cond.selects (yX6_valueOf).cls yX6_valueOf yX6_valueOf ∈ ALLg := (al_in (tb5 (List.mem_of_getElem? (i := 86) (by rfl))) (by decide +kernel))
theorem mx_X9_sumOf : Mx yX9_sumOf cX9_sumOf 11 (some .long) 3 := ⟨(al_in (tb5 (List.mem_of_getElem? (i := 119) (by rfl))) (by decide +kernel)), (al_in (tb1 (List.mem_of_getElem? (i := 5) (by rfl))) (by decide +kernel)), ⟨by decide +kernel, by decide +kernel, by decide +kernel⟩, by decide⟩
theorem mi_X9_sumOf : Cond.instanceMethod yX9_sumOf ∈ ALLg := (al_in (tb5 (List.mem_of_getElem? (i := 118) (by rfl))) (by decide +kernel))
theorem ms_X9_sumOf : Cond.selects (yX9_sumOf).cls yX9_sumOf yX9_sumOf ∈ ALLg := (al_in (tb0 (List.mem_of_getElem? (i := 31) (by rfl))) (by decide +kernel))
theorem mx_X9_testHolds : Mx yX9_testHolds cX9_testHolds 9 (some .boolean) 3 := ⟨(al_in (tb5 (List.mem_of_getElem? (i := 115) (by rfl))) (by decide +kernel)), (al_in (tb1 (List.mem_of_getElem? (i := 5) (by rfl))) (by decide +kernel)), ⟨by decide +kernel, by decide +kernel, by decide +kernel⟩, by decide⟩
theorem mi_X9_testHolds : Cond.instanceMethod yX9_testHolds ∈ ALLg := (al_in (tb5 (List.mem_of_getElem? (i := 114) (by rfl))) (by decide +kernel))
theorem ms_X9_testHolds : Cond.selects (yX9_testHolds).cls yX9_testHolds yX9_testHolds ∈ ALLg := (al_in (tb0 (List.mem_of_getElem? (i := 30) (by rfl))) (by decide +kernel))
theorem fl_X3_9 : Fl RX3 9 3 0 true (.array .int) := ⟨RX3, TX3, 4, tyX3, ⟨rfl, by decide, inX3, tyX3_ok, nmX3, rfl, by decide +kernel⟩, rfl, (al_in (tb1 (List.mem_of_getElem? (i := 124) (by rfl))) (by decide +kernel))⟩
theorem mo_X3_21 : Cond.methodLink RX3 21 arraycopyName ∈ ALLg := (al_in (tb4 (List.mem_of_getElem? (i := 91) (by rfl))) (by decide +kernel))
theorem fl_X3_15 : Fl RX3 15 3 1 true (.array .int) := ⟨RX3, TX3, 4, tyX3, ⟨rfl, by decide, inX3, tyX3_ok, nmX3, rfl, by decide +kernel⟩, rfl, (al_in (tb1 (List.mem_of_getElem? (i := 125) (by rfl))) (by decide +kernel))⟩
theorem fl_X3_18 : Fl RX3 18 3 2 true (.array .int) := ⟨RX3, TX3, 4, tyX3, ⟨rfl, by decide, inX3, tyX3_ok, nmX3, rfl, by decide +kernel⟩, rfl, (al_in (tb1 (List.mem_of_getElem? (i := 126) (by rfl))) (by decide +kernel))⟩
theorem fl_X3_27 : Fl RX3 27 3 3 false .int := ⟨RX3, TX3, 4, tyX3, ⟨rfl, by decide, inX3, tyX3_ok, nmX3, rfl, by decide +kernel⟩, rfl, (al_in (tb1 (List.mem_of_getElem? (i := 127) (by rfl))) (by decide +kernel))⟩
theorem ml_X3_31 : Cond.methodLink RX3 31 yX7_start ∈ ALLg := (al_in (tb4 (List.mem_of_getElem? (i := 63) (by rfl))) (by decide +kernel))
theorem ml_X3_44 : Cond.methodLink RX3 44 yX7_isFine ∈ ALLg := (al_in (tb4 (List.mem_of_getElem? (i := 86) (by rfl))) (by decide +kernel))
theorem ml_X3_36 : Cond.methodLink RX3 36 yX7_goesOn ∈ ALLg := (al_in (tb4 (List.mem_of_getElem? (i := 64) (by rfl))) (by decide +kernel))
theorem ml_X3_40 : Cond.methodLink RX3 40 yX3_tellLoss ∈ ALLg := (al_in (tb4 (List.mem_of_getElem? (i := 65) (by rfl))) (by decide +kernel))
theorem sr_X3_47 : (RX3, 47, "lose", 33) ∈ strW := List.mem_of_getElem? (i := 33) (by rfl)
theorem ml_X3_49 : Cond.methodLink RX3 49 yX7_isWord ∈ ALLg := (al_in (tb4 (List.mem_of_getElem? (i := 70) (by rfl))) (by decide +kernel))
theorem sr_X3_53 : (RX3, 53, "moth", 34) ∈ strW := List.mem_of_getElem? (i := 34) (by rfl)
theorem sr_X3_55 : (RX3, 55, "wash", 35) ∈ strW := List.mem_of_getElem? (i := 35) (by rfl)
theorem ml_X3_61 : Cond.methodLink RX3 61 yX7_mayTakeWord ∈ ALLg := (al_in (tb4 (List.mem_of_getElem? (i := 74) (by rfl))) (by decide +kernel))
theorem ml_X3_70 : Cond.methodLink RX3 70 yX7_takeWord ∈ ALLg := (al_in (tb4 (List.mem_of_getElem? (i := 77) (by rfl))) (by decide +kernel))
theorem ml_X3_74 : Cond.methodLink RX3 74 yX3_tellStretch ∈ ALLg := (al_in (tb4 (List.mem_of_getElem? (i := 78) (by rfl))) (by decide +kernel))
theorem sr_X3_80 : (RX3, 80, "columns", 37) ∈ strW := List.mem_of_getElem? (i := 37) (by rfl)
theorem sr_X3_82 : (RX3, 82, "rows", 38) ∈ strW := List.mem_of_getElem? (i := 38) (by rfl)
theorem ml_X3_64 : Cond.methodLink RX3 64 yX7_takeNumber ∈ ALLg := (al_in (tb4 (List.mem_of_getElem? (i := 75) (by rfl))) (by decide +kernel))
theorem sr_X3_84 : (RX3, 84, "to", 39) ∈ strW := List.mem_of_getElem? (i := 39) (by rfl)
theorem mx_X3_tellStretch : Mx yX3_tellStretch cX3_tellStretch 2 none 1 := ⟨(al_in (tb4 (List.mem_of_getElem? (i := 81) (by rfl))) (by decide +kernel)), (al_in (tb1 (List.mem_of_getElem? (i := 6) (by rfl))) (by decide +kernel)), ⟨by decide +kernel, by decide +kernel, by decide +kernel⟩, by decide⟩
theorem mi_X3_tellStretch : Cond.instanceMethod yX3_tellStretch ∈ ALLg := (al_in (tb4 (List.mem_of_getElem? (i := 80) (by rfl))) (by decide +kernel))
theorem ms_X3_tellStretch : Cond.selects (yX3_tellStretch).cls yX3_tellStretch yX3_tellStretch ∈ ALLg := (al_in (tb0 (List.mem_of_getElem? (i := 14) (by rfl))) (by decide +kernel))
theorem ml_X3_77 : Cond.methodLink RX3 77 yX7_takeSemicolon ∈ ALLg := (al_in (tb4 (List.mem_of_getElem? (i := 85) (by rfl))) (by decide +kernel))
theorem sr_X3_68 : (RX3, 68, "from", 36) ∈ strW := List.mem_of_getElem? (i := 36) (by rfl)
theorem ml_X3_57 : Cond.methodLink RX3 57 yX7_complain ∈ ALLg := (al_in (tb4 (List.mem_of_getElem? (i := 73) (by rfl))) (by decide +kernel))
theorem mx_X3_tellLoss : Mx yX3_tellLoss cX3_tellLoss 3 none 1 := ⟨(al_in (tb4 (List.mem_of_getElem? (i := 68) (by rfl))) (by decide +kernel)), (al_in (tb1 (List.mem_of_getElem? (i := 6) (by rfl))) (by decide +kernel)), ⟨by decide +kernel, by decide +kernel, by decide +kernel⟩, by decide⟩
theorem mi_X3_tellLoss : Cond.instanceMethod yX3_tellLoss ∈ ALLg := (al_in (tb4 (List.mem_of_getElem? (i := 67) (by rfl))) (by decide +kernel))
theorem ms_X3_tellLoss : Cond.selects (yX3_tellLoss).cls yX3_tellLoss yX3_tellLoss ∈ ALLg := (al_in (tb0 (List.mem_of_getElem? (i := 13) (by rfl))) (by decide +kernel))
theorem ml_X3_86 : Cond.methodLink RX3 86 yX4_places ∈ ALLg := (al_in (tb5 (List.mem_of_getElem? (i := 155) (by rfl))) (by decide +kernel))
theorem ml_X3_92 : Cond.methodLink RX3 92 yX3_takes ∈ ALLg := (al_in (tb5 (List.mem_of_getElem? (i := 156) (by rfl))) (by decide +kernel))
theorem ml_X3_106 : Cond.methodLink RX3 106 yX4_rowOf ∈ ALLg := (al_in (tb5 (List.mem_of_getElem? (i := 160) (by rfl))) (by decide +kernel))
theorem ml_X3_109 : Cond.methodLink RX3 109 yX4_columnOf ∈ ALLg := (al_in (tb5 (List.mem_of_getElem? (i := 161) (by rfl))) (by decide +kernel))
theorem mx_X3_takes : Mx yX3_takes cX3_takes 6 (some .boolean) 3 := ⟨(al_in (tb5 (List.mem_of_getElem? (i := 159) (by rfl))) (by decide +kernel)), (al_in (tb1 (List.mem_of_getElem? (i := 6) (by rfl))) (by decide +kernel)), ⟨by decide +kernel, by decide +kernel, by decide +kernel⟩, by decide⟩
theorem mi_X3_takes : Cond.instanceMethod yX3_takes ∈ ALLg := (al_in (tb5 (List.mem_of_getElem? (i := 158) (by rfl))) (by decide +kernel))
theorem ms_X3_takes : Cond.selects (yX3_takes).cls yX3_takes yX3_takes ∈ ALLg := (al_in (tb0 (List.mem_of_getElem? (i := 33) (by rfl))) (by decide +kernel))
theorem ml_X3_102 : Cond.methodLink RX3 102 yX1_stitchAt ∈ ALLg := (al_in (tb5 (List.mem_of_getElem? (i := 163) (by rfl))) (by decide +kernel))
theorem fl_X1_9 : Fl RX1 9 1 0 true (.array .byte) := ⟨RX1, TX1, 2, tyX1, ⟨rfl, by decide, inX1, tyX1_ok, nmX1, rfl, by decide +kernel⟩, rfl, (al_in (tb1 (List.mem_of_getElem? (i := 179) (by rfl))) (by decide +kernel))⟩
theorem mx_X1_stitchAt : Mx yX1_stitchAt cX1_stitchAt 2 (some .int) 1 := ⟨(al_in (tb4 (List.mem_of_getElem? (i := 186) (by rfl))) (by decide +kernel)), (al_in (tb1 (List.mem_of_getElem? (i := 8) (by rfl))) (by decide +kernel)), ⟨by decide +kernel, by decide +kernel, by decide +kernel⟩, by decide⟩
theorem mi_X1_stitchAt : Cond.instanceMethod yX1_stitchAt ∈ ALLg := (al_in (tb4 (List.mem_of_getElem? (i := 184) (by rfl))) (by decide +kernel))
theorem ms_X1_stitchAt : Cond.selects (yX1_stitchAt).cls yX1_stitchAt yX1_stitchAt ∈ ALLg := (al_in (tb4 (List.mem_of_getElem? (i := 185) (by rfl))) (by decide +kernel))
theorem ml_X3_96 : Cond.methodLink RX3 96 yX1_setStitch ∈ ALLg := (al_in (tb5 (List.mem_of_getElem? (i := 162) (by rfl))) (by decide +kernel))
theorem mx_X1_setStitch : Mx yX1_setStitch cX1_setStitch 3 none 2 := ⟨(al_in (tb4 (List.mem_of_getElem? (i := 129) (by rfl))) (by decide +kernel)), (al_in (tb1 (List.mem_of_getElem? (i := 8) (by rfl))) (by decide +kernel)), ⟨by decide +kernel, by decide +kernel, by decide +kernel⟩, by decide⟩
theorem mi_X1_setStitch : Cond.instanceMethod yX1_setStitch ∈ ALLg := (al_in (tb4 (List.mem_of_getElem? (i := 127) (by rfl))) (by decide +kernel))
theorem ms_X1_setStitch : Cond.selects (yX1_setStitch).cls yX1_setStitch yX1_setStitch ∈ ALLg := (al_in (tb4 (List.mem_of_getElem? (i := 128) (by rfl))) (by decide +kernel))
theorem fl_X2_9 : Fl RX2 9 2 0 true (.array .int) := ⟨RX2, TX2, 2, tyX2, ⟨rfl, by decide, inX2, tyX2_ok, nmX2, rfl, by decide +kernel⟩, rfl, (al_in (tb1 (List.mem_of_getElem? (i := 221) (by rfl))) (by decide +kernel))⟩
theorem mo_X2_15 : Cond.methodLink RX2 15 arraycopyName ∈ ALLg := (al_in (tb4 (List.mem_of_getElem? (i := 221) (by rfl))) (by decide +kernel))
theorem fl_X2_21 : Fl RX2 21 2 1 false .int := ⟨RX2, TX2, 2, tyX2, ⟨rfl, by decide, inX2, tyX2_ok, nmX2, rfl, by decide +kernel⟩, rfl, (al_in (tb1 (List.mem_of_getElem? (i := 222) (by rfl))) (by decide +kernel))⟩
theorem fn_X2_25 : Fn RX2 25 7 1 false .int := ⟨RX7, TX7, 7, tyX7, ⟨rfl, by decide, inX7, tyX7_ok, nmX7, rfl, by decide +kernel⟩, "StitchSays", List.mem_of_getElem? (i := 2) (by rfl)⟩
theorem ml_X2_28 : Cond.methodLink RX2 28 yX7_byteAt ∈ ALLg := (al_in (tb4 (List.mem_of_getElem? (i := 158) (by rfl))) (by decide +kernel))
theorem ml_X2_32 : Cond.methodLink RX2 32 yX2_add ∈ ALLg := (al_in (tb4 (List.mem_of_getElem? (i := 159) (by rfl))) (by decide +kernel))
theorem mx_X2_add : Mx yX2_add cX2_add 2 none 1 := ⟨(al_in (tb4 (List.mem_of_getElem? (i := 162) (by rfl))) (by decide +kernel)), (al_in (tb1 (List.mem_of_getElem? (i := 9) (by rfl))) (by decide +kernel)), ⟨by decide +kernel, by decide +kernel, by decide +kernel⟩, by decide⟩
theorem mi_X2_add : Cond.instanceMethod yX2_add ∈ ALLg := (al_in (tb4 (List.mem_of_getElem? (i := 161) (by rfl))) (by decide +kernel))
theorem ms_X2_add : Cond.selects (yX2_add).cls yX2_add yX2_add ∈ ALLg := (al_in (tb0 (List.mem_of_getElem? (i := 18) (by rfl))) (by decide +kernel))
theorem ml_X2_36 : Cond.methodLink RX2 36 yX2_fiveAt ∈ ALLg := (al_in (tb4 (List.mem_of_getElem? (i := 167) (by rfl))) (by decide +kernel))
theorem mx_X2_fiveAt : Mx yX2_fiveAt cX2_fiveAt 2 (some .int) 1 := ⟨(al_in (tb4 (List.mem_of_getElem? (i := 170) (by rfl))) (by decide +kernel)), (al_in (tb1 (List.mem_of_getElem? (i := 9) (by rfl))) (by decide +kernel)), ⟨by decide +kernel, by decide +kernel, by decide +kernel⟩, by decide⟩
theorem mi_X2_fiveAt : Cond.instanceMethod yX2_fiveAt ∈ ALLg := (al_in (tb4 (List.mem_of_getElem? (i := 168) (by rfl))) (by decide +kernel))
theorem ms_X2_fiveAt : Cond.selects (yX2_fiveAt).cls yX2_fiveAt yX2_fiveAt ∈ ALLg := (al_in (tb4 (List.mem_of_getElem? (i := 169) (by rfl))) (by decide +kernel))
theorem fn_X2_39 : Fn RX2 39 8 4 false .int := ⟨RX8, TX8, 5, tyX8, ⟨rfl, by decide, inX8, tyX8_ok, nmX8, rfl, by decide +kernel⟩, "StitchSays", List.mem_of_getElem? (i := 42) (by rfl)⟩
theorem ml_X2_44 : Cond.methodLink RX2 44 yX8_fiveTells ∈ ALLg := (al_in (tb4 (List.mem_of_getElem? (i := 209) (by rfl))) (by decide +kernel))
theorem ml_X8_83 : Cond.methodLink RX8 83 yX8_bitTells ∈ ALLg := (al_in (tb4 (List.mem_of_getElem? (i := 213) (by rfl))) (by decide +kernel))
theorem fl_X8_19 : Fl RX8 19 8 3 false .int := ⟨RX8, TX8, 5, tyX8, ⟨rfl, by decide, inX8, tyX8_ok, nmX8, rfl, by decide +kernel⟩, rfl, (al_in (tb2 (List.mem_of_getElem? (i := 8) (by rfl))) (by decide +kernel))⟩
theorem ml_X8_79 : Cond.methodLink RX8 79 yX8_groupTells ∈ ALLg := (al_in (tb4 (List.mem_of_getElem? (i := 175) (by rfl))) (by decide +kernel))
theorem fl_X8_15 : Fl RX8 15 8 2 false .int := ⟨RX8, TX8, 5, tyX8, ⟨rfl, by decide, inX8, tyX8_ok, nmX8, rfl, by decide +kernel⟩, rfl, (al_in (tb2 (List.mem_of_getElem? (i := 7) (by rfl))) (by decide +kernel))⟩
theorem ml_X8_71 : Cond.methodLink RX8 71 yX8_placeAt ∈ ALLg := (al_in (tb4 (List.mem_of_getElem? (i := 179) (by rfl))) (by decide +kernel))
theorem fl_X8_22 : Fl RX8 22 8 1 false .int := ⟨RX8, TX8, 5, tyX8, ⟨rfl, by decide, inX8, tyX8_ok, nmX8, rfl, by decide +kernel⟩, rfl, (al_in (tb2 (List.mem_of_getElem? (i := 6) (by rfl))) (by decide +kernel))⟩
theorem fl_X8_9 : Fl RX8 9 8 0 true (.array .int) := ⟨RX8, TX8, 5, tyX8, ⟨rfl, by decide, inX8, tyX8_ok, nmX8, rfl, by decide +kernel⟩, rfl, (al_in (tb2 (List.mem_of_getElem? (i := 5) (by rfl))) (by decide +kernel))⟩
theorem mx_X8_placeAt : Mx yX8_placeAt cX8_placeAt 2 (some .int) 1 := ⟨(al_in (tb4 (List.mem_of_getElem? (i := 182) (by rfl))) (by decide +kernel)), (al_in (tb1 (List.mem_of_getElem? (i := 10) (by rfl))) (by decide +kernel)), ⟨by decide +kernel, by decide +kernel, by decide +kernel⟩, by decide⟩
theorem mi_X8_placeAt : Cond.instanceMethod yX8_placeAt ∈ ALLg := (al_in (tb4 (List.mem_of_getElem? (i := 180) (by rfl))) (by decide +kernel))
theorem ms_X8_placeAt : Cond.selects (yX8_placeAt).cls yX8_placeAt yX8_placeAt ∈ ALLg := (al_in (tb4 (List.mem_of_getElem? (i := 181) (by rfl))) (by decide +kernel))
theorem ml_X8_74 : Cond.methodLink RX8 74 yX1_stitchAt ∈ ALLg := (al_in (tb4 (List.mem_of_getElem? (i := 183) (by rfl))) (by decide +kernel))
theorem mx_X8_groupTells : Mx yX8_groupTells cX8_groupTells 6 (some .int) 2 := ⟨(al_in (tb4 (List.mem_of_getElem? (i := 178) (by rfl))) (by decide +kernel)), (al_in (tb1 (List.mem_of_getElem? (i := 10) (by rfl))) (by decide +kernel)), ⟨by decide +kernel, by decide +kernel, by decide +kernel⟩, by decide⟩
theorem mi_X8_groupTells : Cond.instanceMethod yX8_groupTells ∈ ALLg := (al_in (tb4 (List.mem_of_getElem? (i := 176) (by rfl))) (by decide +kernel))
theorem ms_X8_groupTells : Cond.selects (yX8_groupTells).cls yX8_groupTells yX8_groupTells ∈ ALLg := (al_in (tb4 (List.mem_of_getElem? (i := 177) (by rfl))) (by decide +kernel))
theorem mx_X8_bitTells : Mx yX8_bitTells cX8_bitTells 6 (some .int) 2 := ⟨(al_in (tb4 (List.mem_of_getElem? (i := 216) (by rfl))) (by decide +kernel)), (al_in (tb1 (List.mem_of_getElem? (i := 10) (by rfl))) (by decide +kernel)), ⟨by decide +kernel, by decide +kernel, by decide +kernel⟩, by decide⟩
theorem mi_X8_bitTells : Cond.instanceMethod yX8_bitTells ∈ ALLg := (al_in (tb4 (List.mem_of_getElem? (i := 214) (by rfl))) (by decide +kernel))
theorem ms_X8_bitTells : Cond.selects (yX8_bitTells).cls yX8_bitTells yX8_bitTells ∈ ALLg := (al_in (tb4 (List.mem_of_getElem? (i := 215) (by rfl))) (by decide +kernel))
theorem mx_X8_fiveTells : Mx yX8_fiveTells cX8_fiveTells 6 (some .int) 2 := ⟨(al_in (tb4 (List.mem_of_getElem? (i := 212) (by rfl))) (by decide +kernel)), (al_in (tb1 (List.mem_of_getElem? (i := 10) (by rfl))) (by decide +kernel)), ⟨by decide +kernel, by decide +kernel, by decide +kernel⟩, by decide⟩
theorem mi_X8_fiveTells : Cond.instanceMethod yX8_fiveTells ∈ ALLg := (al_in (tb4 (List.mem_of_getElem? (i := 210) (by rfl))) (by decide +kernel))
theorem ms_X8_fiveTells : Cond.selects (yX8_fiveTells).cls yX8_fiveTells yX8_fiveTells ∈ ALLg := (al_in (tb4 (List.mem_of_getElem? (i := 211) (by rfl))) (by decide +kernel))
theorem ml_X2_48 : Cond.methodLink RX2 48 yX8_setBit ∈ ALLg := (al_in (tb4 (List.mem_of_getElem? (i := 171) (by rfl))) (by decide +kernel))
theorem ml_X8_86 : Cond.methodLink RX8 86 yX8_lastPlaceLeft ∈ ALLg := (al_in (tb4 (List.mem_of_getElem? (i := 187) (by rfl))) (by decide +kernel))
theorem mx_X8_lastPlaceLeft : Mx yX8_lastPlaceLeft cX8_lastPlaceLeft 5 (some .int) 2 := ⟨(al_in (tb4 (List.mem_of_getElem? (i := 190) (by rfl))) (by decide +kernel)), (al_in (tb1 (List.mem_of_getElem? (i := 10) (by rfl))) (by decide +kernel)), ⟨by decide +kernel, by decide +kernel, by decide +kernel⟩, by decide⟩
theorem mi_X8_lastPlaceLeft : Cond.instanceMethod yX8_lastPlaceLeft ∈ ALLg := (al_in (tb4 (List.mem_of_getElem? (i := 189) (by rfl))) (by decide +kernel))
theorem ms_X8_lastPlaceLeft : Cond.selects (yX8_lastPlaceLeft).cls yX8_lastPlaceLeft yX8_lastPlaceLeft ∈ ALLg := (al_in (tb0 (List.mem_of_getElem? (i := 19) (by rfl))) (by decide +kernel))
theorem ml_X8_89 : Cond.methodLink RX8 89 yX4_turnedOver ∈ ALLg := (al_in (tb4 (List.mem_of_getElem? (i := 191) (by rfl))) (by decide +kernel))
theorem mx_X4_turnedOver : Mx yX4_turnedOver cX4_turnedOver 3 (some .int) 2 := ⟨(al_in (tb4 (List.mem_of_getElem? (i := 194) (by rfl))) (by decide +kernel)), (al_in (tb1 (List.mem_of_getElem? (i := 4) (by rfl))) (by decide +kernel)), ⟨by decide +kernel, by decide +kernel, by decide +kernel⟩, by decide⟩
theorem mi_X4_turnedOver : Cond.instanceMethod yX4_turnedOver ∈ ALLg := (al_in (tb4 (List.mem_of_getElem? (i := 192) (by rfl))) (by decide +kernel))
theorem ms_X4_turnedOver : Cond.selects (yX4_turnedOver).cls yX4_turnedOver yX4_turnedOver ∈ ALLg := (al_in (tb4 (List.mem_of_getElem? (i := 193) (by rfl))) (by decide +kernel))
theorem ml_X8_92 : Cond.methodLink RX8 92 yX1_setStitch ∈ ALLg := (al_in (tb4 (List.mem_of_getElem? (i := 196) (by rfl))) (by decide +kernel))
theorem mx_X8_setBit : Mx yX8_setBit cX8_setBit 9 (some .int) 4 := ⟨(al_in (tb4 (List.mem_of_getElem? (i := 174) (by rfl))) (by decide +kernel)), (al_in (tb1 (List.mem_of_getElem? (i := 10) (by rfl))) (by decide +kernel)), ⟨by decide +kernel, by decide +kernel, by decide +kernel⟩, by decide⟩
theorem mi_X8_setBit : Cond.instanceMethod yX8_setBit ∈ ALLg := (al_in (tb4 (List.mem_of_getElem? (i := 172) (by rfl))) (by decide +kernel))
theorem ms_X8_setBit : Cond.selects (yX8_setBit).cls yX8_setBit yX8_setBit ∈ ALLg := (al_in (tb4 (List.mem_of_getElem? (i := 173) (by rfl))) (by decide +kernel))
theorem mo_X1_15 : Cond.methodLink RX1 15 arraycopyName ∈ ALLg := (al_in (tb5 (List.mem_of_getElem? (i := 56) (by rfl))) (by decide +kernel))
theorem fl_X1_21 : Fl RX1 21 1 1 false .boolean := ⟨RX1, TX1, 2, tyX1, ⟨rfl, by decide, inX1, tyX1_ok, nmX1, rfl, by decide +kernel⟩, rfl, (al_in (tb1 (List.mem_of_getElem? (i := 181) (by rfl))) (by decide +kernel))⟩
theorem ml_X1_25 : Cond.methodLink RX1 25 yX4_places ∈ ALLg := (al_in (tb4 (List.mem_of_getElem? (i := 115) (by rfl))) (by decide +kernel))
theorem ml_X1_31 : Cond.methodLink RX1 31 yX4_sortAt ∈ ALLg := (al_in (tb4 (List.mem_of_getElem? (i := 116) (by rfl))) (by decide +kernel))
theorem ml_X1_48 : Cond.methodLink RX1 48 yX1_setStitch ∈ ALLg := (al_in (tb4 (List.mem_of_getElem? (i := 126) (by rfl))) (by decide +kernel))
theorem kl_X1_35 : Cond.constantLong RX1 35 1103515245 ∈ ALLg := (al_in (tb4 (List.mem_of_getElem? (i := 117) (by rfl))) (by decide +kernel))
theorem kl_X1_37 : Cond.constantLong RX1 37 12345 ∈ ALLg := (al_in (tb4 (List.mem_of_getElem? (i := 118) (by rfl))) (by decide +kernel))
theorem kl_X1_39 : Cond.constantLong RX1 39 2147483648 ∈ ALLg := (al_in (tb4 (List.mem_of_getElem? (i := 119) (by rfl))) (by decide +kernel))
theorem kl_X1_41 : Cond.constantLong RX1 41 65536 ∈ ALLg := (al_in (tb4 (List.mem_of_getElem? (i := 120) (by rfl))) (by decide +kernel))
theorem kl_X1_43 : Cond.constantLong RX1 43 100 ∈ ALLg := (al_in (tb4 (List.mem_of_getElem? (i := 121) (by rfl))) (by decide +kernel))
theorem ml_X1_45 : Cond.methodLink RX1 45 yX4_notPlainAt ∈ ALLg := (al_in (tb4 (List.mem_of_getElem? (i := 122) (by rfl))) (by decide +kernel))
theorem ml_X1_52 : Cond.methodLink RX1 52 yX4_knittedAs ∈ ALLg := (al_in (tb5 (List.mem_of_getElem? (i := 205) (by rfl))) (by decide +kernel))
theorem mx_X4_knittedAs : Mx yX4_knittedAs cX4_knittedAs 4 (some .int) 1 := ⟨(al_in (tb5 (List.mem_of_getElem? (i := 194) (by rfl))) (by decide +kernel)), (al_in (tb1 (List.mem_of_getElem? (i := 4) (by rfl))) (by decide +kernel)), ⟨by decide +kernel, by decide +kernel, by decide +kernel⟩, by decide⟩
theorem mi_X4_knittedAs : Cond.instanceMethod yX4_knittedAs ∈ ALLg := (al_in (tb5 (List.mem_of_getElem? (i := 192) (by rfl))) (by decide +kernel))
theorem ms_X4_knittedAs : Cond.selects (yX4_knittedAs).cls yX4_knittedAs yX4_knittedAs ∈ ALLg := (al_in (tb5 (List.mem_of_getElem? (i := 193) (by rfl))) (by decide +kernel))
theorem ml_X1_55 : Cond.methodLink RX1 55 yX1_stitchAt ∈ ALLg := (al_in (tb5 (List.mem_of_getElem? (i := 65) (by rfl))) (by decide +kernel))
theorem fn_X8_25 : Fn RX8 25 10 2 false .int := ⟨RX10, TX10, 7, tyX10, ⟨rfl, by decide, inX10, tyX10_ok, nmX10, rfl, by decide +kernel⟩, "StitchSays", List.mem_of_getElem? (i := 21) (by rfl)⟩
theorem fn_X8_30 : Fn RX8 30 4 3 false .int := ⟨RX4, TX4, 5, tyX4, ⟨rfl, by decide, inX4, tyX4_ok, nmX4, rfl, by decide +kernel⟩, "StitchSays", List.mem_of_getElem? (i := 9) (by rfl)⟩
theorem fn_X8_35 : Fn RX8 35 10 6 false .boolean := ⟨RX10, TX10, 7, tyX10, ⟨rfl, by decide, inX10, tyX10_ok, nmX10, rfl, by decide +kernel⟩, "StitchSays", List.mem_of_getElem? (i := 25) (by rfl)⟩
theorem fn_X8_39 : Fn RX8 39 10 5 false .boolean := ⟨RX10, TX10, 7, tyX10, ⟨rfl, by decide, inX10, tyX10_ok, nmX10, rfl, by decide +kernel⟩, "StitchSays", List.mem_of_getElem? (i := 24) (by rfl)⟩
theorem fn_X8_42 : Fn RX8 42 4 2 false .int := ⟨RX4, TX4, 5, tyX4, ⟨rfl, by decide, inX4, tyX4_ok, nmX4, rfl, by decide +kernel⟩, "StitchSays", List.mem_of_getElem? (i := 7) (by rfl)⟩
theorem ml_X8_45 : Cond.methodLink RX8 45 yX4_placeOf ∈ ALLg := (al_in (tb3 (List.mem_of_getElem? (i := 222) (by rfl))) (by decide +kernel))
theorem ml_X8_49 : Cond.methodLink RX8 49 yX4_sortAt ∈ ALLg := (al_in (tb3 (List.mem_of_getElem? (i := 223) (by rfl))) (by decide +kernel))
theorem ml_X8_53 : Cond.methodLink RX8 53 yX10_wants ∈ ALLg := (al_in (tb3 (List.mem_of_getElem? (i := 224) (by rfl))) (by decide +kernel))
theorem mx_X10_wants : Mx yX10_wants cX10_wants 2 (some .boolean) 1 := ⟨(al_in (tb3 (List.mem_of_getElem? (i := 227) (by rfl))) (by decide +kernel)), (al_in (tb1 (List.mem_of_getElem? (i := 7) (by rfl))) (by decide +kernel)), ⟨by decide +kernel, by decide +kernel, by decide +kernel⟩, by decide⟩
theorem mi_X10_wants : Cond.instanceMethod yX10_wants ∈ ALLg := (al_in (tb3 (List.mem_of_getElem? (i := 225) (by rfl))) (by decide +kernel))
theorem ms_X10_wants : Cond.selects (yX10_wants).cls yX10_wants yX10_wants ∈ ALLg := (al_in (tb3 (List.mem_of_getElem? (i := 226) (by rfl))) (by decide +kernel))
theorem ml_X8_57 : Cond.methodLink RX8 57 yX8_addPlace ∈ ALLg := (al_in (tb3 (List.mem_of_getElem? (i := 228) (by rfl))) (by decide +kernel))
theorem mx_X8_addPlace : Mx yX8_addPlace cX8_addPlace 2 none 1 := ⟨(al_in (tb3 (List.mem_of_getElem? (i := 231) (by rfl))) (by decide +kernel)), (al_in (tb1 (List.mem_of_getElem? (i := 10) (by rfl))) (by decide +kernel)), ⟨by decide +kernel, by decide +kernel, by decide +kernel⟩, by decide⟩
theorem mi_X8_addPlace : Cond.instanceMethod yX8_addPlace ∈ ALLg := (al_in (tb3 (List.mem_of_getElem? (i := 230) (by rfl))) (by decide +kernel))
theorem ms_X8_addPlace : Cond.selects (yX8_addPlace).cls yX8_addPlace yX8_addPlace ∈ ALLg := (al_in (tb0 (List.mem_of_getElem? (i := 9) (by rfl))) (by decide +kernel))
theorem fn_X8_61 : Fn RX8 61 10 3 false .int := ⟨RX10, TX10, 7, tyX10, ⟨rfl, by decide, inX10, tyX10_ok, nmX10, rfl, by decide +kernel⟩, "StitchSays", List.mem_of_getElem? (i := 22) (by rfl)⟩
theorem ml_X8_62 : Cond.methodLink RX8 62 yJ9_max_7cf53 ∈ ALLg := (al_in (tb3 (List.mem_of_getElem? (i := 232) (by rfl))) (by decide +kernel))
theorem mm_X8_62 : Cond.methodLink RX8 62 Lib.Math.max.name ∈ ALLg := (al_in (tb3 (List.mem_of_getElem? (i := 232) (by rfl))) (by decide +kernel))
theorem fn_X8_67 : Fn RX8 67 10 4 false .int := ⟨RX10, TX10, 7, tyX10, ⟨rfl, by decide, inX10, tyX10_ok, nmX10, rfl, by decide +kernel⟩, "StitchSays", List.mem_of_getElem? (i := 23) (by rfl)⟩
theorem fl_X8_68 : Fl RX8 68 8 4 false .int := ⟨RX8, TX8, 5, tyX8, ⟨rfl, by decide, inX8, tyX8_ok, nmX8, rfl, by decide +kernel⟩, rfl, (al_in (tb2 (List.mem_of_getElem? (i := 9) (by rfl))) (by decide +kernel))⟩
theorem fl_X6_12 : Fl RX6 12 6 0 true (.object "StitchSays$Cloth") := ⟨RX6, TX6, 10, tyX6, ⟨rfl, by decide, inX6, tyX6_ok, nmX6, rfl, by decide +kernel⟩, rfl, (al_in (tb2 (List.mem_of_getElem? (i := 33) (by rfl))) (by decide +kernel))⟩
theorem ml_X6_31 : Cond.methodLink RX6 31 yX1_takeFrom ∈ ALLg := (al_in (tb5 (List.mem_of_getElem? (i := 52) (by rfl))) (by decide +kernel))
theorem mx_X1_takeFrom : Mx yX1_takeFrom cX1_takeFrom 2 none 1 := ⟨(al_in (tb5 (List.mem_of_getElem? (i := 55) (by rfl))) (by decide +kernel)), (al_in (tb1 (List.mem_of_getElem? (i := 8) (by rfl))) (by decide +kernel)), ⟨by decide +kernel, by decide +kernel, by decide +kernel⟩, by decide⟩
theorem mi_X1_takeFrom : Cond.instanceMethod yX1_takeFrom ∈ ALLg := (al_in (tb5 (List.mem_of_getElem? (i := 53) (by rfl))) (by decide +kernel))
theorem ms_X1_takeFrom : Cond.selects (yX1_takeFrom).cls yX1_takeFrom yX1_takeFrom ∈ ALLg := (al_in (tb5 (List.mem_of_getElem? (i := 54) (by rfl))) (by decide +kernel))
theorem ml_X6_35 : Cond.methodLink RX6 35 yJ7_fill_53178 ∈ ALLg := (al_in (tb5 (List.mem_of_getElem? (i := 57) (by rfl))) (by decide +kernel))
theorem mx_J7_fill_53178 : Mx yJ7_fill_53178 cJ7_fill_53178 4 none 2 := ⟨(al_in (tb5 (List.mem_of_getElem? (i := 59) (by rfl))) (by decide +kernel)), (al_in (tb1 (List.mem_of_getElem? (i := 21) (by rfl))) (by decide +kernel)), ⟨by decide +kernel, by decide +kernel, by decide +kernel⟩, by decide⟩
theorem mt_J7_fill_53178 : Cond.static yJ7_fill_53178 ∈ ALLg := (al_in (tb5 (List.mem_of_getElem? (i := 58) (by rfl))) (by decide +kernel))
theorem fl_X6_25 : Fl RX6 25 6 3 true (.array .int) := ⟨RX6, TX6, 10, tyX6, ⟨rfl, by decide, inX6, tyX6_ok, nmX6, rfl, by decide +kernel⟩, rfl, (al_in (tb2 (List.mem_of_getElem? (i := 36) (by rfl))) (by decide +kernel))⟩
theorem fl_X6_28 : Fl RX6 28 6 4 true (.array .int) := ⟨RX6, TX6, 10, tyX6, ⟨rfl, by decide, inX6, tyX6_ok, nmX6, rfl, by decide +kernel⟩, rfl, (al_in (tb2 (List.mem_of_getElem? (i := 37) (by rfl))) (by decide +kernel))⟩
theorem fn_X6_41 : Fn RX6 41 4 2 false .int := ⟨RX4, TX4, 5, tyX4, ⟨rfl, by decide, inX4, tyX4_ok, nmX4, rfl, by decide +kernel⟩, "StitchSays", List.mem_of_getElem? (i := 6) (by rfl)⟩
theorem fl_X6_47 : Fl RX6 47 6 5 false .int := ⟨RX6, TX6, 10, tyX6, ⟨rfl, by decide, inX6, tyX6_ok, nmX6, rfl, by decide +kernel⟩, rfl, (al_in (tb2 (List.mem_of_getElem? (i := 38) (by rfl))) (by decide +kernel))⟩
theorem fn_X6_48 : Fn RX6 48 4 3 false .int := ⟨RX4, TX4, 5, tyX4, ⟨rfl, by decide, inX4, tyX4_ok, nmX4, rfl, by decide +kernel⟩, "StitchSays", List.mem_of_getElem? (i := 10) (by rfl)⟩
theorem ml_X6_51 : Cond.methodLink RX6 51 yJ9_min_7cf53 ∈ ALLg := (al_in (tb5 (List.mem_of_getElem? (i := 60) (by rfl))) (by decide +kernel))
theorem mm_X6_51 : Cond.methodLink RX6 51 Lib.Math.min.name ∈ ALLg := (al_in (tb5 (List.mem_of_getElem? (i := 60) (by rfl))) (by decide +kernel))
theorem fn_X6_58 : Fn RX6 58 4 4 false .int := ⟨RX4, TX4, 5, tyX4, ⟨rfl, by decide, inX4, tyX4_ok, nmX4, rfl, by decide +kernel⟩, "StitchSays", List.mem_of_getElem? (i := 12) (by rfl)⟩
theorem ml_X6_62 : Cond.methodLink RX6 62 yX1_lostPlaces ∈ ALLg := (al_in (tb5 (List.mem_of_getElem? (i := 61) (by rfl))) (by decide +kernel))
theorem mx_X1_lostPlaces : Mx yX1_lostPlaces cX1_lostPlaces 4 (some .int) 1 := ⟨(al_in (tb5 (List.mem_of_getElem? (i := 64) (by rfl))) (by decide +kernel)), (al_in (tb1 (List.mem_of_getElem? (i := 8) (by rfl))) (by decide +kernel)), ⟨by decide +kernel, by decide +kernel, by decide +kernel⟩, by decide⟩
theorem mi_X1_lostPlaces : Cond.instanceMethod yX1_lostPlaces ∈ ALLg := (al_in (tb5 (List.mem_of_getElem? (i := 62) (by rfl))) (by decide +kernel))
theorem ms_X1_lostPlaces : Cond.selects (yX1_lostPlaces).cls yX1_lostPlaces yX1_lostPlaces ∈ ALLg := (al_in (tb5 (List.mem_of_getElem? (i := 63) (by rfl))) (by decide +kernel))
theorem ml_X6_72 : Cond.methodLink RX6 72 yX4_freePlace ∈ ALLg := (al_in (tb5 (List.mem_of_getElem? (i := 66) (by rfl))) (by decide +kernel))
theorem mx_X4_freePlace : Mx yX4_freePlace cX4_freePlace 2 (some .int) 1 := ⟨(al_in (tb5 (List.mem_of_getElem? (i := 69) (by rfl))) (by decide +kernel)), (al_in (tb1 (List.mem_of_getElem? (i := 4) (by rfl))) (by decide +kernel)), ⟨by decide +kernel, by decide +kernel, by decide +kernel⟩, by decide⟩
theorem mi_X4_freePlace : Cond.instanceMethod yX4_freePlace ∈ ALLg := (al_in (tb5 (List.mem_of_getElem? (i := 67) (by rfl))) (by decide +kernel))
theorem ms_X4_freePlace : Cond.selects (yX4_freePlace).cls yX4_freePlace yX4_freePlace ∈ ALLg := (al_in (tb5 (List.mem_of_getElem? (i := 68) (by rfl))) (by decide +kernel))
theorem ml_X6_76 : Cond.methodLink RX6 76 yX6_addStitch ∈ ALLg := (al_in (tb5 (List.mem_of_getElem? (i := 70) (by rfl))) (by decide +kernel))
theorem ml_X6_90 : Cond.methodLink RX6 90 yX1_stitchAt ∈ ALLg := (al_in (tb5 (List.mem_of_getElem? (i := 74) (by rfl))) (by decide +kernel))
theorem mx_X6_addStitch : Mx yX6_addStitch cX6_addStitch 5 none 2 := ⟨(al_in (tb5 (List.mem_of_getElem? (i := 73) (by rfl))) (by decide +kernel)), (al_in (tb1 (List.mem_of_getElem? (i := 11) (by rfl))) (by decide +kernel)), ⟨by decide +kernel, by decide +kernel, by decide +kernel⟩, by decide⟩
theorem mi_X6_addStitch : Cond.instanceMethod yX6_addStitch ∈ ALLg := (al_in (tb5 (List.mem_of_getElem? (i := 72) (by rfl))) (by decide +kernel))
theorem ms_X6_addStitch : Cond.selects (yX6_addStitch).cls yX6_addStitch yX6_addStitch ∈ ALLg := (al_in (tb0 (List.mem_of_getElem? (i := 23) (by rfl))) (by decide +kernel))
theorem ml_X6_80 : Cond.methodLink RX6 80 yX4_sortAt ∈ ALLg := (al_in (tb5 (List.mem_of_getElem? (i := 75) (by rfl))) (by decide +kernel))
theorem ml_X6_83 : Cond.methodLink RX6 83 yX6_link ∈ ALLg := (al_in (tb5 (List.mem_of_getElem? (i := 76) (by rfl))) (by decide +kernel))
theorem mx_X6_link : Mx yX6_link cX6_link 3 none 2 := ⟨(al_in (tb5 (List.mem_of_getElem? (i := 79) (by rfl))) (by decide +kernel)), (al_in (tb1 (List.mem_of_getElem? (i := 11) (by rfl))) (by decide +kernel)), ⟨by decide +kernel, by decide +kernel, by decide +kernel⟩, by decide⟩
theorem mi_X6_link : Cond.instanceMethod yX6_link ∈ ALLg := (al_in (tb5 (List.mem_of_getElem? (i := 78) (by rfl))) (by decide +kernel))
theorem ms_X6_link : Cond.selects (yX6_link).cls yX6_link yX6_link ∈ ALLg := (al_in (tb0 (List.mem_of_getElem? (i := 24) (by rfl))) (by decide +kernel))
theorem ml_X6_86 : Cond.methodLink RX6 86 yX6_isRun ∈ ALLg := (al_in (tb5 (List.mem_of_getElem? (i := 80) (by rfl))) (by decide +kernel))
theorem mx_X6_isRun : Mx yX6_isRun cX6_isRun 5 (some .boolean) 2 := ⟨(al_in (tb5 (List.mem_of_getElem? (i := 83) (by rfl))) (by decide +kernel)), (al_in (tb1 (List.mem_of_getElem? (i := 11) (by rfl))) (by decide +kernel)), ⟨by decide +kernel, by decide +kernel, by decide +kernel⟩, by decide⟩
theorem mi_X6_isRun : Cond.instanceMethod yX6_isRun ∈ ALLg := (al_in (tb5 (List.mem_of_getElem? (i := 82) (by rfl))) (by decide +kernel))
theorem ms_X6_isRun : Cond.selects (yX6_isRun).cls yX6_isRun yX6_isRun ∈ ALLg := (al_in (tb0 (List.mem_of_getElem? (i := 25) (by rfl))) (by decide +kernel))
theorem ml_X6_93 : Cond.methodLink RX6 93 yX6_runsAt ∈ ALLg := (al_in (tb5 (List.mem_of_getElem? (i := 232) (by rfl))) (by decide +kernel))
theorem mx_X6_runsAt : Mx yX6_runsAt cX6_runsAt 2 (some .int) 1 := ⟨(al_in (tb5 (List.mem_of_getElem? (i := 235) (by rfl))) (by decide +kernel)), (al_in (tb1 (List.mem_of_getElem? (i := 11) (by rfl))) (by decide +kernel)), ⟨by decide +kernel, by decide +kernel, by decide +kernel⟩, by decide⟩
theorem mi_X6_runsAt : Cond.instanceMethod yX6_runsAt ∈ ALLg := (al_in (tb5 (List.mem_of_getElem? (i := 234) (by rfl))) (by decide +kernel))
theorem ms_X6_runsAt : Cond.selects (yX6_runsAt).cls yX6_runsAt yX6_runsAt ∈ ALLg := (al_in (tb0 (List.mem_of_getElem? (i := 36) (by rfl))) (by decide +kernel))
theorem ml_X6_96 : Cond.methodLink RX6 96 yX1_setStitch ∈ ALLg := (al_in (tb5 (List.mem_of_getElem? (i := 236) (by rfl))) (by decide +kernel))
theorem fl_X5_15 : Fl RX5 15 5 1 false .int := ⟨RX5, TX5, 3, tyX5, ⟨rfl, by decide, inX5, tyX5_ok, nmX5, rfl, by decide +kernel⟩, rfl, (al_in (tb2 (List.mem_of_getElem? (i := 71) (by rfl))) (by decide +kernel))⟩
theorem fl_X5_19 : Fl RX5 19 5 2 false .int := ⟨RX5, TX5, 3, tyX5, ⟨rfl, by decide, inX5, tyX5_ok, nmX5, rfl, by decide +kernel⟩, rfl, (al_in (tb2 (List.mem_of_getElem? (i := 73) (by rfl))) (by decide +kernel))⟩
theorem fl_X5_9 : Fl RX5 9 5 0 true (.array .long) := ⟨RX5, TX5, 3, tyX5, ⟨rfl, by decide, inX5, tyX5_ok, nmX5, rfl, by decide +kernel⟩, rfl, (al_in (tb2 (List.mem_of_getElem? (i := 69) (by rfl))) (by decide +kernel))⟩
theorem ml_X5_22 : Cond.methodLink RX5 22 yJ7_fill_d0a16 ∈ ALLg := (al_in (tb6 (List.mem_of_getElem? (i := 46) (by rfl))) (by decide +kernel))
theorem mx_J7_fill_d0a16 : Mx yJ7_fill_d0a16 cJ7_fill_d0a16 5 none 2 := ⟨(al_in (tb6 (List.mem_of_getElem? (i := 48) (by rfl))) (by decide +kernel)), (al_in (tb1 (List.mem_of_getElem? (i := 21) (by rfl))) (by decide +kernel)), ⟨by decide +kernel, by decide +kernel, by decide +kernel⟩, by decide⟩
theorem mt_J7_fill_d0a16 : Cond.static yJ7_fill_d0a16 ∈ ALLg := (al_in (tb6 (List.mem_of_getElem? (i := 47) (by rfl))) (by decide +kernel))
theorem ml_X5_28 : Cond.methodLink RX5 28 yX5_cutToWidth ∈ ALLg := (al_in (tb6 (List.mem_of_getElem? (i := 61) (by rfl))) (by decide +kernel))
theorem mx_X5_cutToWidth : Mx yX5_cutToWidth cX5_cutToWidth 3 (some .long) 1 := ⟨(al_in (tb6 (List.mem_of_getElem? (i := 64) (by rfl))) (by decide +kernel)), (al_in (tb1 (List.mem_of_getElem? (i := 12) (by rfl))) (by decide +kernel)), ⟨by decide +kernel, by decide +kernel, by decide +kernel⟩, by decide⟩
theorem mi_X5_cutToWidth : Cond.instanceMethod yX5_cutToWidth ∈ ALLg := (al_in (tb6 (List.mem_of_getElem? (i := 63) (by rfl))) (by decide +kernel))
theorem ms_X5_cutToWidth : Cond.selects (yX5_cutToWidth).cls yX5_cutToWidth yX5_cutToWidth ∈ ALLg := (al_in (tb0 (List.mem_of_getElem? (i := 38) (by rfl))) (by decide +kernel))
theorem fl_X0_12 : Fl RX0 12 0 0 true (.object "StitchSays$Pattern") := ⟨RX0, TX0, 6, tyX0, ⟨rfl, by decide, inX0, tyX0_ok, nmX0, rfl, by decide +kernel⟩, rfl, (al_in (tb1 (List.mem_of_getElem? (i := 189) (by rfl))) (by decide +kernel))⟩
theorem ml_X0_50 : Cond.methodLink RX0 50 yX4_takeFrom ∈ ALLg := (al_in (tb6 (List.mem_of_getElem? (i := 25) (by rfl))) (by decide +kernel))
theorem mx_X4_takeFrom : Mx yX4_takeFrom cX4_takeFrom 2 none 1 := ⟨(al_in (tb3 (List.mem_of_getElem? (i := 135) (by rfl))) (by decide +kernel)), (al_in (tb1 (List.mem_of_getElem? (i := 4) (by rfl))) (by decide +kernel)), ⟨by decide +kernel, by decide +kernel, by decide +kernel⟩, by decide⟩
theorem mi_X4_takeFrom : Cond.instanceMethod yX4_takeFrom ∈ ALLg := (al_in (tb3 (List.mem_of_getElem? (i := 133) (by rfl))) (by decide +kernel))
theorem ms_X4_takeFrom : Cond.selects (yX4_takeFrom).cls yX4_takeFrom yX4_takeFrom ∈ ALLg := (al_in (tb3 (List.mem_of_getElem? (i := 134) (by rfl))) (by decide +kernel))
theorem fl_X0_18 : Fl RX0 18 0 1 true (.array .int) := ⟨RX0, TX0, 6, tyX0, ⟨rfl, by decide, inX0, tyX0_ok, nmX0, rfl, by decide +kernel⟩, rfl, (al_in (tb1 (List.mem_of_getElem? (i := 191) (by rfl))) (by decide +kernel))⟩
theorem mo_X0_54 : Cond.methodLink RX0 54 arraycopyName ∈ ALLg := (al_in (tb6 (List.mem_of_getElem? (i := 26) (by rfl))) (by decide +kernel))
theorem fl_X0_24 : Fl RX0 24 0 2 true (.array (.object "StitchSays$Way")) := ⟨RX0, TX0, 6, tyX0, ⟨rfl, by decide, inX0, tyX0_ok, nmX0, rfl, by decide +kernel⟩, rfl, (al_in (tb1 (List.mem_of_getElem? (i := 193) (by rfl))) (by decide +kernel))⟩
theorem ml_X0_60 : Cond.methodLink RX0 60 yX10_takeFrom ∈ ALLg := (al_in (tb6 (List.mem_of_getElem? (i := 27) (by rfl))) (by decide +kernel))
theorem mx_X10_takeFrom : Mx yX10_takeFrom cX10_takeFrom 2 none 1 := ⟨(al_in (tb3 (List.mem_of_getElem? (i := 213) (by rfl))) (by decide +kernel)), (al_in (tb1 (List.mem_of_getElem? (i := 7) (by rfl))) (by decide +kernel)), ⟨by decide +kernel, by decide +kernel, by decide +kernel⟩, by decide⟩
theorem mi_X10_takeFrom : Cond.instanceMethod yX10_takeFrom ∈ ALLg := (al_in (tb3 (List.mem_of_getElem? (i := 211) (by rfl))) (by decide +kernel))
theorem ms_X10_takeFrom : Cond.selects (yX10_takeFrom).cls yX10_takeFrom yX10_takeFrom ∈ ALLg := (al_in (tb3 (List.mem_of_getElem? (i := 212) (by rfl))) (by decide +kernel))
theorem fl_X0_31 : Fl RX0 31 0 3 true (.object "StitchSays$Watcher") := ⟨RX0, TX0, 6, tyX0, ⟨rfl, by decide, inX0, tyX0_ok, nmX0, rfl, by decide +kernel⟩, rfl, (al_in (tb1 (List.mem_of_getElem? (i := 195) (by rfl))) (by decide +kernel))⟩
theorem ml_X0_63 : Cond.methodLink RX0 63 yX9_takeFrom ∈ ALLg := (al_in (tb6 (List.mem_of_getElem? (i := 28) (by rfl))) (by decide +kernel))
theorem mx_X9_takeFrom : Mx yX9_takeFrom cX9_takeFrom 2 none 1 := ⟨(al_in (tb4 (List.mem_of_getElem? (i := 53) (by rfl))) (by decide +kernel)), (al_in (tb1 (List.mem_of_getElem? (i := 5) (by rfl))) (by decide +kernel)), ⟨by decide +kernel, by decide +kernel, by decide +kernel⟩, by decide⟩
theorem mi_X9_takeFrom : Cond.instanceMethod yX9_takeFrom ∈ ALLg := (al_in (tb4 (List.mem_of_getElem? (i := 51) (by rfl))) (by decide +kernel))
theorem ms_X9_takeFrom : Cond.selects (yX9_takeFrom).cls yX9_takeFrom yX9_takeFrom ∈ ALLg := (al_in (tb4 (List.mem_of_getElem? (i := 52) (by rfl))) (by decide +kernel))
theorem fl_X0_38 : Fl RX0 38 0 4 true (.object "StitchSays$Losses") := ⟨RX0, TX0, 6, tyX0, ⟨rfl, by decide, inX0, tyX0_ok, nmX0, rfl, by decide +kernel⟩, rfl, (al_in (tb1 (List.mem_of_getElem? (i := 197) (by rfl))) (by decide +kernel))⟩
theorem ml_X0_66 : Cond.methodLink RX0 66 yX3_takeFrom ∈ ALLg := (al_in (tb6 (List.mem_of_getElem? (i := 29) (by rfl))) (by decide +kernel))
theorem mx_X3_takeFrom : Mx yX3_takeFrom cX3_takeFrom 2 none 1 := ⟨(al_in (tb4 (List.mem_of_getElem? (i := 90) (by rfl))) (by decide +kernel)), (al_in (tb1 (List.mem_of_getElem? (i := 6) (by rfl))) (by decide +kernel)), ⟨by decide +kernel, by decide +kernel, by decide +kernel⟩, by decide⟩
theorem mi_X3_takeFrom : Cond.instanceMethod yX3_takeFrom ∈ ALLg := (al_in (tb4 (List.mem_of_getElem? (i := 88) (by rfl))) (by decide +kernel))
theorem ms_X3_takeFrom : Cond.selects (yX3_takeFrom).cls yX3_takeFrom yX3_takeFrom ∈ ALLg := (al_in (tb4 (List.mem_of_getElem? (i := 89) (by rfl))) (by decide +kernel))
theorem fl_X0_44 : Fl RX0 44 0 5 true (.array (.object "StitchSays$Cloth")) := ⟨RX0, TX0, 6, tyX0, ⟨rfl, by decide, inX0, tyX0_ok, nmX0, rfl, by decide +kernel⟩, rfl, (al_in (tb1 (List.mem_of_getElem? (i := 199) (by rfl))) (by decide +kernel))⟩
theorem ml_X0_69 : Cond.methodLink RX0 69 yX1_takeFrom ∈ ALLg := (al_in (tb6 (List.mem_of_getElem? (i := 30) (by rfl))) (by decide +kernel))
theorem fn_X0_72 : Fn RX0 72 1 1 false .boolean := ⟨RX1, TX1, 2, tyX1, ⟨rfl, by decide, inX1, tyX1_ok, nmX1, rfl, by decide +kernel⟩, "StitchSays", List.mem_of_getElem? (i := 27) (by rfl)⟩
theorem fn_X0_76 : Fn RX0 76 10 0 false .boolean := ⟨RX10, TX10, 7, tyX10, ⟨rfl, by decide, inX10, tyX10_ok, nmX10, rfl, by decide +kernel⟩, "StitchSays", List.mem_of_getElem? (i := 19) (by rfl)⟩
theorem fl_X11_12 : Fl RX11 12 11 0 true (.object "StitchSays$Tape") := ⟨RX11, TX11, 14, tyX11, ⟨rfl, by decide, inX11, tyX11_ok, nmX11, rfl, by decide +kernel⟩, rfl, (al_in (tb2 (List.mem_of_getElem? (i := 83) (by rfl))) (by decide +kernel))⟩
theorem ml_X11_97 : Cond.methodLink RX11 97 yX7_hasRoomFor ∈ ALLg := (al_in (tb2 (List.mem_of_getElem? (i := 130) (by rfl))) (by decide +kernel))
theorem mx_X7_hasRoomFor : Mx yX7_hasRoomFor cX7_hasRoomFor 2 (some .boolean) 1 := ⟨(al_in (tb2 (List.mem_of_getElem? (i := 133) (by rfl))) (by decide +kernel)), (al_in (tb1 (List.mem_of_getElem? (i := 2) (by rfl))) (by decide +kernel)), ⟨by decide +kernel, by decide +kernel, by decide +kernel⟩, by decide⟩
theorem mi_X7_hasRoomFor : Cond.instanceMethod yX7_hasRoomFor ∈ ALLg := (al_in (tb2 (List.mem_of_getElem? (i := 131) (by rfl))) (by decide +kernel))
theorem ms_X7_hasRoomFor : Cond.selects (yX7_hasRoomFor).cls yX7_hasRoomFor yX7_hasRoomFor ∈ ALLg := (al_in (tb2 (List.mem_of_getElem? (i := 132) (by rfl))) (by decide +kernel))
theorem ml_X11_101 : Cond.methodLink RX11 101 yX7_addBytesOf ∈ ALLg := (al_in (tb2 (List.mem_of_getElem? (i := 134) (by rfl))) (by decide +kernel))
theorem mx_X7_addBytesOf : Mx yX7_addBytesOf cX7_addBytesOf 3 none 1 := ⟨(al_in (tb2 (List.mem_of_getElem? (i := 137) (by rfl))) (by decide +kernel)), (al_in (tb1 (List.mem_of_getElem? (i := 2) (by rfl))) (by decide +kernel)), ⟨by decide +kernel, by decide +kernel, by decide +kernel⟩, by decide⟩
theorem mi_X7_addBytesOf : Cond.instanceMethod yX7_addBytesOf ∈ ALLg := (al_in (tb2 (List.mem_of_getElem? (i := 135) (by rfl))) (by decide +kernel))
theorem ms_X7_addBytesOf : Cond.selects (yX7_addBytesOf).cls yX7_addBytesOf yX7_addBytesOf ∈ ALLg := (al_in (tb2 (List.mem_of_getElem? (i := 136) (by rfl))) (by decide +kernel))
theorem fn_X11_105 : Fn RX11 105 7 1 false .int := ⟨RX7, TX7, 7, tyX7, ⟨rfl, by decide, inX7, tyX7_ok, nmX7, rfl, by decide +kernel⟩, "StitchSays", List.mem_of_getElem? (i := 1) (by rfl)⟩
theorem fl_X11_43 : Fl RX11 43 11 5 true (.object "StitchSays$Pattern") := ⟨RX11, TX11, 14, tyX11, ⟨rfl, by decide, inX11, tyX11_ok, nmX11, rfl, by decide +kernel⟩, rfl, (al_in (tb2 (List.mem_of_getElem? (i := 88) (by rfl))) (by decide +kernel))⟩
theorem ml_X11_109 : Cond.methodLink RX11 109 yX4_tell ∈ ALLg := (al_in (tb2 (List.mem_of_getElem? (i := 146) (by rfl))) (by decide +kernel))
theorem mx_X4_tell : Mx yX4_tell cX4_tell 3 (some .boolean) 1 := ⟨(al_in (tb2 (List.mem_of_getElem? (i := 149) (by rfl))) (by decide +kernel)), (al_in (tb1 (List.mem_of_getElem? (i := 4) (by rfl))) (by decide +kernel)), ⟨by decide +kernel, by decide +kernel, by decide +kernel⟩, by decide⟩
theorem mi_X4_tell : Cond.instanceMethod yX4_tell ∈ ALLg := (al_in (tb2 (List.mem_of_getElem? (i := 147) (by rfl))) (by decide +kernel))
theorem ms_X4_tell : Cond.selects (yX4_tell).cls yX4_tell yX4_tell ∈ ALLg := (al_in (tb2 (List.mem_of_getElem? (i := 148) (by rfl))) (by decide +kernel))
theorem ml_X11_113 : Cond.methodLink RX11 113 yX7_empty ∈ ALLg := (al_in (tb3 (List.mem_of_getElem? (i := 128) (by rfl))) (by decide +kernel))
theorem mx_X7_empty : Mx yX7_empty cX7_empty 1 none 0 := ⟨(al_in (tb3 (List.mem_of_getElem? (i := 131) (by rfl))) (by decide +kernel)), (al_in (tb1 (List.mem_of_getElem? (i := 2) (by rfl))) (by decide +kernel)), ⟨by decide +kernel, by decide +kernel, by decide +kernel⟩, by decide⟩
theorem mi_X7_empty : Cond.instanceMethod yX7_empty ∈ ALLg := (al_in (tb3 (List.mem_of_getElem? (i := 129) (by rfl))) (by decide +kernel))
theorem ms_X7_empty : Cond.selects (yX7_empty).cls yX7_empty yX7_empty ∈ ALLg := (al_in (tb3 (List.mem_of_getElem? (i := 130) (by rfl))) (by decide +kernel))
theorem fl_X11_19 : Fl RX11 19 11 1 true (.object "StitchSays$Basket") := ⟨RX11, TX11, 14, tyX11, ⟨rfl, by decide, inX11, tyX11_ok, nmX11, rfl, by decide +kernel⟩, rfl, (al_in (tb2 (List.mem_of_getElem? (i := 84) (by rfl))) (by decide +kernel))⟩
theorem fn_X11_116 : Fn RX11 116 0 0 true (.object "StitchSays$Pattern") := ⟨RX0, TX0, 6, tyX0, ⟨rfl, by decide, inX0, tyX0_ok, nmX0, rfl, by decide +kernel⟩, "StitchSays", List.mem_of_getElem? (i := 29) (by rfl)⟩
theorem ml_X11_119 : Cond.methodLink RX11 119 yX4_takeFrom ∈ ALLg := (al_in (tb3 (List.mem_of_getElem? (i := 132) (by rfl))) (by decide +kernel))
theorem ml_X11_123 : Cond.methodLink RX11 123 yX0_dropCloths ∈ ALLg := (al_in (tb3 (List.mem_of_getElem? (i := 139) (by rfl))) (by decide +kernel))
theorem mx_X0_dropCloths : Mx yX0_dropCloths cX0_dropCloths 2 none 0 := ⟨(al_in (tb3 (List.mem_of_getElem? (i := 142) (by rfl))) (by decide +kernel)), (al_in (tb1 (List.mem_of_getElem? (i := 3) (by rfl))) (by decide +kernel)), ⟨by decide +kernel, by decide +kernel, by decide +kernel⟩, by decide⟩
theorem mi_X0_dropCloths : Cond.instanceMethod yX0_dropCloths ∈ ALLg := (al_in (tb3 (List.mem_of_getElem? (i := 140) (by rfl))) (by decide +kernel))
theorem ms_X0_dropCloths : Cond.selects (yX0_dropCloths).cls yX0_dropCloths yX0_dropCloths ∈ ALLg := (al_in (tb3 (List.mem_of_getElem? (i := 141) (by rfl))) (by decide +kernel))
theorem fn_X11_126 : Fn RX11 126 4 4 false .int := ⟨RX4, TX4, 5, tyX4, ⟨rfl, by decide, inX4, tyX4_ok, nmX4, rfl, by decide +kernel⟩, "StitchSays", List.mem_of_getElem? (i := 13) (by rfl)⟩
theorem ml_X11_129 : Cond.methodLink RX11 129 yX11_tellHand ∈ ALLg := (al_in (tb3 (List.mem_of_getElem? (i := 147) (by rfl))) (by decide +kernel))
theorem ml_X11_387 : Cond.methodLink RX11 387 yX7_start ∈ ALLg := (al_in (tb3 (List.mem_of_getElem? (i := 151) (by rfl))) (by decide +kernel))
theorem sr_X11_390 : (RX11, 390, "hand", 4) ∈ strW := List.mem_of_getElem? (i := 4) (by rfl)
theorem ml_X11_392 : Cond.methodLink RX11 392 yX7_takeWord ∈ ALLg := (al_in (tb3 (List.mem_of_getElem? (i := 153) (by rfl))) (by decide +kernel))
theorem ml_X11_405 : Cond.methodLink RX11 405 yX7_takeSemicolon ∈ ALLg := (al_in (tb3 (List.mem_of_getElem? (i := 158) (by rfl))) (by decide +kernel))
theorem ml_X11_408 : Cond.methodLink RX11 408 yX7_takeEnd ∈ ALLg := (al_in (tb3 (List.mem_of_getElem? (i := 159) (by rfl))) (by decide +kernel))
theorem ml_X11_411 : Cond.methodLink RX11 411 yX7_isFine ∈ ALLg := (al_in (tb3 (List.mem_of_getElem? (i := 163) (by rfl))) (by decide +kernel))
theorem sr_X11_400 : (RX11, 400, "m", 7) ∈ strW := List.mem_of_getElem? (i := 7) (by rfl)
theorem sr_X11_398 : (RX11, 398, "h", 6) ∈ strW := List.mem_of_getElem? (i := 6) (by rfl)
theorem sr_X11_396 : (RX11, 396, "f", 5) ∈ strW := List.mem_of_getElem? (i := 5) (by rfl)
theorem fl_X11_47 : Fl RX11 47 11 6 true (.array .int) := ⟨RX11, TX11, 14, tyX11, ⟨rfl, by decide, inX11, tyX11_ok, nmX11, rfl, by decide +kernel⟩, rfl, (al_in (tb2 (List.mem_of_getElem? (i := 89) (by rfl))) (by decide +kernel))⟩
theorem ml_X11_402 : Cond.methodLink RX11 402 yX7_takeNumber ∈ ALLg := (al_in (tb3 (List.mem_of_getElem? (i := 157) (by rfl))) (by decide +kernel))
theorem mx_X11_tellHand : Mx yX11_tellHand cX11_tellHand 2 (some .boolean) 0 := ⟨(al_in (tb3 (List.mem_of_getElem? (i := 150) (by rfl))) (by decide +kernel)), (al_in (tb1 (List.mem_of_getElem? (i := 1) (by rfl))) (by decide +kernel)), ⟨by decide +kernel, by decide +kernel, by decide +kernel⟩, by decide⟩
theorem mi_X11_tellHand : Cond.instanceMethod yX11_tellHand ∈ ALLg := (al_in (tb3 (List.mem_of_getElem? (i := 149) (by rfl))) (by decide +kernel))
theorem ms_X11_tellHand : Cond.selects (yX11_tellHand).cls yX11_tellHand yX11_tellHand ∈ ALLg := (al_in (tb0 (List.mem_of_getElem? (i := 6) (by rfl))) (by decide +kernel))
theorem fn_X11_133 : Fn RX11 133 0 1 true (.array .int) := ⟨RX0, TX0, 6, tyX0, ⟨rfl, by decide, inX0, tyX0_ok, nmX0, rfl, by decide +kernel⟩, "StitchSays", List.mem_of_getElem? (i := 30) (by rfl)⟩
theorem mo_X11_136 : Cond.methodLink RX11 136 arraycopyName ∈ ALLg := (al_in (tb3 (List.mem_of_getElem? (i := 164) (by rfl))) (by decide +kernel))
theorem ml_X11_142 : Cond.methodLink RX11 142 yX11_isWay ∈ ALLg := (al_in (tb3 (List.mem_of_getElem? (i := 169) (by rfl))) (by decide +kernel))
theorem mx_X11_isWay : Mx yX11_isWay cX11_isWay 1 (some .boolean) 1 := ⟨(al_in (tb3 (List.mem_of_getElem? (i := 171) (by rfl))) (by decide +kernel)), (al_in (tb1 (List.mem_of_getElem? (i := 1) (by rfl))) (by decide +kernel)), ⟨by decide +kernel, by decide +kernel, by decide +kernel⟩, by decide⟩
theorem mt_X11_isWay : Cond.static yX11_isWay ∈ ALLg := (al_in (tb3 (List.mem_of_getElem? (i := 170) (by rfl))) (by decide +kernel))
theorem fl_X11_54 : Fl RX11 54 11 7 true (.object "StitchSays$Way") := ⟨RX11, TX11, 14, tyX11, ⟨rfl, by decide, inX11, tyX11_ok, nmX11, rfl, by decide +kernel⟩, rfl, (al_in (tb2 (List.mem_of_getElem? (i := 90) (by rfl))) (by decide +kernel))⟩
theorem ml_X11_145 : Cond.methodLink RX11 145 yX10_tell ∈ ALLg := (al_in (tb3 (List.mem_of_getElem? (i := 172) (by rfl))) (by decide +kernel))
theorem mx_X10_tell : Mx yX10_tell cX10_tell 2 (some .boolean) 1 := ⟨(al_in (tb3 (List.mem_of_getElem? (i := 175) (by rfl))) (by decide +kernel)), (al_in (tb1 (List.mem_of_getElem? (i := 7) (by rfl))) (by decide +kernel)), ⟨by decide +kernel, by decide +kernel, by decide +kernel⟩, by decide⟩
theorem mi_X10_tell : Cond.instanceMethod yX10_tell ∈ ALLg := (al_in (tb3 (List.mem_of_getElem? (i := 173) (by rfl))) (by decide +kernel))
theorem ms_X10_tell : Cond.selects (yX10_tell).cls yX10_tell yX10_tell ∈ ALLg := (al_in (tb3 (List.mem_of_getElem? (i := 174) (by rfl))) (by decide +kernel))
theorem fn_X11_146 : Fn RX11 146 0 2 true (.array (.object "StitchSays$Way")) := ⟨RX0, TX0, 6, tyX0, ⟨rfl, by decide, inX0, tyX0_ok, nmX0, rfl, by decide +kernel⟩, "StitchSays", List.mem_of_getElem? (i := 31) (by rfl)⟩
theorem ml_X11_150 : Cond.methodLink RX11 150 yX10_takeFrom ∈ ALLg := (al_in (tb3 (List.mem_of_getElem? (i := 210) (by rfl))) (by decide +kernel))
theorem ml_X11_153 : Cond.methodLink RX11 153 yX11_bitsOf ∈ ALLg := (al_in (tb3 (List.mem_of_getElem? (i := 214) (by rfl))) (by decide +kernel))
theorem fl_X11_78 : Fl RX11 78 11 11 true (.object "StitchSays$Walk") := ⟨RX11, TX11, 14, tyX11, ⟨rfl, by decide, inX11, tyX11_ok, nmX11, rfl, by decide +kernel⟩, rfl, (al_in (tb2 (List.mem_of_getElem? (i := 94) (by rfl))) (by decide +kernel))⟩
theorem ml_X11_218 : Cond.methodLink RX11 218 yX8_follow ∈ ALLg := (al_in (tb3 (List.mem_of_getElem? (i := 218) (by rfl))) (by decide +kernel))
theorem mx_X8_follow : Mx yX8_follow cX8_follow 9 none 2 := ⟨(al_in (tb3 (List.mem_of_getElem? (i := 221) (by rfl))) (by decide +kernel)), (al_in (tb1 (List.mem_of_getElem? (i := 10) (by rfl))) (by decide +kernel)), ⟨by decide +kernel, by decide +kernel, by decide +kernel⟩, by decide⟩
theorem mi_X8_follow : Cond.instanceMethod yX8_follow ∈ ALLg := (al_in (tb3 (List.mem_of_getElem? (i := 219) (by rfl))) (by decide +kernel))
theorem ms_X8_follow : Cond.selects (yX8_follow).cls yX8_follow yX8_follow ∈ ALLg := (al_in (tb3 (List.mem_of_getElem? (i := 220) (by rfl))) (by decide +kernel))
theorem fn_X11_222 : Fn RX11 222 8 4 false .int := ⟨RX8, TX8, 5, tyX8, ⟨rfl, by decide, inX8, tyX8_ok, nmX8, rfl, by decide +kernel⟩, "StitchSays", List.mem_of_getElem? (i := 43) (by rfl)⟩
theorem mx_X11_bitsOf : Mx yX11_bitsOf cX11_bitsOf 2 (some .int) 1 := ⟨(al_in (tb3 (List.mem_of_getElem? (i := 217) (by rfl))) (by decide +kernel)), (al_in (tb1 (List.mem_of_getElem? (i := 1) (by rfl))) (by decide +kernel)), ⟨by decide +kernel, by decide +kernel, by decide +kernel⟩, by decide⟩
theorem mi_X11_bitsOf : Cond.instanceMethod yX11_bitsOf ∈ ALLg := (al_in (tb3 (List.mem_of_getElem? (i := 216) (by rfl))) (by decide +kernel))
theorem ms_X11_bitsOf : Cond.selects (yX11_bitsOf).cls yX11_bitsOf yX11_bitsOf ∈ ALLg := (al_in (tb0 (List.mem_of_getElem? (i := 8) (by rfl))) (by decide +kernel))
theorem fl_X11_61 : Fl RX11 61 11 8 true (.object "StitchSays$Watcher") := ⟨RX11, TX11, 14, tyX11, ⟨rfl, by decide, inX11, tyX11_ok, nmX11, rfl, by decide +kernel⟩, rfl, (al_in (tb2 (List.mem_of_getElem? (i := 91) (by rfl))) (by decide +kernel))⟩
theorem ml_X11_157 : Cond.methodLink RX11 157 yX9_tell ∈ ALLg := (al_in (tb3 (List.mem_of_getElem? (i := 237) (by rfl))) (by decide +kernel))
theorem mx_X9_tell : Mx yX9_tell cX9_tell 3 (some .boolean) 1 := ⟨(al_in (tb4 (List.mem_of_getElem? (i := 0) (by rfl))) (by decide +kernel)), (al_in (tb1 (List.mem_of_getElem? (i := 5) (by rfl))) (by decide +kernel)), ⟨by decide +kernel, by decide +kernel, by decide +kernel⟩, by decide⟩
theorem mi_X9_tell : Cond.instanceMethod yX9_tell ∈ ALLg := (al_in (tb3 (List.mem_of_getElem? (i := 238) (by rfl))) (by decide +kernel))
theorem ms_X9_tell : Cond.selects (yX9_tell).cls yX9_tell yX9_tell ∈ ALLg := (al_in (tb3 (List.mem_of_getElem? (i := 239) (by rfl))) (by decide +kernel))
theorem fn_X11_158 : Fn RX11 158 0 3 true (.object "StitchSays$Watcher") := ⟨RX0, TX0, 6, tyX0, ⟨rfl, by decide, inX0, tyX0_ok, nmX0, rfl, by decide +kernel⟩, "StitchSays", List.mem_of_getElem? (i := 32) (by rfl)⟩
theorem ml_X11_161 : Cond.methodLink RX11 161 yX9_takeFrom ∈ ALLg := (al_in (tb4 (List.mem_of_getElem? (i := 50) (by rfl))) (by decide +kernel))
theorem fn_X11_164 : Fn RX11 164 9 2 false .int := ⟨RX9, TX9, 3, tyX9, ⟨rfl, by decide, inX9, tyX9_ok, nmX9, rfl, by decide +kernel⟩, "StitchSays", List.mem_of_getElem? (i := 15) (by rfl)⟩
theorem fl_X11_68 : Fl RX11 68 11 9 true (.object "StitchSays$Losses") := ⟨RX11, TX11, 14, tyX11, ⟨rfl, by decide, inX11, tyX11_ok, nmX11, rfl, by decide +kernel⟩, rfl, (al_in (tb2 (List.mem_of_getElem? (i := 92) (by rfl))) (by decide +kernel))⟩
theorem ml_X11_167 : Cond.methodLink RX11 167 yX3_tell ∈ ALLg := (al_in (tb4 (List.mem_of_getElem? (i := 59) (by rfl))) (by decide +kernel))
theorem mx_X3_tell : Mx yX3_tell cX3_tell 3 (some .boolean) 1 := ⟨(al_in (tb4 (List.mem_of_getElem? (i := 62) (by rfl))) (by decide +kernel)), (al_in (tb1 (List.mem_of_getElem? (i := 6) (by rfl))) (by decide +kernel)), ⟨by decide +kernel, by decide +kernel, by decide +kernel⟩, by decide⟩
theorem mi_X3_tell : Cond.instanceMethod yX3_tell ∈ ALLg := (al_in (tb4 (List.mem_of_getElem? (i := 60) (by rfl))) (by decide +kernel))
theorem ms_X3_tell : Cond.selects (yX3_tell).cls yX3_tell yX3_tell ∈ ALLg := (al_in (tb4 (List.mem_of_getElem? (i := 61) (by rfl))) (by decide +kernel))
theorem fn_X11_168 : Fn RX11 168 0 4 true (.object "StitchSays$Losses") := ⟨RX0, TX0, 6, tyX0, ⟨rfl, by decide, inX0, tyX0_ok, nmX0, rfl, by decide +kernel⟩, "StitchSays", List.mem_of_getElem? (i := 33) (by rfl)⟩
theorem ml_X11_171 : Cond.methodLink RX11 171 yX3_takeFrom ∈ ALLg := (al_in (tb4 (List.mem_of_getElem? (i := 87) (by rfl))) (by decide +kernel))
theorem fn_X11_174 : Fn RX11 174 3 3 false .int := ⟨RX3, TX3, 4, tyX3, ⟨rfl, by decide, inX3, tyX3_ok, nmX3, rfl, by decide +kernel⟩, "StitchSays", List.mem_of_getElem? (i := 17) (by rfl)⟩
theorem fn_X11_175 : Fn RX11 175 7 5 false .int := ⟨RX7, TX7, 7, tyX7, ⟨rfl, by decide, inX7, tyX7_ok, nmX7, rfl, by decide +kernel⟩, "StitchSays", List.mem_of_getElem? (i := 3) (by rfl)⟩
theorem fn_X11_178 : Fn RX11 178 7 6 false .int := ⟨RX7, TX7, 7, tyX7, ⟨rfl, by decide, inX7, tyX7_ok, nmX7, rfl, by decide +kernel⟩, "StitchSays", List.mem_of_getElem? (i := 4) (by rfl)⟩
theorem ml_X11_181 : Cond.methodLink RX11 181 yX11_isCloth ∈ ALLg := (al_in (tb4 (List.mem_of_getElem? (i := 100) (by rfl))) (by decide +kernel))
theorem mx_X11_isCloth : Mx yX11_isCloth cX11_isCloth 1 (some .boolean) 1 := ⟨(al_in (tb4 (List.mem_of_getElem? (i := 102) (by rfl))) (by decide +kernel)), (al_in (tb1 (List.mem_of_getElem? (i := 1) (by rfl))) (by decide +kernel)), ⟨by decide +kernel, by decide +kernel, by decide +kernel⟩, by decide⟩
theorem mt_X11_isCloth : Cond.static yX11_isCloth ∈ ALLg := (al_in (tb4 (List.mem_of_getElem? (i := 101) (by rfl))) (by decide +kernel))
theorem ml_X11_184 : Cond.methodLink RX11 184 yX11_isSeed ∈ ALLg := (al_in (tb4 (List.mem_of_getElem? (i := 103) (by rfl))) (by decide +kernel))
theorem kc_X11_385 : Cond.constant RX11 385 2000000000 ∈ ALLg := (al_in (tb4 (List.mem_of_getElem? (i := 106) (by rfl))) (by decide +kernel))
theorem mx_X11_isSeed : Mx yX11_isSeed cX11_isSeed 1 (some .boolean) 1 := ⟨(al_in (tb4 (List.mem_of_getElem? (i := 105) (by rfl))) (by decide +kernel)), (al_in (tb1 (List.mem_of_getElem? (i := 1) (by rfl))) (by decide +kernel)), ⟨by decide +kernel, by decide +kernel, by decide +kernel⟩, by decide⟩
theorem mt_X11_isSeed : Cond.static yX11_isSeed ∈ ALLg := (al_in (tb4 (List.mem_of_getElem? (i := 104) (by rfl))) (by decide +kernel))
theorem ml_X11_187 : Cond.methodLink RX11 187 yX4_isThere ∈ ALLg := (al_in (tb4 (List.mem_of_getElem? (i := 107) (by rfl))) (by decide +kernel))
theorem mx_X4_isThere : Mx yX4_isThere cX4_isThere 1 (some .boolean) 0 := ⟨(al_in (tb4 (List.mem_of_getElem? (i := 110) (by rfl))) (by decide +kernel)), (al_in (tb1 (List.mem_of_getElem? (i := 4) (by rfl))) (by decide +kernel)), ⟨by decide +kernel, by decide +kernel, by decide +kernel⟩, by decide⟩
theorem mi_X4_isThere : Cond.instanceMethod yX4_isThere ∈ ALLg := (al_in (tb4 (List.mem_of_getElem? (i := 108) (by rfl))) (by decide +kernel))
theorem ms_X4_isThere : Cond.selects (yX4_isThere).cls yX4_isThere yX4_isThere ∈ ALLg := (al_in (tb4 (List.mem_of_getElem? (i := 109) (by rfl))) (by decide +kernel))
theorem fn_X11_190 : Fn RX11 190 0 5 true (.array (.object "StitchSays$Cloth")) := ⟨RX0, TX0, 6, tyX0, ⟨rfl, by decide, inX0, tyX0_ok, nmX0, rfl, by decide +kernel⟩, "StitchSays", List.mem_of_getElem? (i := 34) (by rfl)⟩
theorem ml_X11_194 : Cond.methodLink RX11 194 yX1_knitBy ∈ ALLg := (al_in (tb4 (List.mem_of_getElem? (i := 111) (by rfl))) (by decide +kernel))
theorem mx_X1_knitBy : Mx yX1_knitBy cX1_knitBy 10 (some .int) 3 := ⟨(al_in (tb4 (List.mem_of_getElem? (i := 114) (by rfl))) (by decide +kernel)), (al_in (tb1 (List.mem_of_getElem? (i := 8) (by rfl))) (by decide +kernel)), ⟨by decide +kernel, by decide +kernel, by decide +kernel⟩, by decide⟩
theorem mi_X1_knitBy : Cond.instanceMethod yX1_knitBy ∈ ALLg := (al_in (tb4 (List.mem_of_getElem? (i := 112) (by rfl))) (by decide +kernel))
theorem ms_X1_knitBy : Cond.selects (yX1_knitBy).cls yX1_knitBy yX1_knitBy ∈ ALLg := (al_in (tb4 (List.mem_of_getElem? (i := 113) (by rfl))) (by decide +kernel))
theorem ml_X11_198 : Cond.methodLink RX11 198 yX11_refusalOfReading ∈ ALLg := (al_in (tb4 (List.mem_of_getElem? (i := 134) (by rfl))) (by decide +kernel))
theorem ml_X11_239 : Cond.methodLink RX11 239 yX11_hasCloth ∈ ALLg := (al_in (tb4 (List.mem_of_getElem? (i := 138) (by rfl))) (by decide +kernel))
theorem fn_X11_386 : Fn RX11 386 1 1 false .boolean := ⟨RX1, TX1, 2, tyX1, ⟨rfl, by decide, inX1, tyX1_ok, nmX1, rfl, by decide +kernel⟩, "StitchSays", List.mem_of_getElem? (i := 28) (by rfl)⟩
theorem mx_X11_hasCloth : Mx yX11_hasCloth cX11_hasCloth 2 (some .boolean) 1 := ⟨(al_in (tb4 (List.mem_of_getElem? (i := 141) (by rfl))) (by decide +kernel)), (al_in (tb1 (List.mem_of_getElem? (i := 1) (by rfl))) (by decide +kernel)), ⟨by decide +kernel, by decide +kernel, by decide +kernel⟩, by decide⟩
theorem mi_X11_hasCloth : Cond.instanceMethod yX11_hasCloth ∈ ALLg := (al_in (tb4 (List.mem_of_getElem? (i := 140) (by rfl))) (by decide +kernel))
theorem ms_X11_hasCloth : Cond.selects (yX11_hasCloth).cls yX11_hasCloth yX11_hasCloth ∈ ALLg := (al_in (tb0 (List.mem_of_getElem? (i := 16) (by rfl))) (by decide +kernel))
theorem fn_X11_232 : Fn RX11 232 10 0 false .boolean := ⟨RX10, TX10, 7, tyX10, ⟨rfl, by decide, inX10, tyX10_ok, nmX10, rfl, by decide +kernel⟩, "StitchSays", List.mem_of_getElem? (i := 20) (by rfl)⟩
theorem mx_X11_refusalOfReading : Mx yX11_refusalOfReading cX11_refusalOfReading 3 (some .int) 2 := ⟨(al_in (tb4 (List.mem_of_getElem? (i := 137) (by rfl))) (by decide +kernel)), (al_in (tb1 (List.mem_of_getElem? (i := 1) (by rfl))) (by decide +kernel)), ⟨by decide +kernel, by decide +kernel, by decide +kernel⟩, by decide⟩
theorem mi_X11_refusalOfReading : Cond.instanceMethod yX11_refusalOfReading ∈ ALLg := (al_in (tb4 (List.mem_of_getElem? (i := 136) (by rfl))) (by decide +kernel))
theorem ms_X11_refusalOfReading : Cond.selects (yX11_refusalOfReading).cls yX11_refusalOfReading yX11_refusalOfReading ∈ ALLg := (al_in (tb0 (List.mem_of_getElem? (i := 15) (by rfl))) (by decide +kernel))
theorem ml_X11_202 : Cond.methodLink RX11 202 yX11_putTape ∈ ALLg := (al_in (tb4 (List.mem_of_getElem? (i := 142) (by rfl))) (by decide +kernel))
theorem ml_X11_414 : Cond.methodLink RX11 414 yX7_isWords ∈ ALLg := (al_in (tb4 (List.mem_of_getElem? (i := 146) (by rfl))) (by decide +kernel))
theorem mx_X7_isWords : Mx yX7_isWords cX7_isWords 1 (some .boolean) 0 := ⟨(al_in (tb4 (List.mem_of_getElem? (i := 149) (by rfl))) (by decide +kernel)), (al_in (tb1 (List.mem_of_getElem? (i := 2) (by rfl))) (by decide +kernel)), ⟨by decide +kernel, by decide +kernel, by decide +kernel⟩, by decide⟩
theorem mi_X7_isWords : Cond.instanceMethod yX7_isWords ∈ ALLg := (al_in (tb4 (List.mem_of_getElem? (i := 147) (by rfl))) (by decide +kernel))
theorem ms_X7_isWords : Cond.selects (yX7_isWords).cls yX7_isWords yX7_isWords ∈ ALLg := (al_in (tb4 (List.mem_of_getElem? (i := 148) (by rfl))) (by decide +kernel))
theorem ml_X11_282 : Cond.methodLink RX11 282 yX8_hasRoomFor ∈ ALLg := (al_in (tb4 (List.mem_of_getElem? (i := 150) (by rfl))) (by decide +kernel))
theorem mx_X8_hasRoomFor : Mx yX8_hasRoomFor cX8_hasRoomFor 2 (some .boolean) 1 := ⟨(al_in (tb4 (List.mem_of_getElem? (i := 153) (by rfl))) (by decide +kernel)), (al_in (tb1 (List.mem_of_getElem? (i := 10) (by rfl))) (by decide +kernel)), ⟨by decide +kernel, by decide +kernel, by decide +kernel⟩, by decide⟩
theorem mi_X8_hasRoomFor : Cond.instanceMethod yX8_hasRoomFor ∈ ALLg := (al_in (tb4 (List.mem_of_getElem? (i := 151) (by rfl))) (by decide +kernel))
theorem ms_X8_hasRoomFor : Cond.selects (yX8_hasRoomFor).cls yX8_hasRoomFor yX8_hasRoomFor ∈ ALLg := (al_in (tb4 (List.mem_of_getElem? (i := 152) (by rfl))) (by decide +kernel))
theorem fl_X11_72 : Fl RX11 72 11 10 true (.object "StitchSays$Letters") := ⟨RX11, TX11, 14, tyX11, ⟨rfl, by decide, inX11, tyX11_ok, nmX11, rfl, by decide +kernel⟩, rfl, (al_in (tb2 (List.mem_of_getElem? (i := 93) (by rfl))) (by decide +kernel))⟩
theorem ml_X11_417 : Cond.methodLink RX11 417 yX2_takeTape ∈ ALLg := (al_in (tb4 (List.mem_of_getElem? (i := 154) (by rfl))) (by decide +kernel))
theorem mx_X2_takeTape : Mx yX2_takeTape cX2_takeTape 4 none 1 := ⟨(al_in (tb4 (List.mem_of_getElem? (i := 157) (by rfl))) (by decide +kernel)), (al_in (tb1 (List.mem_of_getElem? (i := 9) (by rfl))) (by decide +kernel)), ⟨by decide +kernel, by decide +kernel, by decide +kernel⟩, by decide⟩
theorem mi_X2_takeTape : Cond.instanceMethod yX2_takeTape ∈ ALLg := (al_in (tb4 (List.mem_of_getElem? (i := 155) (by rfl))) (by decide +kernel))
theorem ms_X2_takeTape : Cond.selects (yX2_takeTape).cls yX2_takeTape yX2_takeTape ∈ ALLg := (al_in (tb4 (List.mem_of_getElem? (i := 156) (by rfl))) (by decide +kernel))
theorem ml_X11_283 : Cond.methodLink RX11 283 yX2_weaveInto ∈ ALLg := (al_in (tb4 (List.mem_of_getElem? (i := 163) (by rfl))) (by decide +kernel))
theorem mx_X2_weaveInto : Mx yX2_weaveInto cX2_weaveInto 9 (some .int) 3 := ⟨(al_in (tb4 (List.mem_of_getElem? (i := 166) (by rfl))) (by decide +kernel)), (al_in (tb1 (List.mem_of_getElem? (i := 9) (by rfl))) (by decide +kernel)), ⟨by decide +kernel, by decide +kernel, by decide +kernel⟩, by decide⟩
theorem mi_X2_weaveInto : Cond.instanceMethod yX2_weaveInto ∈ ALLg := (al_in (tb4 (List.mem_of_getElem? (i := 164) (by rfl))) (by decide +kernel))
theorem ms_X2_weaveInto : Cond.selects (yX2_weaveInto).cls yX2_weaveInto yX2_weaveInto ∈ ALLg := (al_in (tb4 (List.mem_of_getElem? (i := 165) (by rfl))) (by decide +kernel))
theorem mx_X11_putTape : Mx yX11_putTape cX11_putTape 3 (some .int) 2 := ⟨(al_in (tb4 (List.mem_of_getElem? (i := 145) (by rfl))) (by decide +kernel)), (al_in (tb1 (List.mem_of_getElem? (i := 1) (by rfl))) (by decide +kernel)), ⟨by decide +kernel, by decide +kernel, by decide +kernel⟩, by decide⟩
theorem mi_X11_putTape : Cond.instanceMethod yX11_putTape ∈ ALLg := (al_in (tb4 (List.mem_of_getElem? (i := 144) (by rfl))) (by decide +kernel))
theorem ms_X11_putTape : Cond.selects (yX11_putTape).cls yX11_putTape yX11_putTape ∈ ALLg := (al_in (tb0 (List.mem_of_getElem? (i := 17) (by rfl))) (by decide +kernel))
theorem ml_X11_206 : Cond.methodLink RX11 206 yX11_saysByWay ∈ ALLg := (al_in (tb4 (List.mem_of_getElem? (i := 201) (by rfl))) (by decide +kernel))
theorem ml_X11_421 : Cond.methodLink RX11 421 yX2_hear ∈ ALLg := (al_in (tb4 (List.mem_of_getElem? (i := 205) (by rfl))) (by decide +kernel))
theorem mx_X2_hear : Mx yX2_hear cX2_hear 5 (some .boolean) 2 := ⟨(al_in (tb4 (List.mem_of_getElem? (i := 208) (by rfl))) (by decide +kernel)), (al_in (tb1 (List.mem_of_getElem? (i := 9) (by rfl))) (by decide +kernel)), ⟨by decide +kernel, by decide +kernel, by decide +kernel⟩, by decide⟩
theorem mi_X2_hear : Cond.instanceMethod yX2_hear ∈ ALLg := (al_in (tb4 (List.mem_of_getElem? (i := 206) (by rfl))) (by decide +kernel))
theorem ms_X2_hear : Cond.selects (yX2_hear).cls yX2_hear yX2_hear ∈ ALLg := (al_in (tb4 (List.mem_of_getElem? (i := 207) (by rfl))) (by decide +kernel))
theorem mx_X11_saysByWay : Mx yX11_saysByWay cX11_saysByWay 3 (some .boolean) 2 := ⟨(al_in (tb4 (List.mem_of_getElem? (i := 204) (by rfl))) (by decide +kernel)), (al_in (tb1 (List.mem_of_getElem? (i := 1) (by rfl))) (by decide +kernel)), ⟨by decide +kernel, by decide +kernel, by decide +kernel⟩, by decide⟩
theorem mi_X11_saysByWay : Cond.instanceMethod yX11_saysByWay ∈ ALLg := (al_in (tb4 (List.mem_of_getElem? (i := 203) (by rfl))) (by decide +kernel))
theorem ms_X11_saysByWay : Cond.selects (yX11_saysByWay).cls yX11_saysByWay yX11_saysByWay ∈ ALLg := (al_in (tb0 (List.mem_of_getElem? (i := 20) (by rfl))) (by decide +kernel))
theorem fl_X11_30 : Fl RX11 30 11 3 true (.object "StitchSays$Letters") := ⟨RX11, TX11, 14, tyX11, ⟨rfl, by decide, inX11, tyX11_ok, nmX11, rfl, by decide +kernel⟩, rfl, (al_in (tb2 (List.mem_of_getElem? (i := 86) (by rfl))) (by decide +kernel))⟩
theorem ml_X11_210 : Cond.methodLink RX11 210 yX2_takeFrom ∈ ALLg := (al_in (tb4 (List.mem_of_getElem? (i := 217) (by rfl))) (by decide +kernel))
theorem mx_X2_takeFrom : Mx yX2_takeFrom cX2_takeFrom 2 none 1 := ⟨(al_in (tb4 (List.mem_of_getElem? (i := 220) (by rfl))) (by decide +kernel)), (al_in (tb1 (List.mem_of_getElem? (i := 9) (by rfl))) (by decide +kernel)), ⟨by decide +kernel, by decide +kernel, by decide +kernel⟩, by decide⟩
theorem mi_X2_takeFrom : Cond.instanceMethod yX2_takeFrom ∈ ALLg := (al_in (tb4 (List.mem_of_getElem? (i := 218) (by rfl))) (by decide +kernel))
theorem ms_X2_takeFrom : Cond.selects (yX2_takeFrom).cls yX2_takeFrom yX2_takeFrom ∈ ALLg := (al_in (tb4 (List.mem_of_getElem? (i := 219) (by rfl))) (by decide +kernel))
theorem fn_X11_213 : Fn RX11 213 2 1 false .int := ⟨RX2, TX2, 2, tyX2, ⟨rfl, by decide, inX2, tyX2_ok, nmX2, rfl, by decide +kernel⟩, "StitchSays", List.mem_of_getElem? (i := 36) (by rfl)⟩
theorem ml_X11_214 : Cond.methodLink RX11 214 yX2_byteOf ∈ ALLg := (al_in (tb4 (List.mem_of_getElem? (i := 226) (by rfl))) (by decide +kernel))
theorem mx_X2_byteOf : Mx yX2_byteOf cX2_byteOf 3 (some .int) 1 := ⟨(al_in (tb4 (List.mem_of_getElem? (i := 229) (by rfl))) (by decide +kernel)), (al_in (tb1 (List.mem_of_getElem? (i := 9) (by rfl))) (by decide +kernel)), ⟨by decide +kernel, by decide +kernel, by decide +kernel⟩, by decide⟩
theorem mi_X2_byteOf : Cond.instanceMethod yX2_byteOf ∈ ALLg := (al_in (tb4 (List.mem_of_getElem? (i := 227) (by rfl))) (by decide +kernel))
theorem ms_X2_byteOf : Cond.selects (yX2_byteOf).cls yX2_byteOf yX2_byteOf ∈ ALLg := (al_in (tb4 (List.mem_of_getElem? (i := 228) (by rfl))) (by decide +kernel))
theorem ml_X11_225 : Cond.methodLink RX11 225 yX8_bitTells ∈ ALLg := (al_in (tb4 (List.mem_of_getElem? (i := 234) (by rfl))) (by decide +kernel))
theorem ml_X11_229 : Cond.methodLink RX11 229 yX11_refusalOfCloth ∈ ALLg := (al_in (tb5 (List.mem_of_getElem? (i := 3) (by rfl))) (by decide +kernel))
theorem mx_X11_refusalOfCloth : Mx yX11_refusalOfCloth cX11_refusalOfCloth 2 (some .int) 1 := ⟨(al_in (tb5 (List.mem_of_getElem? (i := 6) (by rfl))) (by decide +kernel)), (al_in (tb1 (List.mem_of_getElem? (i := 1) (by rfl))) (by decide +kernel)), ⟨by decide +kernel, by decide +kernel, by decide +kernel⟩, by decide⟩
theorem mi_X11_refusalOfCloth : Cond.instanceMethod yX11_refusalOfCloth ∈ ALLg := (al_in (tb5 (List.mem_of_getElem? (i := 5) (by rfl))) (by decide +kernel))
theorem ms_X11_refusalOfCloth : Cond.selects (yX11_refusalOfCloth).cls yX11_refusalOfCloth yX11_refusalOfCloth ∈ ALLg := (al_in (tb0 (List.mem_of_getElem? (i := 21) (by rfl))) (by decide +kernel))
theorem ml_X11_236 : Cond.methodLink RX11 236 yX4_placeOf ∈ ALLg := (al_in (tb5 (List.mem_of_getElem? (i := 11) (by rfl))) (by decide +kernel))
theorem ml_X11_242 : Cond.methodLink RX11 242 yX1_stitchAt ∈ ALLg := (al_in (tb5 (List.mem_of_getElem? (i := 12) (by rfl))) (by decide +kernel))
theorem ml_X11_245 : Cond.methodLink RX11 245 yX4_sortAt ∈ ALLg := (al_in (tb5 (List.mem_of_getElem? (i := 17) (by rfl))) (by decide +kernel))
theorem ml_X11_248 : Cond.methodLink RX11 248 yX11_refusalOfWay ∈ ALLg := (al_in (tb5 (List.mem_of_getElem? (i := 22) (by rfl))) (by decide +kernel))
theorem mx_X11_refusalOfWay : Mx yX11_refusalOfWay cX11_refusalOfWay 2 (some .int) 1 := ⟨(al_in (tb5 (List.mem_of_getElem? (i := 25) (by rfl))) (by decide +kernel)), (al_in (tb1 (List.mem_of_getElem? (i := 1) (by rfl))) (by decide +kernel)), ⟨by decide +kernel, by decide +kernel, by decide +kernel⟩, by decide⟩
theorem mi_X11_refusalOfWay : Cond.instanceMethod yX11_refusalOfWay ∈ ALLg := (al_in (tb5 (List.mem_of_getElem? (i := 24) (by rfl))) (by decide +kernel))
theorem ms_X11_refusalOfWay : Cond.selects (yX11_refusalOfWay).cls yX11_refusalOfWay yX11_refusalOfWay ∈ ALLg := (al_in (tb0 (List.mem_of_getElem? (i := 22) (by rfl))) (by decide +kernel))
theorem ml_X11_251 : Cond.methodLink RX11 251 yX8_placeAt ∈ ALLg := (al_in (tb5 (List.mem_of_getElem? (i := 26) (by rfl))) (by decide +kernel))
theorem ml_X11_254 : Cond.methodLink RX11 254 yX4_rowOf ∈ ALLg := (al_in (tb5 (List.mem_of_getElem? (i := 27) (by rfl))) (by decide +kernel))
theorem ml_X11_257 : Cond.methodLink RX11 257 yX4_columnOf ∈ ALLg := (al_in (tb5 (List.mem_of_getElem? (i := 31) (by rfl))) (by decide +kernel))
theorem ml_X11_260 : Cond.methodLink RX11 260 yJ9_max_7cf53 ∈ ALLg := (al_in (tb5 (List.mem_of_getElem? (i := 43) (by rfl))) (by decide +kernel))
theorem mm_X11_260 : Cond.methodLink RX11 260 Lib.Math.max.name ∈ ALLg := (al_in (tb5 (List.mem_of_getElem? (i := 43) (by rfl))) (by decide +kernel))
theorem fl_X11_92 : Fl RX11 92 11 13 true (.object "StitchSays$Tally") := ⟨RX11, TX11, 14, tyX11, ⟨rfl, by decide, inX11, tyX11_ok, nmX11, rfl, by decide +kernel⟩, rfl, (al_in (tb2 (List.mem_of_getElem? (i := 96) (by rfl))) (by decide +kernel))⟩
theorem ml_X11_265 : Cond.methodLink RX11 265 yX6_countOver ∈ ALLg := (al_in (tb5 (List.mem_of_getElem? (i := 48) (by rfl))) (by decide +kernel))
theorem mx_X6_countOver : Mx yX6_countOver cX6_countOver 6 none 2 := ⟨(al_in (tb5 (List.mem_of_getElem? (i := 51) (by rfl))) (by decide +kernel)), (al_in (tb1 (List.mem_of_getElem? (i := 11) (by rfl))) (by decide +kernel)), ⟨by decide +kernel, by decide +kernel, by decide +kernel⟩, by decide⟩
theorem mi_X6_countOver : Cond.instanceMethod yX6_countOver ∈ ALLg := (al_in (tb5 (List.mem_of_getElem? (i := 49) (by rfl))) (by decide +kernel))
theorem ms_X6_countOver : Cond.selects (yX6_countOver).cls yX6_countOver yX6_countOver ∈ ALLg := (al_in (tb5 (List.mem_of_getElem? (i := 50) (by rfl))) (by decide +kernel))
theorem ml_X11_269 : Cond.methodLink RX11 269 yX6_valueOf ∈ ALLg := (al_in (tb5 (List.mem_of_getElem? (i := 84) (by rfl))) (by decide +kernel))
theorem ml_X11_272 : Cond.methodLink RX11 272 yX11_lineThatStops ∈ ALLg := (al_in (tb5 (List.mem_of_getElem? (i := 100) (by rfl))) (by decide +kernel))
theorem ml_X11_425 : Cond.methodLink RX11 425 yX9_lineThatStops ∈ ALLg := (al_in (tb5 (List.mem_of_getElem? (i := 104) (by rfl))) (by decide +kernel))
theorem mx_X9_lineThatStops : Mx yX9_lineThatStops cX9_lineThatStops 7 (some .int) 1 := ⟨(al_in (tb5 (List.mem_of_getElem? (i := 107) (by rfl))) (by decide +kernel)), (al_in (tb1 (List.mem_of_getElem? (i := 5) (by rfl))) (by decide +kernel)), ⟨by decide +kernel, by decide +kernel, by decide +kernel⟩, by decide⟩
theorem mi_X9_lineThatStops : Cond.instanceMethod yX9_lineThatStops ∈ ALLg := (al_in (tb5 (List.mem_of_getElem? (i := 105) (by rfl))) (by decide +kernel))
theorem ms_X9_lineThatStops : Cond.selects (yX9_lineThatStops).cls yX9_lineThatStops yX9_lineThatStops ∈ ALLg := (al_in (tb5 (List.mem_of_getElem? (i := 106) (by rfl))) (by decide +kernel))
theorem mx_X11_lineThatStops : Mx yX11_lineThatStops cX11_lineThatStops 2 (some .int) 1 := ⟨(al_in (tb5 (List.mem_of_getElem? (i := 103) (by rfl))) (by decide +kernel)), (al_in (tb1 (List.mem_of_getElem? (i := 1) (by rfl))) (by decide +kernel)), ⟨by decide +kernel, by decide +kernel, by decide +kernel⟩, by decide⟩
theorem mi_X11_lineThatStops : Cond.instanceMethod yX11_lineThatStops ∈ ALLg := (al_in (tb5 (List.mem_of_getElem? (i := 102) (by rfl))) (by decide +kernel))
theorem ms_X11_lineThatStops : Cond.selects (yX11_lineThatStops).cls yX11_lineThatStops yX11_lineThatStops ∈ ALLg := (al_in (tb0 (List.mem_of_getElem? (i := 28) (by rfl))) (by decide +kernel))
theorem ml_X11_276 : Cond.methodLink RX11 276 yX11_isManyKnitted ∈ ALLg := (al_in (tb5 (List.mem_of_getElem? (i := 131) (by rfl))) (by decide +kernel))
theorem mx_X11_isManyKnitted : Mx yX11_isManyKnitted cX11_isManyKnitted 1 (some .boolean) 1 := ⟨(al_in (tb5 (List.mem_of_getElem? (i := 133) (by rfl))) (by decide +kernel)), (al_in (tb1 (List.mem_of_getElem? (i := 1) (by rfl))) (by decide +kernel)), ⟨by decide +kernel, by decide +kernel, by decide +kernel⟩, by decide⟩
theorem mt_X11_isManyKnitted : Cond.static yX11_isManyKnitted ∈ ALLg := (al_in (tb5 (List.mem_of_getElem? (i := 132) (by rfl))) (by decide +kernel))
theorem fl_X11_85 : Fl RX11 85 11 12 true (.object "StitchSays$Cloth") := ⟨RX11, TX11, 14, tyX11, ⟨rfl, by decide, inX11, tyX11_ok, nmX11, rfl, by decide +kernel⟩, rfl, (al_in (tb2 (List.mem_of_getElem? (i := 95) (by rfl))) (by decide +kernel))⟩
theorem ml_X11_279 : Cond.methodLink RX11 279 yX2_isSure ∈ ALLg := (al_in (tb5 (List.mem_of_getElem? (i := 138) (by rfl))) (by decide +kernel))
theorem mx_X2_isSure : Mx yX2_isSure cX2_isSure 2 (some .boolean) 0 := ⟨(al_in (tb5 (List.mem_of_getElem? (i := 141) (by rfl))) (by decide +kernel)), (al_in (tb1 (List.mem_of_getElem? (i := 9) (by rfl))) (by decide +kernel)), ⟨by decide +kernel, by decide +kernel, by decide +kernel⟩, by decide⟩
theorem mi_X2_isSure : Cond.instanceMethod yX2_isSure ∈ ALLg := (al_in (tb5 (List.mem_of_getElem? (i := 139) (by rfl))) (by decide +kernel))
theorem ms_X2_isSure : Cond.selects (yX2_isSure).cls yX2_isSure yX2_isSure ∈ ALLg := (al_in (tb5 (List.mem_of_getElem? (i := 140) (by rfl))) (by decide +kernel))
theorem ml_X11_287 : Cond.methodLink RX11 287 yX11_changesByWay ∈ ALLg := (al_in (tb5 (List.mem_of_getElem? (i := 146) (by rfl))) (by decide +kernel))
theorem ml_X11_318 : Cond.methodLink RX11 318 yX1_takeFrom ∈ ALLg := (al_in (tb5 (List.mem_of_getElem? (i := 150) (by rfl))) (by decide +kernel))
theorem ml_X11_290 : Cond.methodLink RX11 290 yX3_wear ∈ ALLg := (al_in (tb5 (List.mem_of_getElem? (i := 151) (by rfl))) (by decide +kernel))
theorem mx_X3_wear : Mx yX3_wear cX3_wear 5 none 2 := ⟨(al_in (tb5 (List.mem_of_getElem? (i := 154) (by rfl))) (by decide +kernel)), (al_in (tb1 (List.mem_of_getElem? (i := 6) (by rfl))) (by decide +kernel)), ⟨by decide +kernel, by decide +kernel, by decide +kernel⟩, by decide⟩
theorem mi_X3_wear : Cond.instanceMethod yX3_wear ∈ ALLg := (al_in (tb5 (List.mem_of_getElem? (i := 152) (by rfl))) (by decide +kernel))
theorem ms_X3_wear : Cond.selects (yX3_wear).cls yX3_wear yX3_wear ∈ ALLg := (al_in (tb5 (List.mem_of_getElem? (i := 153) (by rfl))) (by decide +kernel))
theorem ml_X11_428 : Cond.methodLink RX11 428 yX2_isAs ∈ ALLg := (al_in (tb5 (List.mem_of_getElem? (i := 164) (by rfl))) (by decide +kernel))
theorem mx_X2_isAs : Mx yX2_isAs cX2_isAs 3 (some .boolean) 1 := ⟨(al_in (tb5 (List.mem_of_getElem? (i := 167) (by rfl))) (by decide +kernel)), (al_in (tb1 (List.mem_of_getElem? (i := 9) (by rfl))) (by decide +kernel)), ⟨by decide +kernel, by decide +kernel, by decide +kernel⟩, by decide⟩
theorem mi_X2_isAs : Cond.instanceMethod yX2_isAs ∈ ALLg := (al_in (tb5 (List.mem_of_getElem? (i := 165) (by rfl))) (by decide +kernel))
theorem ms_X2_isAs : Cond.selects (yX2_isAs).cls yX2_isAs yX2_isAs ∈ ALLg := (al_in (tb5 (List.mem_of_getElem? (i := 166) (by rfl))) (by decide +kernel))
theorem mx_X11_changesByWay : Mx yX11_changesByWay cX11_changesByWay 4 (some .int) 2 := ⟨(al_in (tb5 (List.mem_of_getElem? (i := 149) (by rfl))) (by decide +kernel)), (al_in (tb1 (List.mem_of_getElem? (i := 1) (by rfl))) (by decide +kernel)), ⟨by decide +kernel, by decide +kernel, by decide +kernel⟩, by decide⟩
theorem mi_X11_changesByWay : Cond.instanceMethod yX11_changesByWay ∈ ALLg := (al_in (tb5 (List.mem_of_getElem? (i := 148) (by rfl))) (by decide +kernel))
theorem ms_X11_changesByWay : Cond.selects (yX11_changesByWay).cls yX11_changesByWay yX11_changesByWay ∈ ALLg := (al_in (tb0 (List.mem_of_getElem? (i := 32) (by rfl))) (by decide +kernel))
theorem ml_X11_294 : Cond.methodLink RX11 294 yX1_lostPlaces ∈ ALLg := (al_in (tb5 (List.mem_of_getElem? (i := 172) (by rfl))) (by decide +kernel))
theorem ml_X11_298 : Cond.methodLink RX11 298 yX11_refusalOfCloths ∈ ALLg := (al_in (tb5 (List.mem_of_getElem? (i := 177) (by rfl))) (by decide +kernel))
theorem mx_X11_refusalOfCloths : Mx yX11_refusalOfCloths cX11_refusalOfCloths 3 (some .int) 2 := ⟨(al_in (tb5 (List.mem_of_getElem? (i := 180) (by rfl))) (by decide +kernel)), (al_in (tb1 (List.mem_of_getElem? (i := 1) (by rfl))) (by decide +kernel)), ⟨by decide +kernel, by decide +kernel, by decide +kernel⟩, by decide⟩
theorem mi_X11_refusalOfCloths : Cond.instanceMethod yX11_refusalOfCloths ∈ ALLg := (al_in (tb5 (List.mem_of_getElem? (i := 179) (by rfl))) (by decide +kernel))
theorem ms_X11_refusalOfCloths : Cond.selects (yX11_refusalOfCloths).cls yX11_refusalOfCloths yX11_refusalOfCloths ∈ ALLg := (al_in (tb0 (List.mem_of_getElem? (i := 34) (by rfl))) (by decide +kernel))
theorem ml_X11_301 : Cond.methodLink RX11 301 yX4_freePlace ∈ ALLg := (al_in (tb5 (List.mem_of_getElem? (i := 181) (by rfl))) (by decide +kernel))
theorem ml_X11_304 : Cond.methodLink RX11 304 yX4_places ∈ ALLg := (al_in (tb5 (List.mem_of_getElem? (i := 190) (by rfl))) (by decide +kernel))
theorem ml_X11_308 : Cond.methodLink RX11 308 yX4_knittedAs ∈ ALLg := (al_in (tb5 (List.mem_of_getElem? (i := 191) (by rfl))) (by decide +kernel))
theorem ml_X11_311 : Cond.methodLink RX11 311 yX1_knitBackFrom ∈ ALLg := (al_in (tb5 (List.mem_of_getElem? (i := 201) (by rfl))) (by decide +kernel))
theorem mx_X1_knitBackFrom : Mx yX1_knitBackFrom cX1_knitBackFrom 6 none 2 := ⟨(al_in (tb5 (List.mem_of_getElem? (i := 204) (by rfl))) (by decide +kernel)), (al_in (tb1 (List.mem_of_getElem? (i := 8) (by rfl))) (by decide +kernel)), ⟨by decide +kernel, by decide +kernel, by decide +kernel⟩, by decide⟩
theorem mi_X1_knitBackFrom : Cond.instanceMethod yX1_knitBackFrom ∈ ALLg := (al_in (tb5 (List.mem_of_getElem? (i := 202) (by rfl))) (by decide +kernel))
theorem ms_X1_knitBackFrom : Cond.selects (yX1_knitBackFrom).cls yX1_knitBackFrom yX1_knitBackFrom ∈ ALLg := (al_in (tb5 (List.mem_of_getElem? (i := 203) (by rfl))) (by decide +kernel))
theorem ml_X11_314 : Cond.methodLink RX11 314 yX1_placesUnlike ∈ ALLg := (al_in (tb5 (List.mem_of_getElem? (i := 206) (by rfl))) (by decide +kernel))
theorem mx_X1_placesUnlike : Mx yX1_placesUnlike cX1_placesUnlike 5 (some .int) 2 := ⟨(al_in (tb5 (List.mem_of_getElem? (i := 209) (by rfl))) (by decide +kernel)), (al_in (tb1 (List.mem_of_getElem? (i := 8) (by rfl))) (by decide +kernel)), ⟨by decide +kernel, by decide +kernel, by decide +kernel⟩, by decide⟩
theorem mi_X1_placesUnlike : Cond.instanceMethod yX1_placesUnlike ∈ ALLg := (al_in (tb5 (List.mem_of_getElem? (i := 207) (by rfl))) (by decide +kernel))
theorem ms_X1_placesUnlike : Cond.selects (yX1_placesUnlike).cls yX1_placesUnlike yX1_placesUnlike ∈ ALLg := (al_in (tb5 (List.mem_of_getElem? (i := 208) (by rfl))) (by decide +kernel))
theorem ml_X11_321 : Cond.methodLink RX11 321 yX4_turnedOver ∈ ALLg := (al_in (tb5 (List.mem_of_getElem? (i := 218) (by rfl))) (by decide +kernel))
theorem ml_X11_324 : Cond.methodLink RX11 324 yX1_setStitch ∈ ALLg := (al_in (tb5 (List.mem_of_getElem? (i := 219) (by rfl))) (by decide +kernel))
theorem ml_X11_328 : Cond.methodLink RX11 328 yX11_oneTurnPasses ∈ ALLg := (al_in (tb5 (List.mem_of_getElem? (i := 224) (by rfl))) (by decide +kernel))
theorem ml_X11_332 : Cond.methodLink RX11 332 yX6_change ∈ ALLg := (al_in (tb5 (List.mem_of_getElem? (i := 228) (by rfl))) (by decide +kernel))
theorem mx_X6_change : Mx yX6_change cX6_change 3 none 2 := ⟨(al_in (tb5 (List.mem_of_getElem? (i := 231) (by rfl))) (by decide +kernel)), (al_in (tb1 (List.mem_of_getElem? (i := 11) (by rfl))) (by decide +kernel)), ⟨by decide +kernel, by decide +kernel, by decide +kernel⟩, by decide⟩
theorem mi_X6_change : Cond.instanceMethod yX6_change ∈ ALLg := (al_in (tb5 (List.mem_of_getElem? (i := 229) (by rfl))) (by decide +kernel))
theorem ms_X6_change : Cond.selects (yX6_change).cls yX6_change yX6_change ∈ ALLg := (al_in (tb5 (List.mem_of_getElem? (i := 230) (by rfl))) (by decide +kernel))
theorem mx_X11_oneTurnPasses : Mx yX11_oneTurnPasses cX11_oneTurnPasses 6 (some .boolean) 2 := ⟨(al_in (tb5 (List.mem_of_getElem? (i := 227) (by rfl))) (by decide +kernel)), (al_in (tb1 (List.mem_of_getElem? (i := 1) (by rfl))) (by decide +kernel)), ⟨by decide +kernel, by decide +kernel, by decide +kernel⟩, by decide⟩
theorem mi_X11_oneTurnPasses : Cond.instanceMethod yX11_oneTurnPasses ∈ ALLg := (al_in (tb5 (List.mem_of_getElem? (i := 226) (by rfl))) (by decide +kernel))
theorem ms_X11_oneTurnPasses : Cond.selects (yX11_oneTurnPasses).cls yX11_oneTurnPasses yX11_oneTurnPasses ∈ ALLg := (al_in (tb0 (List.mem_of_getElem? (i := 35) (by rfl))) (by decide +kernel))
theorem fn_X11_335 : Fn RX11 335 4 3 false .int := ⟨RX4, TX4, 5, tyX4, ⟨rfl, by decide, inX4, tyX4_ok, nmX4, rfl, by decide +kernel⟩, "StitchSays", List.mem_of_getElem? (i := 11) (by rfl)⟩
theorem fn_X11_338 : Fn RX11 338 4 2 false .int := ⟨RX4, TX4, 5, tyX4, ⟨rfl, by decide, inX4, tyX4_ok, nmX4, rfl, by decide +kernel⟩, "StitchSays", List.mem_of_getElem? (i := 8) (by rfl)⟩
theorem ml_X11_341 : Cond.methodLink RX11 341 yX0_waysThere ∈ ALLg := (al_in (tb6 (List.mem_of_getElem? (i := 1) (by rfl))) (by decide +kernel))
theorem mx_X0_waysThere : Mx yX0_waysThere cX0_waysThere 3 (some .int) 0 := ⟨(al_in (tb6 (List.mem_of_getElem? (i := 4) (by rfl))) (by decide +kernel)), (al_in (tb1 (List.mem_of_getElem? (i := 3) (by rfl))) (by decide +kernel)), ⟨by decide +kernel, by decide +kernel, by decide +kernel⟩, by decide⟩
theorem mi_X0_waysThere : Cond.instanceMethod yX0_waysThere ∈ ALLg := (al_in (tb6 (List.mem_of_getElem? (i := 2) (by rfl))) (by decide +kernel))
theorem ms_X0_waysThere : Cond.selects (yX0_waysThere).cls yX0_waysThere yX0_waysThere ∈ ALLg := (al_in (tb6 (List.mem_of_getElem? (i := 3) (by rfl))) (by decide +kernel))
theorem ml_X11_344 : Cond.methodLink RX11 344 yX0_clothsThere ∈ ALLg := (al_in (tb6 (List.mem_of_getElem? (i := 5) (by rfl))) (by decide +kernel))
theorem mx_X0_clothsThere : Mx yX0_clothsThere cX0_clothsThere 3 (some .int) 0 := ⟨(al_in (tb6 (List.mem_of_getElem? (i := 8) (by rfl))) (by decide +kernel)), (al_in (tb1 (List.mem_of_getElem? (i := 3) (by rfl))) (by decide +kernel)), ⟨by decide +kernel, by decide +kernel, by decide +kernel⟩, by decide⟩
theorem mi_X0_clothsThere : Cond.instanceMethod yX0_clothsThere ∈ ALLg := (al_in (tb6 (List.mem_of_getElem? (i := 6) (by rfl))) (by decide +kernel))
theorem ms_X0_clothsThere : Cond.selects (yX0_clothsThere).cls yX0_clothsThere yX0_clothsThere ∈ ALLg := (al_in (tb6 (List.mem_of_getElem? (i := 7) (by rfl))) (by decide +kernel))
theorem ml_X11_347 : Cond.methodLink RX11 347 yX11_slotsThere ∈ ALLg := (al_in (tb6 (List.mem_of_getElem? (i := 9) (by rfl))) (by decide +kernel))
theorem fl_X11_36 : Fl RX11 36 11 4 true (.array (.object "StitchSays$Slot")) := ⟨RX11, TX11, 14, tyX11, ⟨rfl, by decide, inX11, tyX11_ok, nmX11, rfl, by decide +kernel⟩, rfl, (al_in (tb2 (List.mem_of_getElem? (i := 87) (by rfl))) (by decide +kernel))⟩
theorem ml_X11_359 : Cond.methodLink RX11 359 yX5_isThere ∈ ALLg := (al_in (tb6 (List.mem_of_getElem? (i := 13) (by rfl))) (by decide +kernel))
theorem mx_X5_isThere : Mx yX5_isThere cX5_isThere 1 (some .boolean) 0 := ⟨(al_in (tb6 (List.mem_of_getElem? (i := 16) (by rfl))) (by decide +kernel)), (al_in (tb1 (List.mem_of_getElem? (i := 12) (by rfl))) (by decide +kernel)), ⟨by decide +kernel, by decide +kernel, by decide +kernel⟩, by decide⟩
theorem mi_X5_isThere : Cond.instanceMethod yX5_isThere ∈ ALLg := (al_in (tb6 (List.mem_of_getElem? (i := 14) (by rfl))) (by decide +kernel))
theorem ms_X5_isThere : Cond.selects (yX5_isThere).cls yX5_isThere yX5_isThere ∈ ALLg := (al_in (tb6 (List.mem_of_getElem? (i := 15) (by rfl))) (by decide +kernel))
theorem mx_X11_slotsThere : Mx yX11_slotsThere cX11_slotsThere 3 (some .int) 0 := ⟨(al_in (tb6 (List.mem_of_getElem? (i := 12) (by rfl))) (by decide +kernel)), (al_in (tb1 (List.mem_of_getElem? (i := 1) (by rfl))) (by decide +kernel)), ⟨by decide +kernel, by decide +kernel, by decide +kernel⟩, by decide⟩
theorem mi_X11_slotsThere : Cond.instanceMethod yX11_slotsThere ∈ ALLg := (al_in (tb6 (List.mem_of_getElem? (i := 11) (by rfl))) (by decide +kernel))
theorem ms_X11_slotsThere : Cond.selects (yX11_slotsThere).cls yX11_slotsThere yX11_slotsThere ∈ ALLg := (al_in (tb0 (List.mem_of_getElem? (i := 37) (by rfl))) (by decide +kernel))
theorem fl_X11_23 : Fl RX11 23 11 2 true (.array (.object "StitchSays$Basket")) := ⟨RX11, TX11, 14, tyX11, ⟨rfl, by decide, inX11, tyX11_ok, nmX11, rfl, by decide +kernel⟩, rfl, (al_in (tb2 (List.mem_of_getElem? (i := 85) (by rfl))) (by decide +kernel))⟩
theorem ml_X11_350 : Cond.methodLink RX11 350 yX0_takeFrom ∈ ALLg := (al_in (tb6 (List.mem_of_getElem? (i := 21) (by rfl))) (by decide +kernel))
theorem mx_X0_takeFrom : Mx yX0_takeFrom cX0_takeFrom 3 none 1 := ⟨(al_in (tb6 (List.mem_of_getElem? (i := 24) (by rfl))) (by decide +kernel)), (al_in (tb1 (List.mem_of_getElem? (i := 3) (by rfl))) (by decide +kernel)), ⟨by decide +kernel, by decide +kernel, by decide +kernel⟩, by decide⟩
theorem mi_X0_takeFrom : Cond.instanceMethod yX0_takeFrom ∈ ALLg := (al_in (tb6 (List.mem_of_getElem? (i := 22) (by rfl))) (by decide +kernel))
theorem ms_X0_takeFrom : Cond.selects (yX0_takeFrom).cls yX0_takeFrom yX0_takeFrom ∈ ALLg := (al_in (tb6 (List.mem_of_getElem? (i := 23) (by rfl))) (by decide +kernel))
theorem ml_X11_353 : Cond.methodLink RX11 353 yX11_isSlot ∈ ALLg := (al_in (tb6 (List.mem_of_getElem? (i := 39) (by rfl))) (by decide +kernel))
theorem mx_X11_isSlot : Mx yX11_isSlot cX11_isSlot 1 (some .boolean) 1 := ⟨(al_in (tb6 (List.mem_of_getElem? (i := 41) (by rfl))) (by decide +kernel)), (al_in (tb1 (List.mem_of_getElem? (i := 1) (by rfl))) (by decide +kernel)), ⟨by decide +kernel, by decide +kernel, by decide +kernel⟩, by decide⟩
theorem mt_X11_isSlot : Cond.static yX11_isSlot ∈ ALLg := (al_in (tb6 (List.mem_of_getElem? (i := 40) (by rfl))) (by decide +kernel))
theorem ml_X11_356 : Cond.methodLink RX11 356 yX5_begin ∈ ALLg := (al_in (tb6 (List.mem_of_getElem? (i := 42) (by rfl))) (by decide +kernel))
theorem mx_X5_begin : Mx yX5_begin cX5_begin 3 none 2 := ⟨(al_in (tb6 (List.mem_of_getElem? (i := 45) (by rfl))) (by decide +kernel)), (al_in (tb1 (List.mem_of_getElem? (i := 12) (by rfl))) (by decide +kernel)), ⟨by decide +kernel, by decide +kernel, by decide +kernel⟩, by decide⟩
theorem mi_X5_begin : Cond.instanceMethod yX5_begin ∈ ALLg := (al_in (tb6 (List.mem_of_getElem? (i := 43) (by rfl))) (by decide +kernel))
theorem ms_X5_begin : Cond.selects (yX5_begin).cls yX5_begin yX5_begin ∈ ALLg := (al_in (tb6 (List.mem_of_getElem? (i := 44) (by rfl))) (by decide +kernel))
theorem ml_X11_360 : Cond.methodLink RX11 360 yX5_has ∈ ALLg := (al_in (tb6 (List.mem_of_getElem? (i := 53) (by rfl))) (by decide +kernel))
theorem mx_X5_has : Mx yX5_has cX5_has 3 (some .boolean) 2 := ⟨(al_in (tb6 (List.mem_of_getElem? (i := 56) (by rfl))) (by decide +kernel)), (al_in (tb1 (List.mem_of_getElem? (i := 12) (by rfl))) (by decide +kernel)), ⟨by decide +kernel, by decide +kernel, by decide +kernel⟩, by decide⟩
theorem mi_X5_has : Cond.instanceMethod yX5_has ∈ ALLg := (al_in (tb6 (List.mem_of_getElem? (i := 54) (by rfl))) (by decide +kernel))
theorem ms_X5_has : Cond.selects (yX5_has).cls yX5_has yX5_has ∈ ALLg := (al_in (tb6 (List.mem_of_getElem? (i := 55) (by rfl))) (by decide +kernel))
theorem ml_X11_364 : Cond.methodLink RX11 364 yX5_set ∈ ALLg := (al_in (tb6 (List.mem_of_getElem? (i := 57) (by rfl))) (by decide +kernel))
theorem mx_X5_set : Mx yX5_set cX5_set 4 none 2 := ⟨(al_in (tb6 (List.mem_of_getElem? (i := 60) (by rfl))) (by decide +kernel)), (al_in (tb1 (List.mem_of_getElem? (i := 12) (by rfl))) (by decide +kernel)), ⟨by decide +kernel, by decide +kernel, by decide +kernel⟩, by decide⟩
theorem mi_X5_set : Cond.instanceMethod yX5_set ∈ ALLg := (al_in (tb6 (List.mem_of_getElem? (i := 58) (by rfl))) (by decide +kernel))
theorem ms_X5_set : Cond.selects (yX5_set).cls yX5_set yX5_set ∈ ALLg := (al_in (tb6 (List.mem_of_getElem? (i := 59) (by rfl))) (by decide +kernel))
theorem fn_X11_368 : Fn RX11 368 5 1 false .int := ⟨RX5, TX5, 3, tyX5, ⟨rfl, by decide, inX5, tyX5_ok, nmX5, rfl, by decide +kernel⟩, "StitchSays", List.mem_of_getElem? (i := 49) (by rfl)⟩
theorem fn_X11_371 : Fn RX11 371 5 0 true (.array .long) := ⟨RX5, TX5, 3, tyX5, ⟨rfl, by decide, inX5, tyX5_ok, nmX5, rfl, by decide +kernel⟩, "StitchSays", List.mem_of_getElem? (i := 48) (by rfl)⟩
theorem fn_X11_375 : Fn RX11 375 5 2 false .int := ⟨RX5, TX5, 3, tyX5, ⟨rfl, by decide, inX5, tyX5_ok, nmX5, rfl, by decide +kernel⟩, "StitchSays", List.mem_of_getElem? (i := 50) (by rfl)⟩
theorem ml_X11_376 : Cond.methodLink RX11 376 yJ9_min_7cf53 ∈ ALLg := (al_in (tb6 (List.mem_of_getElem? (i := 73) (by rfl))) (by decide +kernel))
theorem mm_X11_376 : Cond.methodLink RX11 376 Lib.Math.min.name ∈ ALLg := (al_in (tb6 (List.mem_of_getElem? (i := 73) (by rfl))) (by decide +kernel))
theorem ml_X11_379 : Cond.methodLink RX11 379 yX5_isZero ∈ ALLg := (al_in (tb6 (List.mem_of_getElem? (i := 74) (by rfl))) (by decide +kernel))
theorem mx_X5_isZero : Mx yX5_isZero cX5_isZero 2 (some .boolean) 1 := ⟨(al_in (tb6 (List.mem_of_getElem? (i := 77) (by rfl))) (by decide +kernel)), (al_in (tb1 (List.mem_of_getElem? (i := 12) (by rfl))) (by decide +kernel)), ⟨by decide +kernel, by decide +kernel, by decide +kernel⟩, by decide⟩
theorem mi_X5_isZero : Cond.instanceMethod yX5_isZero ∈ ALLg := (al_in (tb6 (List.mem_of_getElem? (i := 75) (by rfl))) (by decide +kernel))
theorem ms_X5_isZero : Cond.selects (yX5_isZero).cls yX5_isZero yX5_isZero ∈ ALLg := (al_in (tb6 (List.mem_of_getElem? (i := 76) (by rfl))) (by decide +kernel))
theorem ml_X11_382 : Cond.methodLink RX11 382 yX4_notPlainAt ∈ ALLg := (al_in (tb6 (List.mem_of_getElem? (i := 78) (by rfl))) (by decide +kernel))
