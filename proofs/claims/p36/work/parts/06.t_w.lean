theorem fl_X7_22 : Fl RX7 22 7 5 false .int := ⟨RX7, TX7, 7, tyX7, ⟨rfl, by decide, inX7, tyX7_ok, nmX7, rfl, by decide +kernel⟩, rfl, (al_in (tb1 (List.mem_of_getElem? (i := 43) (by rfl))) (by decide +kernel))⟩
theorem fl_X7_35 : Fl RX7 35 7 2 false .int := ⟨RX7, TX7, 7, tyX7, ⟨rfl, by decide, inX7, tyX7_ok, nmX7, rfl, by decide +kernel⟩, rfl, (al_in (tb1 (List.mem_of_getElem? (i := 40) (by rfl))) (by decide +kernel))⟩
theorem fl_X7_19 : Fl RX7 19 7 1 false .int := ⟨RX7, TX7, 7, tyX7, ⟨rfl, by decide, inX7, tyX7_ok, nmX7, rfl, by decide +kernel⟩, rfl, (al_in (tb1 (List.mem_of_getElem? (i := 37) (by rfl))) (by decide +kernel))⟩
theorem fl_X7_9 : Fl RX7 9 7 0 true (.array .int) := ⟨RX7, TX7, 7, tyX7, ⟨rfl, by decide, inX7, tyX7_ok, nmX7, rfl, by decide +kernel⟩, rfl, (al_in (tb1 (List.mem_of_getElem? (i := 36) (by rfl))) (by decide +kernel))⟩
theorem ml_X7_31 : Cond.methodLink RX7 31 yX7_isFine ∈ ALLg := (al_in (tb2 (List.mem_of_getElem? (i := 158) (by rfl))) (by decide +kernel))
theorem mx_X7_isFine : Mx yX7_isFine cX7_isFine 1 (some .boolean) 0 := ⟨(al_in (tb2 (List.mem_of_getElem? (i := 161) (by rfl))) (by decide +kernel)), (al_in (tb1 (List.mem_of_getElem? (i := 2) (by rfl))) (by decide +kernel)), ⟨by decide +kernel, by decide +kernel, by decide +kernel⟩, by decide⟩
theorem mi_X7_isFine : Cond.instanceMethod yX7_isFine ∈ ALLg := (al_in (tb2 (List.mem_of_getElem? (i := 159) (by rfl))) (by decide +kernel))
theorem ms_X7_isFine : Cond.selects (yX7_isFine).cls yX7_isFine yX7_isFine ∈ ALLg := (al_in (tb2 (List.mem_of_getElem? (i := 160) (by rfl))) (by decide +kernel))
theorem fl_X7_38 : Fl RX7 38 7 3 false .int := ⟨RX7, TX7, 7, tyX7, ⟨rfl, by decide, inX7, tyX7_ok, nmX7, rfl, by decide +kernel⟩, rfl, (al_in (tb1 (List.mem_of_getElem? (i := 41) (by rfl))) (by decide +kernel))⟩
theorem fl_X7_15 : Fl RX7 15 7 6 false .int := ⟨RX7, TX7, 7, tyX7, ⟨rfl, by decide, inX7, tyX7_ok, nmX7, rfl, by decide +kernel⟩, rfl, (al_in (tb1 (List.mem_of_getElem? (i := 45) (by rfl))) (by decide +kernel))⟩
theorem fl_X7_25 : Fl RX7 25 7 4 false .int := ⟨RX7, TX7, 7, tyX7, ⟨rfl, by decide, inX7, tyX7_ok, nmX7, rfl, by decide +kernel⟩, rfl, (al_in (tb1 (List.mem_of_getElem? (i := 42) (by rfl))) (by decide +kernel))⟩
theorem ml_X7_41 : Cond.methodLink RX7 41 yX7_byteAt ∈ ALLg := (al_in (tb2 (List.mem_of_getElem? (i := 162) (by rfl))) (by decide +kernel))
theorem mx_X7_byteAt : Mx yX7_byteAt cX7_byteAt 2 (some .int) 1 := ⟨(al_in (tb2 (List.mem_of_getElem? (i := 165) (by rfl))) (by decide +kernel)), (al_in (tb1 (List.mem_of_getElem? (i := 2) (by rfl))) (by decide +kernel)), ⟨by decide +kernel, by decide +kernel, by decide +kernel⟩, by decide⟩
theorem mi_X7_byteAt : Cond.instanceMethod yX7_byteAt ∈ ALLg := (al_in (tb2 (List.mem_of_getElem? (i := 163) (by rfl))) (by decide +kernel))
theorem ms_X7_byteAt : Cond.selects (yX7_byteAt).cls yX7_byteAt yX7_byteAt ∈ ALLg := (al_in (tb2 (List.mem_of_getElem? (i := 164) (by rfl))) (by decide +kernel))
theorem ml_X7_49 : Cond.methodLink RX7 49 yX7_kindOf ∈ ALLg := (al_in (tb2 (List.mem_of_getElem? (i := 169) (by rfl))) (by decide +kernel))
theorem mx_X7_kindOf : Mx yX7_kindOf cX7_kindOf 1 (some .int) 1 := ⟨(al_in (tb2 (List.mem_of_getElem? (i := 171) (by rfl))) (by decide +kernel)), (al_in (tb1 (List.mem_of_getElem? (i := 2) (by rfl))) (by decide +kernel)), ⟨by decide +kernel, by decide +kernel, by decide +kernel⟩, by decide⟩
theorem mt_X7_kindOf : Cond.static yX7_kindOf ∈ ALLg := (al_in (tb2 (List.mem_of_getElem? (i := 170) (by rfl))) (by decide +kernel))
theorem ml_X7_52 : Cond.methodLink RX7 52 yJ9_min_7cf53 ∈ ALLg := (al_in (tb2 (List.mem_of_getElem? (i := 172) (by rfl))) (by decide +kernel))
theorem mm_X7_52 : Cond.methodLink RX7 52 Lib.Math.min.name ∈ ALLg := (al_in (tb2 (List.mem_of_getElem? (i := 172) (by rfl))) (by decide +kernel))
theorem mm_smin : Cond.static Lib.Math.min.name ∈ ALLg := (al_in (tb2 (List.mem_of_getElem? (i := 173) (by rfl))) (by decide +kernel))
theorem mm_i : Cond.initialized "java/lang/Math" ∈ ALLg := (al_in (tb1 (List.mem_of_getElem? (i := 14) (by rfl))) (by decide +kernel))
theorem mm_cmin : Cond.code Lib.Math.min.name Lib.Math.min.code 2 (some .int) ∈ ALLg := (al_in (tb2 (List.mem_of_getElem? (i := 174) (by rfl))) (by decide +kernel))
theorem ml_X7_45 : Cond.methodLink RX7 45 yX7_isBlank ∈ ALLg := (al_in (tb2 (List.mem_of_getElem? (i := 166) (by rfl))) (by decide +kernel))
theorem mx_X7_isBlank : Mx yX7_isBlank cX7_isBlank 1 (some .boolean) 1 := ⟨(al_in (tb2 (List.mem_of_getElem? (i := 168) (by rfl))) (by decide +kernel)), (al_in (tb1 (List.mem_of_getElem? (i := 2) (by rfl))) (by decide +kernel)), ⟨by decide +kernel, by decide +kernel, by decide +kernel⟩, by decide⟩
theorem mt_X7_isBlank : Cond.static yX7_isBlank ∈ ALLg := (al_in (tb2 (List.mem_of_getElem? (i := 167) (by rfl))) (by decide +kernel))
