theorem ml_X0_50 : Cond.methodLink RX0 50 yX4_takeFrom ∈ ALLg := (al_in (tb6 (List.mem_of_getElem? (i := 25) (by rfl))) (by decide +kernel))
theorem mo_X4_45 : Cond.methodLink RX4 45 arraycopyName ∈ ALLg := (al_in (tb3 (List.mem_of_getElem? (i := 136) (by rfl))) (by decide +kernel))
theorem fl_X4_25 : Fl RX4 25 4 4 false .int := ⟨RX4, TX4, 5, tyX4, ⟨rfl, by decide, inX4, tyX4_ok, nmX4, rfl, by decide +kernel⟩, rfl, (al_in (tb1 (List.mem_of_getElem? (i := 87) (by rfl))) (by decide +kernel))⟩
theorem mx_X4_takeFrom : Mx yX4_takeFrom cX4_takeFrom 2 none 1 := ⟨(al_in (tb3 (List.mem_of_getElem? (i := 135) (by rfl))) (by decide +kernel)), (al_in (tb1 (List.mem_of_getElem? (i := 4) (by rfl))) (by decide +kernel)), ⟨by decide +kernel, by decide +kernel, by decide +kernel⟩, by decide⟩
theorem mi_X4_takeFrom : Cond.instanceMethod yX4_takeFrom ∈ ALLg := (al_in (tb3 (List.mem_of_getElem? (i := 133) (by rfl))) (by decide +kernel))
theorem ms_X4_takeFrom : Cond.selects (yX4_takeFrom).cls yX4_takeFrom yX4_takeFrom ∈ ALLg := (al_in (tb3 (List.mem_of_getElem? (i := 134) (by rfl))) (by decide +kernel))
theorem mo_X0_54 : Cond.methodLink RX0 54 arraycopyName ∈ ALLg := (al_in (tb6 (List.mem_of_getElem? (i := 26) (by rfl))) (by decide +kernel))
theorem ml_X0_60 : Cond.methodLink RX0 60 yX10_takeFrom ∈ ALLg := (al_in (tb6 (List.mem_of_getElem? (i := 27) (by rfl))) (by decide +kernel))
theorem mx_X10_takeFrom : Mx yX10_takeFrom cX10_takeFrom 2 none 1 := ⟨(al_in (tb3 (List.mem_of_getElem? (i := 213) (by rfl))) (by decide +kernel)), (al_in (tb1 (List.mem_of_getElem? (i := 7) (by rfl))) (by decide +kernel)), ⟨by decide +kernel, by decide +kernel, by decide +kernel⟩, by decide⟩
theorem mi_X10_takeFrom : Cond.instanceMethod yX10_takeFrom ∈ ALLg := (al_in (tb3 (List.mem_of_getElem? (i := 211) (by rfl))) (by decide +kernel))
theorem ms_X10_takeFrom : Cond.selects (yX10_takeFrom).cls yX10_takeFrom yX10_takeFrom ∈ ALLg := (al_in (tb3 (List.mem_of_getElem? (i := 212) (by rfl))) (by decide +kernel))
theorem ml_X0_63 : Cond.methodLink RX0 63 yX9_takeFrom ∈ ALLg := (al_in (tb6 (List.mem_of_getElem? (i := 28) (by rfl))) (by decide +kernel))
theorem ml_X0_66 : Cond.methodLink RX0 66 yX3_takeFrom ∈ ALLg := (al_in (tb6 (List.mem_of_getElem? (i := 29) (by rfl))) (by decide +kernel))
theorem ml_X0_69 : Cond.methodLink RX0 69 yX1_takeFrom ∈ ALLg := (al_in (tb6 (List.mem_of_getElem? (i := 30) (by rfl))) (by decide +kernel))
theorem mo_X1_15 : Cond.methodLink RX1 15 arraycopyName ∈ ALLg := (al_in (tb5 (List.mem_of_getElem? (i := 56) (by rfl))) (by decide +kernel))
theorem fl_X1_21 : Fl RX1 21 1 1 false .boolean := ⟨RX1, TX1, 2, tyX1, ⟨rfl, by decide, inX1, tyX1_ok, nmX1, rfl, by decide +kernel⟩, rfl, (al_in (tb1 (List.mem_of_getElem? (i := 181) (by rfl))) (by decide +kernel))⟩
theorem mx_X1_takeFrom : Mx yX1_takeFrom cX1_takeFrom 2 none 1 := ⟨(al_in (tb5 (List.mem_of_getElem? (i := 55) (by rfl))) (by decide +kernel)), (al_in (tb1 (List.mem_of_getElem? (i := 8) (by rfl))) (by decide +kernel)), ⟨by decide +kernel, by decide +kernel, by decide +kernel⟩, by decide⟩
theorem mi_X1_takeFrom : Cond.instanceMethod yX1_takeFrom ∈ ALLg := (al_in (tb5 (List.mem_of_getElem? (i := 53) (by rfl))) (by decide +kernel))
theorem ms_X1_takeFrom : Cond.selects (yX1_takeFrom).cls yX1_takeFrom yX1_takeFrom ∈ ALLg := (al_in (tb5 (List.mem_of_getElem? (i := 54) (by rfl))) (by decide +kernel))
theorem ml_X11_350 : Cond.methodLink RX11 350 yX0_takeFrom ∈ ALLg := (al_in (tb6 (List.mem_of_getElem? (i := 21) (by rfl))) (by decide +kernel))
theorem mx_X0_takeFrom : Mx yX0_takeFrom cX0_takeFrom 3 none 1 := ⟨(al_in (tb6 (List.mem_of_getElem? (i := 24) (by rfl))) (by decide +kernel)), (al_in (tb1 (List.mem_of_getElem? (i := 3) (by rfl))) (by decide +kernel)), ⟨by decide +kernel, by decide +kernel, by decide +kernel⟩, by decide⟩
theorem mi_X0_takeFrom : Cond.instanceMethod yX0_takeFrom ∈ ALLg := (al_in (tb6 (List.mem_of_getElem? (i := 22) (by rfl))) (by decide +kernel))
theorem ms_X0_takeFrom : Cond.selects (yX0_takeFrom).cls yX0_takeFrom yX0_takeFrom ∈ ALLg := (al_in (tb6 (List.mem_of_getElem? (i := 23) (by rfl))) (by decide +kernel))
