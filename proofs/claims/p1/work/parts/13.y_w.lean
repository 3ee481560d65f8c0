theorem ml_X11_356 : Cond.methodLink RX11 356 yX5_begin ∈ ALLg := (al_in (tb6 (List.mem_of_getElem? (i := 42) (by rfl))) (by decide +kernel))
theorem fl_X5_19 : Fl RX5 19 5 2 false .int := ⟨RX5, TX5, 3, tyX5, ⟨rfl, by decide, inX5, tyX5_ok, nmX5, rfl, by decide +kernel⟩, rfl, (al_in (tb2 (List.mem_of_getElem? (i := 73) (by rfl))) (by decide +kernel))⟩
theorem ml_X5_22 : Cond.methodLink RX5 22 yJ7_fill_d0a16 ∈ ALLg := (al_in (tb6 (List.mem_of_getElem? (i := 46) (by rfl))) (by decide +kernel))
theorem mx_J7_fill_d0a16 : Mx yJ7_fill_d0a16 cJ7_fill_d0a16 5 none 2 := ⟨(al_in (tb6 (List.mem_of_getElem? (i := 48) (by rfl))) (by decide +kernel)), (al_in (tb1 (List.mem_of_getElem? (i := 21) (by rfl))) (by decide +kernel)), ⟨by decide +kernel, by decide +kernel, by decide +kernel⟩, by decide⟩
theorem mt_J7_fill_d0a16 : Cond.static yJ7_fill_d0a16 ∈ ALLg := (al_in (tb6 (List.mem_of_getElem? (i := 47) (by rfl))) (by decide +kernel))
theorem mx_X5_begin : Mx yX5_begin cX5_begin 3 none 2 := ⟨(al_in (tb6 (List.mem_of_getElem? (i := 45) (by rfl))) (by decide +kernel)), (al_in (tb1 (List.mem_of_getElem? (i := 12) (by rfl))) (by decide +kernel)), ⟨by decide +kernel, by decide +kernel, by decide +kernel⟩, by decide⟩
theorem mi_X5_begin : Cond.instanceMethod yX5_begin ∈ ALLg := (al_in (tb6 (List.mem_of_getElem? (i := 43) (by rfl))) (by decide +kernel))
theorem ms_X5_begin : Cond.selects (yX5_begin).cls yX5_begin yX5_begin ∈ ALLg := (al_in (tb6 (List.mem_of_getElem? (i := 44) (by rfl))) (by decide +kernel))
