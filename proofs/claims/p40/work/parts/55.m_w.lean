theorem ml_L_9 : Cond.methodLink RL 9 yX11_init ∈ ALLg := (al_in (tb1 (List.mem_of_getElem? (i := 24) (by rfl))) (by decide +kernel))
theorem ml_L_12 : Cond.methodLink RL 12 yX12_init ∈ ALLg := (al_in (tb6 (List.mem_of_getElem? (i := 81) (by rfl))) (by decide +kernel))
theorem mx_X11_init : Mx yX11_init cX11_init 2 none 0 := ⟨(al_in (tb1 (List.mem_of_getElem? (i := 26) (by rfl))) (by decide +kernel)), (al_in (tb1 (List.mem_of_getElem? (i := 1) (by rfl))) (by decide +kernel)), ⟨by decide +kernel, by decide +kernel, by decide +kernel⟩, by decide⟩
theorem mx_X12_init : Mx yX12_init cX12_init 1 none 0 := ⟨(al_in (tb6 (List.mem_of_getElem? (i := 83) (by rfl))) (by decide +kernel)), (al_in (tb1 (List.mem_of_getElem? (i := 13) (by rfl))) (by decide +kernel)), ⟨by decide +kernel, by decide +kernel, by decide +kernel⟩, by decide⟩
theorem mi_X11_init : Cond.instanceMethod yX11_init ∈ ALLg := (al_in (tb1 (List.mem_of_getElem? (i := 25) (by rfl))) (by decide +kernel))
theorem mi_X12_init : Cond.instanceMethod yX12_init ∈ ALLg := (al_in (tb6 (List.mem_of_getElem? (i := 82) (by rfl))) (by decide +kernel))
theorem kl_L_7 : Cond.classLink RL 7 RX11 ∈ ALLg := (al_in (tb1 (List.mem_of_getElem? (i := 22) (by rfl))) (by decide +kernel))
theorem in_X11 : Cond.instantiable RX11 14 ∈ ALLg := (al_in (tb1 (List.mem_of_getElem? (i := 23) (by rfl))) (by decide +kernel))
theorem ii_X11 : Cond.initialized RX11 ∈ ALLg := (al_in (tb1 (List.mem_of_getElem? (i := 1) (by rfl))) (by decide +kernel))
theorem kl_L_10 : Cond.classLink RL 10 RX12 ∈ ALLg := (al_in (tb6 (List.mem_of_getElem? (i := 79) (by rfl))) (by decide +kernel))
theorem in_X12 : Cond.instantiable RX12 29 ∈ ALLg := (al_in (tb6 (List.mem_of_getElem? (i := 80) (by rfl))) (by decide +kernel))
theorem ii_X12 : Cond.initialized RX12 ∈ ALLg := (al_in (tb1 (List.mem_of_getElem? (i := 13) (by rfl))) (by decide +kernel))
