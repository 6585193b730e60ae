/-! Arrays.fill -/
theorem w_209 : Cond.code yJ7_fill_53178 cJ7_fill_53178 4 none ∈ y_tb := y_in (mt_1 _ (List.mem_of_getElem? (i := 124) rfl)) rfl
theorem qJ7_fill_53178 : yCalS yJ7_fill_53178 cJ7_fill_53178 4 none 2 := ⟨w_208, w_209, w_90, by decide, by decide, by decide +kernel⟩
