/-! the links of the two makers -/
theorem lwi_D : zLkI "DebtDoorsLaw" 9 y_D_init 0 := ⟨Or.inr (zTb_in 161 (by decide +kernel) (by decide +kernel)), (zTb_in 162 (by decide +kernel) (by decide +kernel)), rfl, (zTb_in 139 (by decide +kernel) (by decide +kernel)), (zTb_in 163 (by decide +kernel) (by decide +kernel)), by decide +kernel, by decide +kernel, rfl⟩
set_option maxRecDepth 20000 in
theorem lwi_Mc : Cond.code y_M_init.1 y_M_init.2.1 y_M_init.2.2.1 y_M_init.2.2.2 ∈ zTb := by
  have h0 : Cond.code y_M_init.1 y_M_init.2.1 y_M_init.2.2.1 y_M_init.2.2.2 ∈ tables_1_5 := List.mem_of_getElem? (i := 226) rfl
  have h1 : Cond.code y_M_init.1 y_M_init.2.1 y_M_init.2.2.1 y_M_init.2.2.2 ∈ tables_1_1 ++ (tables_1_2 ++ (tables_1_3 ++ (tables_1_4 ++ (tables_1_5 ++ (tables_1_6 ++ (tables_1_7 ++ (tables_1_8 ++ tables_1_9))))))) := List.mem_append_right _ (List.mem_append_right _ (List.mem_append_right _ (List.mem_append_right _ (List.mem_append_left _ h0))))
  exact List.mem_filter.mpr ⟨List.mem_append_right _ h1, rfl⟩
theorem lwi_M : zLkI "DebtDoorsLaw" 12 y_M_init 0 := ⟨Or.inr (zTb_in 1322 (by decide +kernel) (by decide +kernel)), (zTb_in 1323 (by decide +kernel) (by decide +kernel)), rfl, (zTb_in 151 (by decide +kernel) (by decide +kernel)), lwi_Mc, by decide +kernel, by decide +kernel, rfl⟩
theorem lwn_11 : Cond.classLink "DebtDoorsLaw" 7 RX11 ∈ zTb ∧ Cond.instantiable RX11 20 ∈ zTb ∧ Cond.initialized RX11 ∈ zTb := ⟨(zTb_in 159 (by decide +kernel) (by decide +kernel)), (zTb_in 160 (by decide +kernel) (by decide +kernel)), (zTb_in 139 (by decide +kernel) (by decide +kernel))⟩
theorem lwn_12 : Cond.classLink "DebtDoorsLaw" 10 RX12 ∈ zTb ∧ Cond.instantiable RX12 61 ∈ zTb ∧ Cond.initialized RX12 ∈ zTb := ⟨(zTb_in 1320 (by decide +kernel) (by decide +kernel)), (zTb_in 1321 (by decide +kernel) (by decide +kernel)), (zTb_in 151 (by decide +kernel) (by decide +kernel))⟩

