abbrev YX10_goes : q_Y := (yX10_goes, cX10_goes, 9, (some .boolean), [])
abbrev YL_drawn : q_Y := (yL_drawn, cL_drawn, 10, (some (.object "IdleMoneyLaw$Own")), [])
abbrev YL_isAs : q_Y := (yL_isAs, cL_isAs, 19, (some .boolean), [])
theorem q_cod_drawn : q_code YL_drawn ∈ q_all := List.mem_filter.mpr ⟨(List.mem_append_right _ (List.mem_append_right _ (List.mem_append_right _ (List.mem_append_right _ (List.mem_append_right _ (List.mem_append_left _ (List.mem_of_getElem? (i := 60) rfl))))))), rfl⟩
theorem q_cod_isAs : q_code YL_isAs ∈ q_all := List.mem_filter.mpr ⟨(List.mem_append_right _ (List.mem_append_right _ (List.mem_append_right _ (List.mem_append_right _ (List.mem_append_right _ (List.mem_append_right _ (List.mem_append_left _ (List.mem_of_getElem? (i := 128) rfl)))))))), rfl⟩
theorem sl_RL_330 : q_SL RL 330 3 YL_drawn := ⟨⟨q_mem 1057 (by decide +kernel) rfl, q_mem 39 (by decide +kernel) rfl, q_cod_drawn, ⟨by decide, by decide⟩, by decide +kernel, by decide⟩, q_mem 1058 (by decide +kernel) rfl⟩
theorem sl_RL_338 : q_SL RL 338 2 YL_isAs := ⟨⟨q_mem 1365 (by decide +kernel) rfl, q_mem 39 (by decide +kernel) rfl, q_cod_isAs, ⟨by decide, by decide⟩, by decide +kernel, by decide⟩, q_mem 1366 (by decide +kernel) rfl⟩
theorem vl_RX10_136 : q_VL RX10 136 2 9 YX10_goes := ⟨⟨q_mem 597 (by decide +kernel) rfl, q_mem 57 (by decide +kernel) rfl, q_mem 600 (by decide +kernel) rfl, ⟨by decide, by decide⟩, by decide +kernel, by decide⟩, q_mem 598 (by decide +kernel) rfl, q_mem 599 (by decide +kernel) rfl, ⟨_, rfl, rfl⟩⟩
