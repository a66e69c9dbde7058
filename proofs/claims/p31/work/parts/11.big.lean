set_option maxRecDepth 100000 in
theorem mc_L_follows : Cond.code yL_follows cL_follows 24 (some .boolean) ∈ xTT := xTT_of (List.mem_of_getElem? (i := 785) rfl) rfl
set_option maxRecDepth 100000 in
theorem mc_L_kept : Cond.code yL_kept cL_kept 17 (some .boolean) ∈ xTT := xTT_of (List.mem_of_getElem? (i := 775) rfl) rfl
