theorem cllaw_7 : Cond.classLink R_law 7 RE ∈ tb := tm 321 (by decide +kernel) rfl
theorem cllaw_10 : Cond.classLink R_law 10 RM ∈ tb := tm 2142 (by decide +kernel) rfl
theorem mllaw_9 : Cond.methodLink R_law 9 yE_init ∈ tb := tm 323 (by decide +kernel) rfl
theorem imE_init : Cond.instanceMethod yE_init ∈ tb := tm 324 (by decide +kernel) rfl
theorem iiE_init : Cond.initialized yE_init.cls ∈ tb := tm 301 (by decide +kernel) rfl
theorem icE_init : Cond.code yE_init cE_init 1 none ∈ tb := tm 325 (by decide +kernel) rfl
theorem npE_init : nPar yE_init 0 := by decide +kernel
theorem mllaw_12 : Cond.methodLink R_law 12 yM_init ∈ tb := tm 2144 (by decide +kernel) rfl
theorem imM_init : Cond.instanceMethod yM_init ∈ tb := tm 2145 (by decide +kernel) rfl
theorem iiM_init : Cond.initialized yM_init.cls ∈ tb := tm 302 (by decide +kernel) rfl
set_option maxRecDepth 100000 in
theorem icM_init : Cond.code yM_init cM_init 6 none ∈ tb := List.mem_filter.mpr ⟨List.mem_append_right _ (List.mem_append_right _ (List.mem_append_right _ (List.mem_append_right _ (List.mem_append_right _ (List.mem_append_right _ (List.mem_append_right _ (List.mem_append_right _ (List.mem_append_left _ (List.mem_of_getElem? (i := 166) rfl))))))))), rfl⟩
theorem npM_init : nPar yM_init 0 := by decide +kernel
