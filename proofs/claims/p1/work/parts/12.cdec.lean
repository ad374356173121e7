theorem dM_isLetter_0 : decode cM_isLetter 0 = .ok (.iload_n 0, 1) := by decide +kernel
theorem dM_isLetter_1 : decode cM_isLetter 1 = .ok (.bipush 97, 2) := by decide +kernel
theorem dM_isLetter_3 : decode cM_isLetter 3 = .ok (.if_icmp .lt 13, 3) := by decide +kernel
theorem dM_isLetter_6 : decode cM_isLetter 6 = .ok (.iload_n 0, 1) := by decide +kernel
theorem dM_isLetter_7 : decode cM_isLetter 7 = .ok (.bipush 122, 2) := by decide +kernel
theorem dM_isLetter_9 : decode cM_isLetter 9 = .ok (.if_icmp .gt 7, 3) := by decide +kernel
theorem dM_isLetter_12 : decode cM_isLetter 12 = .ok (.iconst 1, 1) := by decide +kernel
theorem dM_isLetter_13 : decode cM_isLetter 13 = .ok (.goto 4, 3) := by decide +kernel
theorem dM_isLetter_16 : decode cM_isLetter 16 = .ok (.iconst 0, 1) := by decide +kernel
theorem dM_isLetter_17 : decode cM_isLetter 17 = .ok (.ireturn, 1) := by decide +kernel
theorem dM_isDigit_0 : decode cM_isDigit 0 = .ok (.iload_n 0, 1) := by decide +kernel
theorem dM_isDigit_1 : decode cM_isDigit 1 = .ok (.bipush 48, 2) := by decide +kernel
theorem dM_isDigit_3 : decode cM_isDigit 3 = .ok (.if_icmp .lt 13, 3) := by decide +kernel
theorem dM_isDigit_6 : decode cM_isDigit 6 = .ok (.iload_n 0, 1) := by decide +kernel
theorem dM_isDigit_7 : decode cM_isDigit 7 = .ok (.bipush 57, 2) := by decide +kernel
theorem dM_isDigit_9 : decode cM_isDigit 9 = .ok (.if_icmp .gt 7, 3) := by decide +kernel
theorem dM_isDigit_12 : decode cM_isDigit 12 = .ok (.iconst 1, 1) := by decide +kernel
theorem dM_isDigit_13 : decode cM_isDigit 13 = .ok (.goto 4, 3) := by decide +kernel
theorem dM_isDigit_16 : decode cM_isDigit 16 = .ok (.iconst 0, 1) := by decide +kernel
theorem dM_isDigit_17 : decode cM_isDigit 17 = .ok (.ireturn, 1) := by decide +kernel
theorem dM_code_0 : decode cM_code 0 = .ok (.iload_n 0, 1) := by decide +kernel
theorem dM_code_1 : decode cM_code 1 = .ok (.invokestatic 411, 3) := by decide +kernel
theorem dM_code_4 : decode cM_code 4 = .ok (.ifCond .eq 12, 3) := by decide +kernel
theorem dM_code_7 : decode cM_code 7 = .ok (.iload_n 0, 1) := by decide +kernel
theorem dM_code_8 : decode cM_code 8 = .ok (.bipush 97, 2) := by decide +kernel
theorem dM_code_10 : decode cM_code 10 = .ok (.isub, 1) := by decide +kernel
theorem dM_code_11 : decode cM_code 11 = .ok (.iconst 1, 1) := by decide +kernel
theorem dM_code_12 : decode cM_code 12 = .ok (.iadd, 1) := by decide +kernel
theorem dM_code_13 : decode cM_code 13 = .ok (.goto 32, 3) := by decide +kernel
theorem dM_code_16 : decode cM_code 16 = .ok (.iload_n 0, 1) := by decide +kernel
theorem dM_code_17 : decode cM_code 17 = .ok (.invokestatic 415, 3) := by decide +kernel
theorem dM_code_20 : decode cM_code 20 = .ok (.ifCond .eq 13, 3) := by decide +kernel
theorem dM_code_23 : decode cM_code 23 = .ok (.iload_n 0, 1) := by decide +kernel
theorem dM_code_24 : decode cM_code 24 = .ok (.bipush 48, 2) := by decide +kernel
theorem dM_code_26 : decode cM_code 26 = .ok (.isub, 1) := by decide +kernel
theorem dM_code_27 : decode cM_code 27 = .ok (.bipush 27, 2) := by decide +kernel
theorem dM_code_29 : decode cM_code 29 = .ok (.iadd, 1) := by decide +kernel
theorem dM_code_30 : decode cM_code 30 = .ok (.goto 15, 3) := by decide +kernel
theorem dM_code_33 : decode cM_code 33 = .ok (.iload_n 0, 1) := by decide +kernel
theorem dM_code_34 : decode cM_code 34 = .ok (.bipush 95, 2) := by decide +kernel
theorem dM_code_36 : decode cM_code 36 = .ok (.if_icmp .ne 8, 3) := by decide +kernel
theorem dM_code_39 : decode cM_code 39 = .ok (.bipush 37, 2) := by decide +kernel
theorem dM_code_41 : decode cM_code 41 = .ok (.goto 4, 3) := by decide +kernel
theorem dM_code_44 : decode cM_code 44 = .ok (.iconst 0, 1) := by decide +kernel
theorem dM_code_45 : decode cM_code 45 = .ok (.ireturn, 1) := by decide +kernel
theorem vM_code_411 : OkS RM 411 yM_isLetter cM_isLetter 1 (some .boolean) 1 := ⟨aw_s (tm 2156 (by decide +kernel) rfl) (tm 2157 (by decide +kernel) rfl) (tm 302 (by decide +kernel) rfl) (tm 2158 (by decide +kernel) rfl), by decide +kernel, by decide +kernel, by decide +kernel⟩
theorem vM_code_415 : OkS RM 415 yM_isDigit cM_isDigit 1 (some .boolean) 1 := ⟨aw_s (tm 2159 (by decide +kernel) rfl) (tm 2160 (by decide +kernel) rfl) (tm 302 (by decide +kernel) rfl) (tm 2161 (by decide +kernel) rfl), by decide +kernel, by decide +kernel, by decide +kernel⟩
theorem vM_init_398 : OkS RM 398 yM_code cM_code 1 (some .int) 1 := ⟨aw_s (tm 2153 (by decide +kernel) rfl) (tm 2154 (by decide +kernel) rfl) (tm 302 (by decide +kernel) rfl) (tm 2155 (by decide +kernel) rfl), by decide +kernel, by decide +kernel, by decide +kernel⟩
theorem vM_init_386 : OkV RM 386 yJ0_length_8abf5 cJ0_length_8abf5 1 (some .int) 0 := ⟨aw_v (tm 2150 (by decide +kernel) rfl) (tm 394 (by decide +kernel) rfl) (tm 395 (by decide +kernel) rfl) (tm 303 (by decide +kernel) rfl) (tm 396 (by decide +kernel) rfl), by decide +kernel, by decide +kernel, by decide +kernel⟩
theorem vM_init_392 : OkV RM 392 yJ0_charAt_5068e cJ0_charAt_5068e 2 (some .char) 1 := ⟨aw_v (tm 2151 (by decide +kernel) rfl) (tm 404 (by decide +kernel) rfl) (tm 405 (by decide +kernel) rfl) (tm 303 (by decide +kernel) rfl) (tm 406 (by decide +kernel) rfl), by decide +kernel, by decide +kernel, by decide +kernel⟩
theorem k_objL : Cond.methodLink RM 3 Lib.objectInit ∈ tb := tm 2147 (by decide +kernel) rfl
theorem k_objI : Cond.instanceMethod Lib.objectInit ∈ tb := tm 327 (by decide +kernel) rfl
theorem k_objC : Cond.code Lib.objectInit ⟨#[0xb1]⟩ 1 none ∈ tb := tm 328 (by decide +kernel) rfl
theorem k_38 : Cond.constantLong RM 396 38 ∈ tb := tm 2152 (by decide +kernel) rfl
theorem k_c317 : Cond.constant RM 317 220800 ∈ tb := tm 2148 (by decide +kernel) rfl
theorem k_c964 : Cond.constant RM 964 2000000000 ∈ tb := tm 3296 (by decide +kernel) rfl
theorem k_c898 : Cond.constant RM 898 1103515245 ∈ tb := tm 3325 (by decide +kernel) rfl
theorem k_c1041 : Cond.constant RM 1041 1000000 ∈ tb := tm 3350 (by decide +kernel) rfl
